set_option maxHeartbeats 4000000 in
set_option maxRecDepth 100000 in
theorem t_arrive (l : Launch) (hlt : l.stackTraces = false) (dC : Nat → ClassId) (dI : Nat → Nat → Nat) (sz : Nat) (x rk hd jm bs b0 b1 od o1 o2 o3 jb pl ap : Nat) (cI cZ cB : ClassId) (b len h w : Int32) (hh : ¬ ((b = 0 ∨ b = 1) ∧ ¬ len < 1 ∧ ¬ h < 1 ∧ 1 ≤ w)) : vx_Met l yX7_arrive wsX7_arrive ({ frames := 6, cells := 1, slots := 6, locals := 89 }) (va_Pc [.ref x, .int b, .int len, .int h, .int w] (pt_BT (dC, dI) [(x, .inr (5, [.ref rk, .ref bs, .ref od, .ref jb, .ref ap, .int 0, .int 1, .int 0, .int 0, .int 0])), (rk, .inr (4, [.ref hd, .ref jm])), (hd, .inl (cI, 96, .inl (fun _ => 0))), (jm, .inl (cZ, 4, .inl (fun _ => 0))), (bs, .inl (cB, 2, .inr (.inr (.inr (.inr (va_up (va_up (fun _ => none) 0 (some b0)) 1 (some b1))))))), (b0, .inr (0, [.int 2, .int 0, .int 0, .int 0, .int 0, .int (-1)])), (b1, .inr (0, [.int 2, .int 0, .int 0, .int 0, .int 0, .int (-1)])), (od, .inr (2, [.ref o1, .ref o2, .ref o3, .int 0])), (jb, .inr (1, [.ref pl, .int (-1), .int 0, .int 0, .int 0]))] [(cI, .int), (cZ, .boolean), (cB, .object "ParkTower$Bay")] sz)) (va_Qi (fun (_ : Int32) (_ : Unit) => False) (fun _ _ => True) (fun q => sz ≤ q)) (vx_X (fun (_ : Unit) => True) (fun E _ _ => E = "java/lang/IllegalArgumentException") (fun q => sz ≤ q)) 1 6 (fun q => sz ≤ q) := by
  refine vx_ofW (cc := cX7_arrive) (maxL := 8) (ret := (some .int)) (by decide) rfl ?_
  intro p e s m args below meth c s₁ B hml hex hv
  obtain ⟨rfl, hsz, hP, hK, hD0, hN, hE, hZ⟩ := hv
  have hx := B.exec
  have hb := B.bytes
  have hr := B.returns
  have hts := atoms_spec (ws := wsX7_arrive) B.pre
  have hown : s.vm.findClass RX7 = some m.cls := findClass_of_methodNamed B.named
  have hlocks := B.notSynchronized
  subst hsz
  have hP : va_P (dC, dI) vwCl [(x, .inr (5, [.ref rk, .ref bs, .ref od, .ref jb, .ref ap, .int 0, .int 1, .int 0, .int 0, .int 0])), (rk, .inr (4, [.ref hd, .ref jm])), (hd, .inl (cI, 96, .inl (fun _ => 0))), (jm, .inl (cZ, 4, .inl (fun _ => 0))), (bs, .inl (cB, 2, .inr (.inr (.inr (.inr (va_up (va_up (fun _ => none) 0 (some b0)) 1 (some b1))))))), (b0, .inr (0, [.int 2, .int 0, .int 0, .int 0, .int 0, .int (-1)])), (b1, .inr (0, [.int 2, .int 0, .int 0, .int 0, .int 0, .int (-1)])), (od, .inr (2, [.ref o1, .ref o2, .ref o3, .int 0])), (jb, .inr (1, [.ref pl, .int (-1), .int 0, .int 0, .int 0]))] s.heap := hP
  have hK : va_K (dC, dI) vwCl [(cI, .int), (cZ, .boolean), (cB, .object "ParkTower$Bay")] s := hK
  have hl := lv_entry ([.ref x, .int b, .int len, .int h, .int w]) (n := 8) (Nat.le_of_ble_eq_true rfl)
  rw [lg_entry_eq]
  generalize (lg_sl ([.ref x, .int b, .int len, .int h, .int w]) ++ List.replicate (8 - (lg_sl ([.ref x, .int b, .int len, .int h, .int w])).length) Slot.unset).toArray = ls at hl ⊢
  have hl : lv_has ls 8 [(0, .ref x), (1, .int b), (2, .int len), (3, .int h), (4, .int w)] := hl
  refine lv_iload_n hx hb dX7_arrive_0 rfl (lv_at hl 1 rfl) ?_
  refine pt_cSi (va_runS (As := [.int b]) (rest := []) ⟨hx, hb, hml, hown, hts⟩ (c_isBay l dC dI b) (cwS 1 hts gX7_arrive_X7_isBay rfl rfl rfl (by decide +kernel) ⟨Nat.le_of_ble_eq_true rfl, Nat.le_of_ble_eq_true rfl⟩) ⟨pt_blind, pt_pre (w := []) (tys := []) (hP.sub [] rfl) (hK.sub [] rfl) hN⟩ rfl rfl hl.1 rfl (lv_room (Nat.le_of_ble_eq_true rfl)) dX7_arrive_1 ⟨Nat.le_of_ble_eq_true rfl, Nat.le_of_ble_eq_true rfl⟩) (fun r_1 hr_1 => ?_)
  by_cases g_b : b = 0 ∨ b = 1
  · obtain rfl : r_1 = 1 := hr_1.trans (if_pos g_b)
    refine lv_if_eq (tgt := 23) hx hb dX7_arrive_4 (by decide) (fun c => absurd c (by decide)) (fun _ => ?_)
    refine lv_iload_n hx hb dX7_arrive_7 rfl (lv_at hl 2 rfl) ?_
    refine lv_iconst (v := 1) hx hb dX7_arrive_8 (by decide) ?_
    refine lv_icmp_lt (tgt := 23) hx hb dX7_arrive_9 (by decide) (fun c_2 => ?_) (fun c_2 => ?_)
    · have c_2 : (len < 1) := c_2
      exact vx_throw0 (own := RX7) (cls := "java/lang/IllegalArgumentException") (names := ["java/lang/RuntimeException", "java/lang/Exception"]) (ik := 52) (ic := 54) (A := fun q => s.heap.size ≤ q) hx hb hlt hown (by decide) (by decide) (hts (.classLink RX7 52 "java/lang/IllegalArgumentException") (by decide +kernel)) (hts (.initialized "java/lang/IllegalArgumentException") (by decide +kernel)) (pt_hat hts (by decide +kernel) pt_no54 hE) pt_ok54 hZ.1 hZ.2 va_S.rf (by rw [hml]; exact hl.1) dX7_arrive_23 dX7_arrive_26 dX7_arrive_27 dX7_arrive_30 (fun x h => (hex x h).elim) (Nat.le_of_ble_eq_true rfl) (Nat.le_of_ble_eq_true rfl) (Nat.le_of_ble_eq_true rfl) (Nat.le_of_ble_eq_true rfl) hlocks (fun t hal hz hk => ⟨(), trivial, rfl, hz, fun q h1 _ => hk q h1⟩) (fun z h => by cases h) (Nat.le_of_ble_eq_true rfl) (Nat.le_of_ble_eq_true rfl)
    · have c_2 : ¬ (len < 1) := c_2
      refine lv_iload_n hx hb dX7_arrive_12 rfl (lv_at hl 3 rfl) ?_
      refine lv_iconst (v := 1) hx hb dX7_arrive_13 (by decide) ?_
      refine lv_icmp_lt (tgt := 23) hx hb dX7_arrive_14 (by decide) (fun c_3 => ?_) (fun c_3 => ?_)
      · have c_3 : (h < 1) := c_3
        exact vx_throw0 (own := RX7) (cls := "java/lang/IllegalArgumentException") (names := ["java/lang/RuntimeException", "java/lang/Exception"]) (ik := 52) (ic := 54) (A := fun q => s.heap.size ≤ q) hx hb hlt hown (by decide) (by decide) (hts (.classLink RX7 52 "java/lang/IllegalArgumentException") (by decide +kernel)) (hts (.initialized "java/lang/IllegalArgumentException") (by decide +kernel)) (pt_hat hts (by decide +kernel) pt_no54 hE) pt_ok54 hZ.1 hZ.2 va_S.rf (by rw [hml]; exact hl.1) dX7_arrive_23 dX7_arrive_26 dX7_arrive_27 dX7_arrive_30 (fun x h => (hex x h).elim) (Nat.le_of_ble_eq_true rfl) (Nat.le_of_ble_eq_true rfl) (Nat.le_of_ble_eq_true rfl) (Nat.le_of_ble_eq_true rfl) hlocks (fun t hal hz hk => ⟨(), trivial, rfl, hz, fun q h1 _ => hk q h1⟩) (fun z h => by cases h) (Nat.le_of_ble_eq_true rfl) (Nat.le_of_ble_eq_true rfl)
      · have c_3 : ¬ (h < 1) := c_3
        refine lv_iload hx hb dX7_arrive_17 (lv_at hl 4 rfl) ?_
        refine lv_iconst (v := 1) hx hb dX7_arrive_19 (by decide) ?_
        refine lv_icmp_ge (tgt := 31) hx hb dX7_arrive_20 (by decide) (fun c_4 => ?_) (fun c_4 => ?_)
        · have c_4 : (1 ≤ w) := c_4
          exact absurd ⟨g_b, by assumption, by assumption, by assumption⟩ hh
        · have c_4 : ¬ (1 ≤ w) := c_4
          exact vx_throw0 (own := RX7) (cls := "java/lang/IllegalArgumentException") (names := ["java/lang/RuntimeException", "java/lang/Exception"]) (ik := 52) (ic := 54) (A := fun q => s.heap.size ≤ q) hx hb hlt hown (by decide) (by decide) (hts (.classLink RX7 52 "java/lang/IllegalArgumentException") (by decide +kernel)) (hts (.initialized "java/lang/IllegalArgumentException") (by decide +kernel)) (pt_hat hts (by decide +kernel) pt_no54 hE) pt_ok54 hZ.1 hZ.2 va_S.rf (by rw [hml]; exact hl.1) dX7_arrive_23 dX7_arrive_26 dX7_arrive_27 dX7_arrive_30 (fun x h => (hex x h).elim) (Nat.le_of_ble_eq_true rfl) (Nat.le_of_ble_eq_true rfl) (Nat.le_of_ble_eq_true rfl) (Nat.le_of_ble_eq_true rfl) hlocks (fun t hal hz hk => ⟨(), trivial, rfl, hz, fun q h1 _ => hk q h1⟩) (fun z h => by cases h) (Nat.le_of_ble_eq_true rfl) (Nat.le_of_ble_eq_true rfl)
  · obtain rfl : r_1 = 0 := hr_1.trans (if_neg g_b)
    refine lv_if_eq (tgt := 23) hx hb dX7_arrive_4 (by decide) (fun _ => ?_) (fun c => absurd (by decide) c)
    exact vx_throw0 (own := RX7) (cls := "java/lang/IllegalArgumentException") (names := ["java/lang/RuntimeException", "java/lang/Exception"]) (ik := 52) (ic := 54) (A := fun q => s.heap.size ≤ q) hx hb hlt hown (by decide) (by decide) (hts (.classLink RX7 52 "java/lang/IllegalArgumentException") (by decide +kernel)) (hts (.initialized "java/lang/IllegalArgumentException") (by decide +kernel)) (pt_hat hts (by decide +kernel) pt_no54 hE) pt_ok54 hZ.1 hZ.2 va_S.rf (by rw [hml]; exact hl.1) dX7_arrive_23 dX7_arrive_26 dX7_arrive_27 dX7_arrive_30 (fun x h => (hex x h).elim) (Nat.le_of_ble_eq_true rfl) (Nat.le_of_ble_eq_true rfl) (Nat.le_of_ble_eq_true rfl) (Nat.le_of_ble_eq_true rfl) hlocks (fun t hal hz hk => ⟨(), trivial, rfl, hz, fun q h1 _ => hk q h1⟩) (fun z h => by cases h) (Nat.le_of_ble_eq_true rfl) (Nat.le_of_ble_eq_true rfl)
set_option maxHeartbeats 4000000 in
set_option maxRecDepth 100000 in
theorem t_shut (l : Launch) (hlt : l.stackTraces = false) (dC : Nat → ClassId) (dI : Nat → Nat → Nat) (sz : Nat) (x rk hd jm bs b0 b1 od o1 o2 o3 jb pl ap : Nat) (cI cZ cB : ClassId) (b : Int32) (nb : ¬ (b = 0 ∨ b = 1)) : vx_Met l yX7_shut wsX7_shut ({ frames := 6, cells := 1, slots := 6, locals := 89 }) (va_Pc [.ref x, .int b] (pt_BT (dC, dI) [(x, .inr (5, [.ref rk, .ref bs, .ref od, .ref jb, .ref ap, .int 0, .int 1, .int 0, .int 0, .int 0])), (rk, .inr (4, [.ref hd, .ref jm])), (hd, .inl (cI, 96, .inl (fun _ => 0))), (jm, .inl (cZ, 4, .inl (fun _ => 0))), (bs, .inl (cB, 2, .inr (.inr (.inr (.inr (va_up (va_up (fun _ => none) 0 (some b0)) 1 (some b1))))))), (b0, .inr (0, [.int 2, .int 0, .int 0, .int 0, .int 0, .int (-1)])), (b1, .inr (0, [.int 2, .int 0, .int 0, .int 0, .int 0, .int (-1)])), (od, .inr (2, [.ref o1, .ref o2, .ref o3, .int 0])), (jb, .inr (1, [.ref pl, .int (-1), .int 0, .int 0, .int 0]))] [(cI, .int), (cZ, .boolean), (cB, .object "ParkTower$Bay")] sz)) (va_Qv (fun (_ : Unit) => False) (fun _ _ => True) (fun q => sz ≤ q)) (vx_X (fun (_ : Unit) => True) (fun E _ _ => E = "java/lang/IllegalArgumentException") (fun q => sz ≤ q)) 1 6 (fun q => sz ≤ q) := by
  refine vx_ofW (cc := cX7_shut) (maxL := 3) (ret := none) (by decide) rfl ?_
  intro p e s m args below meth c s₁ B hml hex hv
  obtain ⟨rfl, hsz, hP, hK, hD0, hN, hE, hZ⟩ := hv
  have hx := B.exec
  have hb := B.bytes
  have hr := B.returns
  have hts := atoms_spec (ws := wsX7_shut) B.pre
  have hown : s.vm.findClass RX7 = some m.cls := findClass_of_methodNamed B.named
  have hlocks := B.notSynchronized
  subst hsz
  have hP : va_P (dC, dI) vwCl [(x, .inr (5, [.ref rk, .ref bs, .ref od, .ref jb, .ref ap, .int 0, .int 1, .int 0, .int 0, .int 0])), (rk, .inr (4, [.ref hd, .ref jm])), (hd, .inl (cI, 96, .inl (fun _ => 0))), (jm, .inl (cZ, 4, .inl (fun _ => 0))), (bs, .inl (cB, 2, .inr (.inr (.inr (.inr (va_up (va_up (fun _ => none) 0 (some b0)) 1 (some b1))))))), (b0, .inr (0, [.int 2, .int 0, .int 0, .int 0, .int 0, .int (-1)])), (b1, .inr (0, [.int 2, .int 0, .int 0, .int 0, .int 0, .int (-1)])), (od, .inr (2, [.ref o1, .ref o2, .ref o3, .int 0])), (jb, .inr (1, [.ref pl, .int (-1), .int 0, .int 0, .int 0]))] s.heap := hP
  have hK : va_K (dC, dI) vwCl [(cI, .int), (cZ, .boolean), (cB, .object "ParkTower$Bay")] s := hK
  have hl := lv_entry ([.ref x, .int b]) (n := 3) (Nat.le_of_ble_eq_true rfl)
  rw [lg_entry_eq]
  generalize (lg_sl ([.ref x, .int b]) ++ List.replicate (3 - (lg_sl ([.ref x, .int b])).length) Slot.unset).toArray = ls at hl ⊢
  have hl : lv_has ls 3 [(0, .ref x), (1, .int b)] := hl
  refine lv_iload_n hx hb dX7_shut_0 rfl (lv_at hl 1 rfl) ?_
  refine pt_cSi (va_runS (As := [.int b]) (rest := []) ⟨hx, hb, hml, hown, hts⟩ (c_isBay l dC dI b) (cwS 1 hts gX7_shut_X7_isBay rfl rfl rfl (by decide +kernel) ⟨Nat.le_of_ble_eq_true rfl, Nat.le_of_ble_eq_true rfl⟩) ⟨pt_blind, pt_pre (w := []) (tys := []) (hP.sub [] rfl) (hK.sub [] rfl) hN⟩ rfl rfl hl.1 rfl (lv_room (Nat.le_of_ble_eq_true rfl)) dX7_shut_1 ⟨Nat.le_of_ble_eq_true rfl, Nat.le_of_ble_eq_true rfl⟩) (fun r_1 hr_1 => ?_)
  obtain rfl : r_1 = 0 := hr_1.trans (if_neg nb)
  refine lv_if_ne (tgt := 15) hx hb dX7_shut_4 (by decide) (fun c => absurd (by decide) c) (fun _ => ?_)
  exact vx_throw0 (own := RX7) (cls := "java/lang/IllegalArgumentException") (names := ["java/lang/RuntimeException", "java/lang/Exception"]) (ik := 52) (ic := 54) (A := fun q => s.heap.size ≤ q) hx hb hlt hown (by decide) (by decide) (hts (.classLink RX7 52 "java/lang/IllegalArgumentException") (by decide +kernel)) (hts (.initialized "java/lang/IllegalArgumentException") (by decide +kernel)) (pt_hat hts (by decide +kernel) pt_no54 hE) pt_ok54 hZ.1 hZ.2 va_S.rf (by rw [hml]; exact hl.1) dX7_shut_7 dX7_shut_10 dX7_shut_11 dX7_shut_14 (fun x h => (hex x h).elim) (Nat.le_of_ble_eq_true rfl) (Nat.le_of_ble_eq_true rfl) (Nat.le_of_ble_eq_true rfl) (Nat.le_of_ble_eq_true rfl) hlocks (fun t hal hz hk => ⟨(), trivial, rfl, hz, fun q h1 _ => hk q h1⟩) (fun z h => by cases h) (Nat.le_of_ble_eq_true rfl) (Nat.le_of_ble_eq_true rfl)
set_option maxHeartbeats 4000000 in
set_option maxRecDepth 100000 in
theorem t_person (l : Launch) (hlt : l.stackTraces = false) (dC : Nat → ClassId) (dI : Nat → Nat → Nat) (sz : Nat) (x rk hd jm bs b0 b1 od o1 o2 o3 jb pl ap : Nat) (cI cZ cB : ClassId) (b on : Int32) (nb : ¬ (b = 0 ∨ b = 1)) : vx_Met l yX7_person wsX7_person ({ frames := 6, cells := 1, slots := 6, locals := 89 }) (va_Pc [.ref x, .int b, .int on] (pt_BT (dC, dI) [(x, .inr (5, [.ref rk, .ref bs, .ref od, .ref jb, .ref ap, .int 0, .int 1, .int 0, .int 0, .int 0])), (rk, .inr (4, [.ref hd, .ref jm])), (hd, .inl (cI, 96, .inl (fun _ => 0))), (jm, .inl (cZ, 4, .inl (fun _ => 0))), (bs, .inl (cB, 2, .inr (.inr (.inr (.inr (va_up (va_up (fun _ => none) 0 (some b0)) 1 (some b1))))))), (b0, .inr (0, [.int 2, .int 0, .int 0, .int 0, .int 0, .int (-1)])), (b1, .inr (0, [.int 2, .int 0, .int 0, .int 0, .int 0, .int (-1)])), (od, .inr (2, [.ref o1, .ref o2, .ref o3, .int 0])), (jb, .inr (1, [.ref pl, .int (-1), .int 0, .int 0, .int 0]))] [(cI, .int), (cZ, .boolean), (cB, .object "ParkTower$Bay")] sz)) (va_Qv (fun (_ : Unit) => False) (fun _ _ => True) (fun q => sz ≤ q)) (vx_X (fun (_ : Unit) => True) (fun E _ _ => E = "java/lang/IllegalArgumentException") (fun q => sz ≤ q)) 1 6 (fun q => sz ≤ q) := by
  refine vx_ofW (cc := cX7_person) (maxL := 4) (ret := none) (by decide) rfl ?_
  intro p e s m args below meth c s₁ B hml hex hv
  obtain ⟨rfl, hsz, hP, hK, hD0, hN, hE, hZ⟩ := hv
  have hx := B.exec
  have hb := B.bytes
  have hr := B.returns
  have hts := atoms_spec (ws := wsX7_person) B.pre
  have hown : s.vm.findClass RX7 = some m.cls := findClass_of_methodNamed B.named
  have hlocks := B.notSynchronized
  subst hsz
  have hP : va_P (dC, dI) vwCl [(x, .inr (5, [.ref rk, .ref bs, .ref od, .ref jb, .ref ap, .int 0, .int 1, .int 0, .int 0, .int 0])), (rk, .inr (4, [.ref hd, .ref jm])), (hd, .inl (cI, 96, .inl (fun _ => 0))), (jm, .inl (cZ, 4, .inl (fun _ => 0))), (bs, .inl (cB, 2, .inr (.inr (.inr (.inr (va_up (va_up (fun _ => none) 0 (some b0)) 1 (some b1))))))), (b0, .inr (0, [.int 2, .int 0, .int 0, .int 0, .int 0, .int (-1)])), (b1, .inr (0, [.int 2, .int 0, .int 0, .int 0, .int 0, .int (-1)])), (od, .inr (2, [.ref o1, .ref o2, .ref o3, .int 0])), (jb, .inr (1, [.ref pl, .int (-1), .int 0, .int 0, .int 0]))] s.heap := hP
  have hK : va_K (dC, dI) vwCl [(cI, .int), (cZ, .boolean), (cB, .object "ParkTower$Bay")] s := hK
  have hl := lv_entry ([.ref x, .int b, .int on]) (n := 4) (Nat.le_of_ble_eq_true rfl)
  rw [lg_entry_eq]
  generalize (lg_sl ([.ref x, .int b, .int on]) ++ List.replicate (4 - (lg_sl ([.ref x, .int b, .int on])).length) Slot.unset).toArray = ls at hl ⊢
  have hl : lv_has ls 4 [(0, .ref x), (1, .int b), (2, .int on)] := hl
  refine lv_iload_n hx hb dX7_person_0 rfl (lv_at hl 1 rfl) ?_
  refine pt_cSi (va_runS (As := [.int b]) (rest := []) ⟨hx, hb, hml, hown, hts⟩ (c_isBay l dC dI b) (cwS 1 hts gX7_person_X7_isBay rfl rfl rfl (by decide +kernel) ⟨Nat.le_of_ble_eq_true rfl, Nat.le_of_ble_eq_true rfl⟩) ⟨pt_blind, pt_pre (w := []) (tys := []) (hP.sub [] rfl) (hK.sub [] rfl) hN⟩ rfl rfl hl.1 rfl (lv_room (Nat.le_of_ble_eq_true rfl)) dX7_person_1 ⟨Nat.le_of_ble_eq_true rfl, Nat.le_of_ble_eq_true rfl⟩) (fun r_1 hr_1 => ?_)
  obtain rfl : r_1 = 0 := hr_1.trans (if_neg nb)
  refine lv_if_ne (tgt := 15) hx hb dX7_person_4 (by decide) (fun c => absurd (by decide) c) (fun _ => ?_)
  exact vx_throw0 (own := RX7) (cls := "java/lang/IllegalArgumentException") (names := ["java/lang/RuntimeException", "java/lang/Exception"]) (ik := 52) (ic := 54) (A := fun q => s.heap.size ≤ q) hx hb hlt hown (by decide) (by decide) (hts (.classLink RX7 52 "java/lang/IllegalArgumentException") (by decide +kernel)) (hts (.initialized "java/lang/IllegalArgumentException") (by decide +kernel)) (pt_hat hts (by decide +kernel) pt_no54 hE) pt_ok54 hZ.1 hZ.2 va_S.rf (by rw [hml]; exact hl.1) dX7_person_7 dX7_person_10 dX7_person_11 dX7_person_14 (fun x h => (hex x h).elim) (Nat.le_of_ble_eq_true rfl) (Nat.le_of_ble_eq_true rfl) (Nat.le_of_ble_eq_true rfl) (Nat.le_of_ble_eq_true rfl) hlocks (fun t hal hz hk => ⟨(), trivial, rfl, hz, fun q h1 _ => hk q h1⟩) (fun z h => by cases h) (Nat.le_of_ble_eq_true rfl) (Nat.le_of_ble_eq_true rfl)
set_option maxHeartbeats 4000000 in
set_option maxRecDepth 100000 in
theorem t_gone (l : Launch) (hlt : l.stackTraces = false) (dC : Nat → ClassId) (dI : Nat → Nat → Nat) (sz : Nat) (x rk hd jm bs b0 b1 od o1 o2 o3 jb pl ap : Nat) (cI cZ cB : ClassId) (b : Int32) (nb : ¬ (b = 0 ∨ b = 1)) : vx_Met l yX7_gone wsX7_gone ({ frames := 6, cells := 1, slots := 6, locals := 89 }) (va_Pc [.ref x, .int b] (pt_BT (dC, dI) [(x, .inr (5, [.ref rk, .ref bs, .ref od, .ref jb, .ref ap, .int 0, .int 1, .int 0, .int 0, .int 0])), (rk, .inr (4, [.ref hd, .ref jm])), (hd, .inl (cI, 96, .inl (fun _ => 0))), (jm, .inl (cZ, 4, .inl (fun _ => 0))), (bs, .inl (cB, 2, .inr (.inr (.inr (.inr (va_up (va_up (fun _ => none) 0 (some b0)) 1 (some b1))))))), (b0, .inr (0, [.int 2, .int 0, .int 0, .int 0, .int 0, .int (-1)])), (b1, .inr (0, [.int 2, .int 0, .int 0, .int 0, .int 0, .int (-1)])), (od, .inr (2, [.ref o1, .ref o2, .ref o3, .int 0])), (jb, .inr (1, [.ref pl, .int (-1), .int 0, .int 0, .int 0]))] [(cI, .int), (cZ, .boolean), (cB, .object "ParkTower$Bay")] sz)) (va_Qi (fun (_ : Int32) (_ : Unit) => False) (fun _ _ => True) (fun q => sz ≤ q)) (vx_X (fun (_ : Unit) => True) (fun E _ _ => E = "java/lang/IllegalArgumentException") (fun q => sz ≤ q)) 1 6 (fun q => sz ≤ q) := by
  refine vx_ofW (cc := cX7_gone) (maxL := 4) (ret := (some .int)) (by decide) rfl ?_
  intro p e s m args below meth c s₁ B hml hex hv
  obtain ⟨rfl, hsz, hP, hK, hD0, hN, hE, hZ⟩ := hv
  have hx := B.exec
  have hb := B.bytes
  have hr := B.returns
  have hts := atoms_spec (ws := wsX7_gone) B.pre
  have hown : s.vm.findClass RX7 = some m.cls := findClass_of_methodNamed B.named
  have hlocks := B.notSynchronized
  subst hsz
  have hP : va_P (dC, dI) vwCl [(x, .inr (5, [.ref rk, .ref bs, .ref od, .ref jb, .ref ap, .int 0, .int 1, .int 0, .int 0, .int 0])), (rk, .inr (4, [.ref hd, .ref jm])), (hd, .inl (cI, 96, .inl (fun _ => 0))), (jm, .inl (cZ, 4, .inl (fun _ => 0))), (bs, .inl (cB, 2, .inr (.inr (.inr (.inr (va_up (va_up (fun _ => none) 0 (some b0)) 1 (some b1))))))), (b0, .inr (0, [.int 2, .int 0, .int 0, .int 0, .int 0, .int (-1)])), (b1, .inr (0, [.int 2, .int 0, .int 0, .int 0, .int 0, .int (-1)])), (od, .inr (2, [.ref o1, .ref o2, .ref o3, .int 0])), (jb, .inr (1, [.ref pl, .int (-1), .int 0, .int 0, .int 0]))] s.heap := hP
  have hK : va_K (dC, dI) vwCl [(cI, .int), (cZ, .boolean), (cB, .object "ParkTower$Bay")] s := hK
  have hl := lv_entry ([.ref x, .int b]) (n := 4) (Nat.le_of_ble_eq_true rfl)
  rw [lg_entry_eq]
  generalize (lg_sl ([.ref x, .int b]) ++ List.replicate (4 - (lg_sl ([.ref x, .int b])).length) Slot.unset).toArray = ls at hl ⊢
  have hl : lv_has ls 4 [(0, .ref x), (1, .int b)] := hl
  refine lv_iload_n hx hb dX7_gone_0 rfl (lv_at hl 1 rfl) ?_
  refine pt_cSi (va_runS (As := [.int b]) (rest := []) ⟨hx, hb, hml, hown, hts⟩ (c_isBay l dC dI b) (cwS 1 hts gX7_gone_X7_isBay rfl rfl rfl (by decide +kernel) ⟨Nat.le_of_ble_eq_true rfl, Nat.le_of_ble_eq_true rfl⟩) ⟨pt_blind, pt_pre (w := []) (tys := []) (hP.sub [] rfl) (hK.sub [] rfl) hN⟩ rfl rfl hl.1 rfl (lv_room (Nat.le_of_ble_eq_true rfl)) dX7_gone_1 ⟨Nat.le_of_ble_eq_true rfl, Nat.le_of_ble_eq_true rfl⟩) (fun r_1 hr_1 => ?_)
  obtain rfl : r_1 = 0 := hr_1.trans (if_neg nb)
  refine lv_if_ne (tgt := 15) hx hb dX7_gone_4 (by decide) (fun c => absurd (by decide) c) (fun _ => ?_)
  exact vx_throw0 (own := RX7) (cls := "java/lang/IllegalArgumentException") (names := ["java/lang/RuntimeException", "java/lang/Exception"]) (ik := 52) (ic := 54) (A := fun q => s.heap.size ≤ q) hx hb hlt hown (by decide) (by decide) (hts (.classLink RX7 52 "java/lang/IllegalArgumentException") (by decide +kernel)) (hts (.initialized "java/lang/IllegalArgumentException") (by decide +kernel)) (pt_hat hts (by decide +kernel) pt_no54 hE) pt_ok54 hZ.1 hZ.2 va_S.rf (by rw [hml]; exact hl.1) dX7_gone_7 dX7_gone_10 dX7_gone_11 dX7_gone_14 (fun x h => (hex x h).elim) (Nat.le_of_ble_eq_true rfl) (Nat.le_of_ble_eq_true rfl) (Nat.le_of_ble_eq_true rfl) (Nat.le_of_ble_eq_true rfl) hlocks (fun t hal hz hk => ⟨(), trivial, rfl, hz, fun q h1 _ => hk q h1⟩) (fun z h => by cases h) (Nat.le_of_ble_eq_true rfl) (Nat.le_of_ble_eq_true rfl)
set_option maxHeartbeats 4000000 in
set_option maxRecDepth 100000 in
theorem t_gone0 (l : Launch) (hlt : l.stackTraces = false) (dC : Nat → ClassId) (dI : Nat → Nat → Nat) (sz : Nat) (x rk hd jm bs b0 b1 od o1 o2 o3 jb pl ap : Nat) (cI cZ cB : ClassId) : vx_Met l yX7_gone wsX7_gone ({ frames := 6, cells := 1, slots := 6, locals := 89 }) (va_Pc [.ref x, .int 0] (pt_BT (dC, dI) [(x, .inr (5, [.ref rk, .ref bs, .ref od, .ref jb, .ref ap, .int 0, .int 1, .int 0, .int 0, .int 0])), (rk, .inr (4, [.ref hd, .ref jm])), (hd, .inl (cI, 96, .inl (fun _ => 0))), (jm, .inl (cZ, 4, .inl (fun _ => 0))), (bs, .inl (cB, 2, .inr (.inr (.inr (.inr (va_up (va_up (fun _ => none) 0 (some b0)) 1 (some b1))))))), (b0, .inr (0, [.int 2, .int 0, .int 0, .int 0, .int 0, .int (-1)])), (b1, .inr (0, [.int 2, .int 0, .int 0, .int 0, .int 0, .int (-1)])), (od, .inr (2, [.ref o1, .ref o2, .ref o3, .int 0])), (jb, .inr (1, [.ref pl, .int (-1), .int 0, .int 0, .int 0]))] [(cI, .int), (cZ, .boolean), (cB, .object "ParkTower$Bay")] sz)) (va_Qi (fun (_ : Int32) (_ : Unit) => False) (fun _ _ => True) (fun q => sz ≤ q)) (vx_X (fun (_ : Unit) => True) (fun E _ _ => E = "java/lang/IllegalStateException") (fun q => sz ≤ q)) 1 6 (fun q => sz ≤ q) := by
  refine vx_ofW (cc := cX7_gone) (maxL := 4) (ret := (some .int)) (by decide) rfl ?_
  intro p e s m args below meth c s₁ B hml hex hv
  obtain ⟨rfl, hsz, hP, hK, hD0, hN, hE, hZ⟩ := hv
  have hx := B.exec
  have hb := B.bytes
  have hr := B.returns
  have hts := atoms_spec (ws := wsX7_gone) B.pre
  have hown : s.vm.findClass RX7 = some m.cls := findClass_of_methodNamed B.named
  have hlocks := B.notSynchronized
  have iX1 : ∀ w ∈ wsX10, w ∈ wsX7_gone := by decide +kernel
  have iX7 : ∀ w ∈ wsX70, w ∈ wsX7_gone := by decide +kernel
  subst hsz
  have hP : va_P (dC, dI) vwCl [(x, .inr (5, [.ref rk, .ref bs, .ref od, .ref jb, .ref ap, .int 0, .int 1, .int 0, .int 0, .int 0])), (rk, .inr (4, [.ref hd, .ref jm])), (hd, .inl (cI, 96, .inl (fun _ => 0))), (jm, .inl (cZ, 4, .inl (fun _ => 0))), (bs, .inl (cB, 2, .inr (.inr (.inr (.inr (va_up (va_up (fun _ => none) 0 (some b0)) 1 (some b1))))))), (b0, .inr (0, [.int 2, .int 0, .int 0, .int 0, .int 0, .int (-1)])), (b1, .inr (0, [.int 2, .int 0, .int 0, .int 0, .int 0, .int (-1)])), (od, .inr (2, [.ref o1, .ref o2, .ref o3, .int 0])), (jb, .inr (1, [.ref pl, .int (-1), .int 0, .int 0, .int 0]))] s.heap := hP
  have hK : va_K (dC, dI) vwCl [(cI, .int), (cZ, .boolean), (cB, .object "ParkTower$Bay")] s := hK
  have hl := lv_entry ([.ref x, .int 0]) (n := 4) (Nat.le_of_ble_eq_true rfl)
  rw [lg_entry_eq]
  generalize (lg_sl ([.ref x, .int 0]) ++ List.replicate (4 - (lg_sl ([.ref x, .int 0])).length) Slot.unset).toArray = ls at hl ⊢
  have hl : lv_has ls 4 [(0, .ref x), (1, .int 0)] := hl
  refine lv_iload_n hx hb dX7_gone_0 rfl (lv_at hl 1 rfl) ?_
  refine pt_cSi (va_runS (As := [.int 0]) (rest := []) ⟨hx, hb, hml, hown, hts⟩ (c_isBay l dC dI 0) (cwS 1 hts gX7_gone_X7_isBay rfl rfl rfl (by decide +kernel) ⟨Nat.le_of_ble_eq_true rfl, Nat.le_of_ble_eq_true rfl⟩) ⟨pt_blind, pt_pre (w := []) (tys := []) (hP.sub [] rfl) (hK.sub [] rfl) hN⟩ rfl rfl hl.1 rfl (lv_room (Nat.le_of_ble_eq_true rfl)) dX7_gone_1 ⟨Nat.le_of_ble_eq_true rfl, Nat.le_of_ble_eq_true rfl⟩) (fun r_1 hr_1 => ?_)
  obtain rfl : r_1 = 1 := hr_1.trans (by decide)
  refine lv_if_ne (tgt := 15) hx hb dX7_gone_4 (by decide) (fun _ => ?_) (fun c => absurd c (by decide))
  refine lv_aload_n hx hb dX7_gone_15 rfl (lv_at hl 0 rfl) ?_
  refine va_get (D := (dC, dI)) (ci := 5) (v := .ref bs) (C := RX7) (T := TX7) (N := 10) hx hb hts iX7 hown hK hP 0 rfl rfl 1 (by decide) (hts (.fieldLink RX7 18 "ParkTower" "bays" "[LParkTower$Bay;") (by decide +kernel)) (fun _ h9 => h9) rfl dX7_gone_16 ?_
  refine lv_iload_n hx hb dX7_gone_19 rfl (lv_at hl 1 rfl) ?_
  refine va_aldq hx hb hK hP 4 2 rfl rfl (vp_in_iff.mpr (by decide)) dX7_gone_20 ?_
  refine W.eq (g2 := F0 m 21 ls [.ref b0]) rfl ?_
  refine lv_astore_n (lv' := [(2, .ref b0), (0, .ref x), (1, .int 0)]) hx hb dX7_gone_21 rfl hl (by decide) rfl (fun ls hl => ?_)
  refine lv_aload_n hx hb dX7_gone_22 rfl (lv_at hl 0 rfl) ?_
  refine va_getN (D := (dC, dI)) (ci := 0) (v := .int 0) (C := RX1) (T := TX1) (N := 6) hx hb hts iX1 hown hK hP 5 rfl rfl 4 (by decide) (va_Nw.use rfl (hN.1 (.fieldLinkNest RX7 95 "ParkTower$Bay" "fetched" "Z" "ParkTower") (by decide +kernel))) (fun _ h9 => h9) rfl dX7_gone_23 ?_
  refine lv_if_eq (tgt := 37) hx hb dX7_gone_26 (by decide) (fun _ => ?_) (fun c => absurd (by decide) c)
  exact vx_throw0 (own := RX7) (cls := "java/lang/IllegalStateException") (names := ["java/lang/RuntimeException", "java/lang/Exception"]) (ik := 98) (ic := 100) (A := fun q => s.heap.size ≤ q) hx hb hlt hown (by decide) (by decide) (hts (.classLink RX7 98 "java/lang/IllegalStateException") (by decide +kernel)) (hts (.initialized "java/lang/IllegalStateException") (by decide +kernel)) (pt_hat hts (by decide +kernel) pt_no100 hE) pt_ok100 hZ.1 hZ.2 va_S.rf (by rw [hml]; exact hl.1) dX7_gone_37 dX7_gone_40 dX7_gone_41 dX7_gone_44 (fun x h => (hex x h).elim) (Nat.le_of_ble_eq_true rfl) (Nat.le_of_ble_eq_true rfl) (Nat.le_of_ble_eq_true rfl) (Nat.le_of_ble_eq_true rfl) hlocks (fun t hal hz hk => ⟨(), trivial, rfl, hz, fun q h1 _ => hk q h1⟩) (fun z h => by cases h) (Nat.le_of_ble_eq_true rfl) (Nat.le_of_ble_eq_true rfl)
set_option maxHeartbeats 4000000 in
set_option maxRecDepth 100000 in
theorem t_gone1 (l : Launch) (hlt : l.stackTraces = false) (dC : Nat → ClassId) (dI : Nat → Nat → Nat) (sz : Nat) (x rk hd jm bs b0 b1 od o1 o2 o3 jb pl ap : Nat) (cI cZ cB : ClassId) : vx_Met l yX7_gone wsX7_gone ({ frames := 6, cells := 1, slots := 6, locals := 89 }) (va_Pc [.ref x, .int 1] (pt_BT (dC, dI) [(x, .inr (5, [.ref rk, .ref bs, .ref od, .ref jb, .ref ap, .int 0, .int 1, .int 0, .int 0, .int 0])), (rk, .inr (4, [.ref hd, .ref jm])), (hd, .inl (cI, 96, .inl (fun _ => 0))), (jm, .inl (cZ, 4, .inl (fun _ => 0))), (bs, .inl (cB, 2, .inr (.inr (.inr (.inr (va_up (va_up (fun _ => none) 0 (some b0)) 1 (some b1))))))), (b0, .inr (0, [.int 2, .int 0, .int 0, .int 0, .int 0, .int (-1)])), (b1, .inr (0, [.int 2, .int 0, .int 0, .int 0, .int 0, .int (-1)])), (od, .inr (2, [.ref o1, .ref o2, .ref o3, .int 0])), (jb, .inr (1, [.ref pl, .int (-1), .int 0, .int 0, .int 0]))] [(cI, .int), (cZ, .boolean), (cB, .object "ParkTower$Bay")] sz)) (va_Qi (fun (_ : Int32) (_ : Unit) => False) (fun _ _ => True) (fun q => sz ≤ q)) (vx_X (fun (_ : Unit) => True) (fun E _ _ => E = "java/lang/IllegalStateException") (fun q => sz ≤ q)) 1 6 (fun q => sz ≤ q) := by
  refine vx_ofW (cc := cX7_gone) (maxL := 4) (ret := (some .int)) (by decide) rfl ?_
  intro p e s m args below meth c s₁ B hml hex hv
  obtain ⟨rfl, hsz, hP, hK, hD0, hN, hE, hZ⟩ := hv
  have hx := B.exec
  have hb := B.bytes
  have hr := B.returns
  have hts := atoms_spec (ws := wsX7_gone) B.pre
  have hown : s.vm.findClass RX7 = some m.cls := findClass_of_methodNamed B.named
  have hlocks := B.notSynchronized
  have iX1 : ∀ w ∈ wsX10, w ∈ wsX7_gone := by decide +kernel
  have iX7 : ∀ w ∈ wsX70, w ∈ wsX7_gone := by decide +kernel
  subst hsz
  have hP : va_P (dC, dI) vwCl [(x, .inr (5, [.ref rk, .ref bs, .ref od, .ref jb, .ref ap, .int 0, .int 1, .int 0, .int 0, .int 0])), (rk, .inr (4, [.ref hd, .ref jm])), (hd, .inl (cI, 96, .inl (fun _ => 0))), (jm, .inl (cZ, 4, .inl (fun _ => 0))), (bs, .inl (cB, 2, .inr (.inr (.inr (.inr (va_up (va_up (fun _ => none) 0 (some b0)) 1 (some b1))))))), (b0, .inr (0, [.int 2, .int 0, .int 0, .int 0, .int 0, .int (-1)])), (b1, .inr (0, [.int 2, .int 0, .int 0, .int 0, .int 0, .int (-1)])), (od, .inr (2, [.ref o1, .ref o2, .ref o3, .int 0])), (jb, .inr (1, [.ref pl, .int (-1), .int 0, .int 0, .int 0]))] s.heap := hP
  have hK : va_K (dC, dI) vwCl [(cI, .int), (cZ, .boolean), (cB, .object "ParkTower$Bay")] s := hK
  have hl := lv_entry ([.ref x, .int 1]) (n := 4) (Nat.le_of_ble_eq_true rfl)
  rw [lg_entry_eq]
  generalize (lg_sl ([.ref x, .int 1]) ++ List.replicate (4 - (lg_sl ([.ref x, .int 1])).length) Slot.unset).toArray = ls at hl ⊢
  have hl : lv_has ls 4 [(0, .ref x), (1, .int 1)] := hl
  refine lv_iload_n hx hb dX7_gone_0 rfl (lv_at hl 1 rfl) ?_
  refine pt_cSi (va_runS (As := [.int 1]) (rest := []) ⟨hx, hb, hml, hown, hts⟩ (c_isBay l dC dI 1) (cwS 1 hts gX7_gone_X7_isBay rfl rfl rfl (by decide +kernel) ⟨Nat.le_of_ble_eq_true rfl, Nat.le_of_ble_eq_true rfl⟩) ⟨pt_blind, pt_pre (w := []) (tys := []) (hP.sub [] rfl) (hK.sub [] rfl) hN⟩ rfl rfl hl.1 rfl (lv_room (Nat.le_of_ble_eq_true rfl)) dX7_gone_1 ⟨Nat.le_of_ble_eq_true rfl, Nat.le_of_ble_eq_true rfl⟩) (fun r_1 hr_1 => ?_)
  obtain rfl : r_1 = 1 := hr_1.trans (by decide)
  refine lv_if_ne (tgt := 15) hx hb dX7_gone_4 (by decide) (fun _ => ?_) (fun c => absurd c (by decide))
  refine lv_aload_n hx hb dX7_gone_15 rfl (lv_at hl 0 rfl) ?_
  refine va_get (D := (dC, dI)) (ci := 5) (v := .ref bs) (C := RX7) (T := TX7) (N := 10) hx hb hts iX7 hown hK hP 0 rfl rfl 1 (by decide) (hts (.fieldLink RX7 18 "ParkTower" "bays" "[LParkTower$Bay;") (by decide +kernel)) (fun _ h9 => h9) rfl dX7_gone_16 ?_
  refine lv_iload_n hx hb dX7_gone_19 rfl (lv_at hl 1 rfl) ?_
  refine va_aldq hx hb hK hP 4 2 rfl rfl (vp_in_iff.mpr (by decide)) dX7_gone_20 ?_
  refine W.eq (g2 := F0 m 21 ls [.ref b1]) rfl ?_
  refine lv_astore_n (lv' := [(2, .ref b1), (0, .ref x), (1, .int 1)]) hx hb dX7_gone_21 rfl hl (by decide) rfl (fun ls hl => ?_)
  refine lv_aload_n hx hb dX7_gone_22 rfl (lv_at hl 0 rfl) ?_
  refine va_getN (D := (dC, dI)) (ci := 0) (v := .int 0) (C := RX1) (T := TX1) (N := 6) hx hb hts iX1 hown hK hP 6 rfl rfl 4 (by decide) (va_Nw.use rfl (hN.1 (.fieldLinkNest RX7 95 "ParkTower$Bay" "fetched" "Z" "ParkTower") (by decide +kernel))) (fun _ h9 => h9) rfl dX7_gone_23 ?_
  refine lv_if_eq (tgt := 37) hx hb dX7_gone_26 (by decide) (fun _ => ?_) (fun c => absurd (by decide) c)
  exact vx_throw0 (own := RX7) (cls := "java/lang/IllegalStateException") (names := ["java/lang/RuntimeException", "java/lang/Exception"]) (ik := 98) (ic := 100) (A := fun q => s.heap.size ≤ q) hx hb hlt hown (by decide) (by decide) (hts (.classLink RX7 98 "java/lang/IllegalStateException") (by decide +kernel)) (hts (.initialized "java/lang/IllegalStateException") (by decide +kernel)) (pt_hat hts (by decide +kernel) pt_no100 hE) pt_ok100 hZ.1 hZ.2 va_S.rf (by rw [hml]; exact hl.1) dX7_gone_37 dX7_gone_40 dX7_gone_41 dX7_gone_44 (fun x h => (hex x h).elim) (Nat.le_of_ble_eq_true rfl) (Nat.le_of_ble_eq_true rfl) (Nat.le_of_ble_eq_true rfl) (Nat.le_of_ble_eq_true rfl) hlocks (fun t hal hz hk => ⟨(), trivial, rfl, hz, fun q h1 _ => hk q h1⟩) (fun z h => by cases h) (Nat.le_of_ble_eq_true rfl) (Nat.le_of_ble_eq_true rfl)
set_option maxHeartbeats 4000000 in
set_option maxRecDepth 100000 in
theorem t_leave (l : Launch) (hlt : l.stackTraces = false) (dC : Nat → ClassId) (dI : Nat → Nat → Nat) (sz : Nat) (x rk hd jm bs b0 b1 od o1 o2 o3 jb pl ap : Nat) (cI cZ cB : ClassId) (tk : Int32) : vx_Met l yX7_leave wsX7_leave ({ frames := 6, cells := 1, slots := 6, locals := 89 }) (va_Pc [.ref x, .int tk] (pt_BT (dC, dI) [(x, .inr (5, [.ref rk, .ref bs, .ref od, .ref jb, .ref ap, .int 0, .int 1, .int 0, .int 0, .int 0])), (rk, .inr (4, [.ref hd, .ref jm])), (hd, .inl (cI, 96, .inl (fun _ => 0))), (jm, .inl (cZ, 4, .inl (fun _ => 0))), (bs, .inl (cB, 2, .inr (.inr (.inr (.inr (va_up (va_up (fun _ => none) 0 (some b0)) 1 (some b1))))))), (b0, .inr (0, [.int 2, .int 0, .int 0, .int 0, .int 0, .int (-1)])), (b1, .inr (0, [.int 2, .int 0, .int 0, .int 0, .int 0, .int (-1)])), (od, .inr (2, [.ref o1, .ref o2, .ref o3, .int 0])), (jb, .inr (1, [.ref pl, .int (-1), .int 0, .int 0, .int 0]))] [(cI, .int), (cZ, .boolean), (cB, .object "ParkTower$Bay")] sz)) (va_Qi (fun (_ : Int32) (_ : Unit) => False) (fun _ _ => True) (fun q => sz ≤ q)) (vx_X (fun (_ : Unit) => True) (fun E _ _ => E = "java/lang/IllegalArgumentException") (fun q => sz ≤ q)) 1 6 (fun q => sz ≤ q) := by
  refine vx_ofW (cc := cX7_leave) (maxL := 3) (ret := (some .int)) (by decide) rfl ?_
  intro p e s m args below meth c s₁ B hml hex hv
  obtain ⟨rfl, hsz, hP, hK, hD0, hN, hE, hZ⟩ := hv
  have hx := B.exec
  have hb := B.bytes
  have hr := B.returns
  have hts := atoms_spec (ws := wsX7_leave) B.pre
  have hown : s.vm.findClass RX7 = some m.cls := findClass_of_methodNamed B.named
  have hlocks := B.notSynchronized
  subst hsz
  have hP : va_P (dC, dI) vwCl [(x, .inr (5, [.ref rk, .ref bs, .ref od, .ref jb, .ref ap, .int 0, .int 1, .int 0, .int 0, .int 0])), (rk, .inr (4, [.ref hd, .ref jm])), (hd, .inl (cI, 96, .inl (fun _ => 0))), (jm, .inl (cZ, 4, .inl (fun _ => 0))), (bs, .inl (cB, 2, .inr (.inr (.inr (.inr (va_up (va_up (fun _ => none) 0 (some b0)) 1 (some b1))))))), (b0, .inr (0, [.int 2, .int 0, .int 0, .int 0, .int 0, .int (-1)])), (b1, .inr (0, [.int 2, .int 0, .int 0, .int 0, .int 0, .int (-1)])), (od, .inr (2, [.ref o1, .ref o2, .ref o3, .int 0])), (jb, .inr (1, [.ref pl, .int (-1), .int 0, .int 0, .int 0]))] s.heap := hP
  have hK : va_K (dC, dI) vwCl [(cI, .int), (cZ, .boolean), (cB, .object "ParkTower$Bay")] s := hK
  have hl := lv_entry ([.ref x, .int tk]) (n := 3) (Nat.le_of_ble_eq_true rfl)
  rw [lg_entry_eq]
  generalize (lg_sl ([.ref x, .int tk]) ++ List.replicate (3 - (lg_sl ([.ref x, .int tk])).length) Slot.unset).toArray = ls at hl ⊢
  have hl : lv_has ls 3 [(0, .ref x), (1, .int tk)] := hl
  refine lv_aload_n hx hb dX7_leave_0 rfl (lv_at hl 0 rfl) ?_
  refine lv_iload_n hx hb dX7_leave_1 rfl (lv_at hl 1 rfl) ?_
  refine pt_cSi (va_runV (As := [.int tk]) (rest := []) ⟨hx, hb, hml, hown, hts⟩ (c_wasGiven l dC dI x rk hd jm bs b0 b1 od o1 o2 o3 jb pl ap cI cZ cB tk) (cwV 1 hts gX7_leave_X7_wasGiven rfl rfl rfl (by decide +kernel) ⟨Nat.le_of_ble_eq_true rfl, Nat.le_of_ble_eq_true rfl⟩) ⟨pt_blind, va_recv hK hP (ci := 5) (q0 := 0) rfl rfl, pt_pre (w := [(x, .inr (5, [.ref rk, .ref bs, .ref od, .ref jb, .ref ap, .int 0, .int 1, .int 0, .int 0, .int 0])), (rk, .inr (4, [.ref hd, .ref jm])), (hd, .inl (cI, 96, .inl (fun _ => 0))), (jm, .inl (cZ, 4, .inl (fun _ => 0))), (bs, .inl (cB, 2, .inr (.inr (.inr (.inr (va_up (va_up (fun _ => none) 0 (some b0)) 1 (some b1))))))), (b0, .inr (0, [.int 2, .int 0, .int 0, .int 0, .int 0, .int (-1)])), (b1, .inr (0, [.int 2, .int 0, .int 0, .int 0, .int 0, .int (-1)])), (od, .inr (2, [.ref o1, .ref o2, .ref o3, .int 0])), (jb, .inr (1, [.ref pl, .int (-1), .int 0, .int 0, .int 0]))]) (tys := [(cI, .int), (cZ, .boolean), (cB, .object "ParkTower$Bay")]) (hP.sub [0, 1, 2, 3, 4, 5, 6, 7, 8] rfl) (hK.sub [0, 1, 2] rfl) hN⟩ rfl rfl hl.1 rfl (lv_room (Nat.le_of_ble_eq_true rfl)) dX7_leave_2 ⟨Nat.le_of_ble_eq_true rfl, Nat.le_of_ble_eq_true rfl⟩) (fun r_1 hr_1 => ?_)
  obtain rfl : r_1 = 0 := hr_1
  refine lv_if_ne (tgt := 16) hx hb dX7_leave_5 (by decide) (fun c => absurd (by decide) c) (fun _ => ?_)
  exact vx_throw0 (own := RX7) (cls := "java/lang/IllegalArgumentException") (names := ["java/lang/RuntimeException", "java/lang/Exception"]) (ik := 52) (ic := 54) (A := fun q => s.heap.size ≤ q) hx hb hlt hown (by decide) (by decide) (hts (.classLink RX7 52 "java/lang/IllegalArgumentException") (by decide +kernel)) (hts (.initialized "java/lang/IllegalArgumentException") (by decide +kernel)) (pt_hat hts (by decide +kernel) pt_no54 hE) pt_ok54 hZ.1 hZ.2 va_S.rf (by rw [hml]; exact hl.1) dX7_leave_8 dX7_leave_11 dX7_leave_12 dX7_leave_15 (fun x h => (hex x h).elim) (Nat.le_of_ble_eq_true rfl) (Nat.le_of_ble_eq_true rfl) (Nat.le_of_ble_eq_true rfl) (Nat.le_of_ble_eq_true rfl) hlocks (fun t hal hz hk => ⟨(), trivial, rfl, hz, fun q h1 _ => hk q h1⟩) (fun z h => by cases h) (Nat.le_of_ble_eq_true rfl) (Nat.le_of_ble_eq_true rfl)
set_option maxHeartbeats 4000000 in
set_option maxRecDepth 100000 in
theorem t_plan (l : Launch) (hlt : l.stackTraces = false) (dC : Nat → ClassId) (dI : Nat → Nat → Nat) (sz : Nat) (x rk hd jm bs b0 b1 od o1 o2 o3 jb pl ap : Nat) (cI cZ cB : ClassId) (tk i : Int32) : vx_Met l yX7_plan wsX7_plan ({ frames := 6, cells := 1, slots := 6, locals := 89 }) (va_Pc [.ref x, .int tk, .int i] (pt_BT (dC, dI) [(x, .inr (5, [.ref rk, .ref bs, .ref od, .ref jb, .ref ap, .int 0, .int 1, .int 0, .int 0, .int 0])), (rk, .inr (4, [.ref hd, .ref jm])), (hd, .inl (cI, 96, .inl (fun _ => 0))), (jm, .inl (cZ, 4, .inl (fun _ => 0))), (bs, .inl (cB, 2, .inr (.inr (.inr (.inr (va_up (va_up (fun _ => none) 0 (some b0)) 1 (some b1))))))), (b0, .inr (0, [.int 2, .int 0, .int 0, .int 0, .int 0, .int (-1)])), (b1, .inr (0, [.int 2, .int 0, .int 0, .int 0, .int 0, .int (-1)])), (od, .inr (2, [.ref o1, .ref o2, .ref o3, .int 0])), (jb, .inr (1, [.ref pl, .int (-1), .int 0, .int 0, .int 0]))] [(cI, .int), (cZ, .boolean), (cB, .object "ParkTower$Bay")] sz)) (va_Qi (fun (_ : Int32) (_ : Unit) => False) (fun _ _ => True) (fun q => sz ≤ q)) (vx_X (fun (_ : Unit) => True) (fun E _ _ => E = "java/lang/IllegalArgumentException") (fun q => sz ≤ q)) 1 6 (fun q => sz ≤ q) := by
  refine vx_ofW (cc := cX7_plan) (maxL := 4) (ret := (some .int)) (by decide) rfl ?_
  intro p e s m args below meth c s₁ B hml hex hv
  obtain ⟨rfl, hsz, hP, hK, hD0, hN, hE, hZ⟩ := hv
  have hx := B.exec
  have hb := B.bytes
  have hr := B.returns
  have hts := atoms_spec (ws := wsX7_plan) B.pre
  have hown : s.vm.findClass RX7 = some m.cls := findClass_of_methodNamed B.named
  have hlocks := B.notSynchronized
  subst hsz
  have hP : va_P (dC, dI) vwCl [(x, .inr (5, [.ref rk, .ref bs, .ref od, .ref jb, .ref ap, .int 0, .int 1, .int 0, .int 0, .int 0])), (rk, .inr (4, [.ref hd, .ref jm])), (hd, .inl (cI, 96, .inl (fun _ => 0))), (jm, .inl (cZ, 4, .inl (fun _ => 0))), (bs, .inl (cB, 2, .inr (.inr (.inr (.inr (va_up (va_up (fun _ => none) 0 (some b0)) 1 (some b1))))))), (b0, .inr (0, [.int 2, .int 0, .int 0, .int 0, .int 0, .int (-1)])), (b1, .inr (0, [.int 2, .int 0, .int 0, .int 0, .int 0, .int (-1)])), (od, .inr (2, [.ref o1, .ref o2, .ref o3, .int 0])), (jb, .inr (1, [.ref pl, .int (-1), .int 0, .int 0, .int 0]))] s.heap := hP
  have hK : va_K (dC, dI) vwCl [(cI, .int), (cZ, .boolean), (cB, .object "ParkTower$Bay")] s := hK
  have hl := lv_entry ([.ref x, .int tk, .int i]) (n := 4) (Nat.le_of_ble_eq_true rfl)
  rw [lg_entry_eq]
  generalize (lg_sl ([.ref x, .int tk, .int i]) ++ List.replicate (4 - (lg_sl ([.ref x, .int tk, .int i])).length) Slot.unset).toArray = ls at hl ⊢
  have hl : lv_has ls 4 [(0, .ref x), (1, .int tk), (2, .int i)] := hl
  refine lv_aload_n hx hb dX7_plan_0 rfl (lv_at hl 0 rfl) ?_
  refine lv_iload_n hx hb dX7_plan_1 rfl (lv_at hl 1 rfl) ?_
  refine pt_cSi (va_runV (As := [.int tk]) (rest := []) ⟨hx, hb, hml, hown, hts⟩ (c_wasGiven l dC dI x rk hd jm bs b0 b1 od o1 o2 o3 jb pl ap cI cZ cB tk) (cwV 1 hts gX7_plan_X7_wasGiven rfl rfl rfl (by decide +kernel) ⟨Nat.le_of_ble_eq_true rfl, Nat.le_of_ble_eq_true rfl⟩) ⟨pt_blind, va_recv hK hP (ci := 5) (q0 := 0) rfl rfl, pt_pre (w := [(x, .inr (5, [.ref rk, .ref bs, .ref od, .ref jb, .ref ap, .int 0, .int 1, .int 0, .int 0, .int 0])), (rk, .inr (4, [.ref hd, .ref jm])), (hd, .inl (cI, 96, .inl (fun _ => 0))), (jm, .inl (cZ, 4, .inl (fun _ => 0))), (bs, .inl (cB, 2, .inr (.inr (.inr (.inr (va_up (va_up (fun _ => none) 0 (some b0)) 1 (some b1))))))), (b0, .inr (0, [.int 2, .int 0, .int 0, .int 0, .int 0, .int (-1)])), (b1, .inr (0, [.int 2, .int 0, .int 0, .int 0, .int 0, .int (-1)])), (od, .inr (2, [.ref o1, .ref o2, .ref o3, .int 0])), (jb, .inr (1, [.ref pl, .int (-1), .int 0, .int 0, .int 0]))]) (tys := [(cI, .int), (cZ, .boolean), (cB, .object "ParkTower$Bay")]) (hP.sub [0, 1, 2, 3, 4, 5, 6, 7, 8] rfl) (hK.sub [0, 1, 2] rfl) hN⟩ rfl rfl hl.1 rfl (lv_room (Nat.le_of_ble_eq_true rfl)) dX7_plan_2 ⟨Nat.le_of_ble_eq_true rfl, Nat.le_of_ble_eq_true rfl⟩) (fun r_1 hr_1 => ?_)
  obtain rfl : r_1 = 0 := hr_1
  refine lv_if_ne (tgt := 16) hx hb dX7_plan_5 (by decide) (fun c => absurd (by decide) c) (fun _ => ?_)
  exact vx_throw0 (own := RX7) (cls := "java/lang/IllegalArgumentException") (names := ["java/lang/RuntimeException", "java/lang/Exception"]) (ik := 52) (ic := 54) (A := fun q => s.heap.size ≤ q) hx hb hlt hown (by decide) (by decide) (hts (.classLink RX7 52 "java/lang/IllegalArgumentException") (by decide +kernel)) (hts (.initialized "java/lang/IllegalArgumentException") (by decide +kernel)) (pt_hat hts (by decide +kernel) pt_no54 hE) pt_ok54 hZ.1 hZ.2 va_S.rf (by rw [hml]; exact hl.1) dX7_plan_8 dX7_plan_11 dX7_plan_12 dX7_plan_15 (fun x h => (hex x h).elim) (Nat.le_of_ble_eq_true rfl) (Nat.le_of_ble_eq_true rfl) (Nat.le_of_ble_eq_true rfl) (Nat.le_of_ble_eq_true rfl) hlocks (fun t hal hz hk => ⟨(), trivial, rfl, hz, fun q h1 _ => hk q h1⟩) (fun z h => by cases h) (Nat.le_of_ble_eq_true rfl) (Nat.le_of_ble_eq_true rfl)
set_option maxHeartbeats 4000000 in
set_option maxRecDepth 100000 in
theorem t_jam (l : Launch) (hlt : l.stackTraces = false) (dC : Nat → ClassId) (dI : Nat → Nat → Nat) (sz : Nat) (x rk hd jm bs b0 b1 od o1 o2 o3 jb pl ap : Nat) (cI cZ cB : ClassId) (lv on : Int32) (hh : ¬ (¬ lv < 0 ∧ lv < 4)) : vx_Met l yX7_jam wsX7_jam ({ frames := 6, cells := 1, slots := 6, locals := 89 }) (va_Pc [.ref x, .int lv, .int on] (pt_BT (dC, dI) [(x, .inr (5, [.ref rk, .ref bs, .ref od, .ref jb, .ref ap, .int 0, .int 1, .int 0, .int 0, .int 0])), (rk, .inr (4, [.ref hd, .ref jm])), (hd, .inl (cI, 96, .inl (fun _ => 0))), (jm, .inl (cZ, 4, .inl (fun _ => 0))), (bs, .inl (cB, 2, .inr (.inr (.inr (.inr (va_up (va_up (fun _ => none) 0 (some b0)) 1 (some b1))))))), (b0, .inr (0, [.int 2, .int 0, .int 0, .int 0, .int 0, .int (-1)])), (b1, .inr (0, [.int 2, .int 0, .int 0, .int 0, .int 0, .int (-1)])), (od, .inr (2, [.ref o1, .ref o2, .ref o3, .int 0])), (jb, .inr (1, [.ref pl, .int (-1), .int 0, .int 0, .int 0]))] [(cI, .int), (cZ, .boolean), (cB, .object "ParkTower$Bay")] sz)) (va_Qv (fun (_ : Unit) => False) (fun _ _ => True) (fun q => sz ≤ q)) (vx_X (fun (_ : Unit) => True) (fun E _ _ => E = "java/lang/IllegalArgumentException") (fun q => sz ≤ q)) 1 6 (fun q => sz ≤ q) := by
  refine vx_ofW (cc := cX7_jam) (maxL := 3) (ret := none) (by decide) rfl ?_
  intro p e s m args below meth c s₁ B hml hex hv
  obtain ⟨rfl, hsz, hP, hK, hD0, hN, hE, hZ⟩ := hv
  have hx := B.exec
  have hb := B.bytes
  have hr := B.returns
  have hts := atoms_spec (ws := wsX7_jam) B.pre
  have hown : s.vm.findClass RX7 = some m.cls := findClass_of_methodNamed B.named
  have hlocks := B.notSynchronized
  subst hsz
  have hP : va_P (dC, dI) vwCl [(x, .inr (5, [.ref rk, .ref bs, .ref od, .ref jb, .ref ap, .int 0, .int 1, .int 0, .int 0, .int 0])), (rk, .inr (4, [.ref hd, .ref jm])), (hd, .inl (cI, 96, .inl (fun _ => 0))), (jm, .inl (cZ, 4, .inl (fun _ => 0))), (bs, .inl (cB, 2, .inr (.inr (.inr (.inr (va_up (va_up (fun _ => none) 0 (some b0)) 1 (some b1))))))), (b0, .inr (0, [.int 2, .int 0, .int 0, .int 0, .int 0, .int (-1)])), (b1, .inr (0, [.int 2, .int 0, .int 0, .int 0, .int 0, .int (-1)])), (od, .inr (2, [.ref o1, .ref o2, .ref o3, .int 0])), (jb, .inr (1, [.ref pl, .int (-1), .int 0, .int 0, .int 0]))] s.heap := hP
  have hK : va_K (dC, dI) vwCl [(cI, .int), (cZ, .boolean), (cB, .object "ParkTower$Bay")] s := hK
  have hl := lv_entry ([.ref x, .int lv, .int on]) (n := 3) (Nat.le_of_ble_eq_true rfl)
  rw [lg_entry_eq]
  generalize (lg_sl ([.ref x, .int lv, .int on]) ++ List.replicate (3 - (lg_sl ([.ref x, .int lv, .int on])).length) Slot.unset).toArray = ls at hl ⊢
  have hl : lv_has ls 3 [(0, .ref x), (1, .int lv), (2, .int on)] := hl
  refine lv_iload_n hx hb dX7_jam_0 rfl (lv_at hl 1 rfl) ?_
  refine lv_if_lt (tgt := 9) hx hb dX7_jam_1 (by decide) (fun c_1 => ?_) (fun c_1 => ?_)
  · have c_1 : (lv < 0) := c_1
    exact vx_throw0 (own := RX7) (cls := "java/lang/IllegalArgumentException") (names := ["java/lang/RuntimeException", "java/lang/Exception"]) (ik := 52) (ic := 54) (A := fun q => s.heap.size ≤ q) hx hb hlt hown (by decide) (by decide) (hts (.classLink RX7 52 "java/lang/IllegalArgumentException") (by decide +kernel)) (hts (.initialized "java/lang/IllegalArgumentException") (by decide +kernel)) (pt_hat hts (by decide +kernel) pt_no54 hE) pt_ok54 hZ.1 hZ.2 va_S.rf (by rw [hml]; exact hl.1) dX7_jam_9 dX7_jam_12 dX7_jam_13 dX7_jam_16 (fun x h => (hex x h).elim) (Nat.le_of_ble_eq_true rfl) (Nat.le_of_ble_eq_true rfl) (Nat.le_of_ble_eq_true rfl) (Nat.le_of_ble_eq_true rfl) hlocks (fun t hal hz hk => ⟨(), trivial, rfl, hz, fun q h1 _ => hk q h1⟩) (fun z h => by cases h) (Nat.le_of_ble_eq_true rfl) (Nat.le_of_ble_eq_true rfl)
  · have c_1 : ¬ (lv < 0) := c_1
    refine lv_iload_n hx hb dX7_jam_4 rfl (lv_at hl 1 rfl) ?_
    refine lv_iconst (v := 4) hx hb dX7_jam_5 (by decide) ?_
    refine lv_icmp_lt (tgt := 17) hx hb dX7_jam_6 (by decide) (fun c_2 => ?_) (fun c_2 => ?_)
    · have c_2 : (lv < 4) := c_2
      exact absurd ⟨by assumption, by assumption⟩ hh
    · have c_2 : ¬ (lv < 4) := c_2
      exact vx_throw0 (own := RX7) (cls := "java/lang/IllegalArgumentException") (names := ["java/lang/RuntimeException", "java/lang/Exception"]) (ik := 52) (ic := 54) (A := fun q => s.heap.size ≤ q) hx hb hlt hown (by decide) (by decide) (hts (.classLink RX7 52 "java/lang/IllegalArgumentException") (by decide +kernel)) (hts (.initialized "java/lang/IllegalArgumentException") (by decide +kernel)) (pt_hat hts (by decide +kernel) pt_no54 hE) pt_ok54 hZ.1 hZ.2 va_S.rf (by rw [hml]; exact hl.1) dX7_jam_9 dX7_jam_12 dX7_jam_13 dX7_jam_16 (fun x h => (hex x h).elim) (Nat.le_of_ble_eq_true rfl) (Nat.le_of_ble_eq_true rfl) (Nat.le_of_ble_eq_true rfl) (Nat.le_of_ble_eq_true rfl) hlocks (fun t hal hz hk => ⟨(), trivial, rfl, hz, fun q h1 _ => hk q h1⟩) (fun z h => by cases h) (Nat.le_of_ble_eq_true rfl) (Nat.le_of_ble_eq_true rfl)
set_option maxHeartbeats 4000000 in
set_option maxRecDepth 100000 in
theorem t_power (l : Launch) (hlt : l.stackTraces = false) (dC : Nat → ClassId) (dI : Nat → Nat → Nat) (sz : Nat) (x rk hd jm bs b0 b1 od o1 o2 o3 jb pl ap : Nat) (cI cZ cB : ClassId) : vx_Met l yX7_power wsX7_power ({ frames := 6, cells := 1, slots := 6, locals := 89 }) (va_Pc [.ref x, .int 1] (pt_BT (dC, dI) [(x, .inr (5, [.ref rk, .ref bs, .ref od, .ref jb, .ref ap, .int 0, .int 1, .int 0, .int 0, .int 0])), (rk, .inr (4, [.ref hd, .ref jm])), (hd, .inl (cI, 96, .inl (fun _ => 0))), (jm, .inl (cZ, 4, .inl (fun _ => 0))), (bs, .inl (cB, 2, .inr (.inr (.inr (.inr (va_up (va_up (fun _ => none) 0 (some b0)) 1 (some b1))))))), (b0, .inr (0, [.int 2, .int 0, .int 0, .int 0, .int 0, .int (-1)])), (b1, .inr (0, [.int 2, .int 0, .int 0, .int 0, .int 0, .int (-1)])), (od, .inr (2, [.ref o1, .ref o2, .ref o3, .int 0])), (jb, .inr (1, [.ref pl, .int (-1), .int 0, .int 0, .int 0]))] [(cI, .int), (cZ, .boolean), (cB, .object "ParkTower$Bay")] sz)) (va_Qv (fun (_ : Unit) => False) (fun _ _ => True) (fun q => sz ≤ q)) (vx_X (fun (_ : Unit) => True) (fun E _ _ => E = "java/lang/IllegalStateException") (fun q => sz ≤ q)) 1 6 (fun q => sz ≤ q) := by
  refine vx_ofW (cc := cX7_power) (maxL := 2) (ret := none) (by decide) rfl ?_
  intro p e s m args below meth c s₁ B hml hex hv
  obtain ⟨rfl, hsz, hP, hK, hD0, hN, hE, hZ⟩ := hv
  have hx := B.exec
  have hb := B.bytes
  have hr := B.returns
  have hts := atoms_spec (ws := wsX7_power) B.pre
  have hown : s.vm.findClass RX7 = some m.cls := findClass_of_methodNamed B.named
  have hlocks := B.notSynchronized
  have iX7 : ∀ w ∈ wsX70, w ∈ wsX7_power := by decide +kernel
  subst hsz
  have hP : va_P (dC, dI) vwCl [(x, .inr (5, [.ref rk, .ref bs, .ref od, .ref jb, .ref ap, .int 0, .int 1, .int 0, .int 0, .int 0])), (rk, .inr (4, [.ref hd, .ref jm])), (hd, .inl (cI, 96, .inl (fun _ => 0))), (jm, .inl (cZ, 4, .inl (fun _ => 0))), (bs, .inl (cB, 2, .inr (.inr (.inr (.inr (va_up (va_up (fun _ => none) 0 (some b0)) 1 (some b1))))))), (b0, .inr (0, [.int 2, .int 0, .int 0, .int 0, .int 0, .int (-1)])), (b1, .inr (0, [.int 2, .int 0, .int 0, .int 0, .int 0, .int (-1)])), (od, .inr (2, [.ref o1, .ref o2, .ref o3, .int 0])), (jb, .inr (1, [.ref pl, .int (-1), .int 0, .int 0, .int 0]))] s.heap := hP
  have hK : va_K (dC, dI) vwCl [(cI, .int), (cZ, .boolean), (cB, .object "ParkTower$Bay")] s := hK
  have hl := lv_entry ([.ref x, .int 1]) (n := 2) (Nat.le_of_ble_eq_true rfl)
  rw [lg_entry_eq]
  generalize (lg_sl ([.ref x, .int 1]) ++ List.replicate (2 - (lg_sl ([.ref x, .int 1])).length) Slot.unset).toArray = ls at hl ⊢
  have hl : lv_has ls 2 [(0, .ref x), (1, .int 1)] := hl
  refine lv_aload_n hx hb dX7_power_0 rfl (lv_at hl 0 rfl) ?_
  refine va_get (D := (dC, dI)) (ci := 5) (v := .int 1) (C := RX7) (T := TX7) (N := 10) hx hb hts iX7 hown hK hP 0 rfl rfl 6 (by decide) (hts (.fieldLink RX7 44 "ParkTower" "powered" "Z") (by decide +kernel)) (fun _ h9 => h9) rfl dX7_power_1 ?_
  refine lv_iload_n hx hb dX7_power_4 rfl (lv_at hl 1 rfl) ?_
  refine lv_icmp_ne (tgt := 16) hx hb dX7_power_5 (by decide) (fun c => absurd (by decide) c) (fun _ => ?_)
  exact vx_throw0 (own := RX7) (cls := "java/lang/IllegalStateException") (names := ["java/lang/RuntimeException", "java/lang/Exception"]) (ik := 98) (ic := 100) (A := fun q => s.heap.size ≤ q) hx hb hlt hown (by decide) (by decide) (hts (.classLink RX7 98 "java/lang/IllegalStateException") (by decide +kernel)) (hts (.initialized "java/lang/IllegalStateException") (by decide +kernel)) (pt_hat hts (by decide +kernel) pt_no100 hE) pt_ok100 hZ.1 hZ.2 va_S.rf (by rw [hml]; exact hl.1) dX7_power_8 dX7_power_11 dX7_power_12 dX7_power_15 (fun x h => (hex x h).elim) (Nat.le_of_ble_eq_true rfl) (Nat.le_of_ble_eq_true rfl) (Nat.le_of_ble_eq_true rfl) (Nat.le_of_ble_eq_true rfl) hlocks (fun t hal hz hk => ⟨(), trivial, rfl, hz, fun q h1 _ => hk q h1⟩) (fun z h => by cases h) (Nat.le_of_ble_eq_true rfl) (Nat.le_of_ble_eq_true rfl)
set_option maxHeartbeats 4000000 in
set_option maxRecDepth 100000 in
theorem t_tick (l : Launch) (hlt : l.stackTraces = false) (dC : Nat → ClassId) (dI : Nat → Nat → Nat) (sz : Nat) (x rk hd jm bs b0 b1 od o1 o2 o3 jb pl ap : Nat) (cI cZ cB : ClassId) (n : Int32) (hh : ¬ (¬ n < 1 ∧ n ≤ 500)) : vx_Met l yX7_tick wsX7_tick ({ frames := 6, cells := 1, slots := 6, locals := 89 }) (va_Pc [.ref x, .int n] (pt_BT (dC, dI) [(x, .inr (5, [.ref rk, .ref bs, .ref od, .ref jb, .ref ap, .int 0, .int 1, .int 0, .int 0, .int 0])), (rk, .inr (4, [.ref hd, .ref jm])), (hd, .inl (cI, 96, .inl (fun _ => 0))), (jm, .inl (cZ, 4, .inl (fun _ => 0))), (bs, .inl (cB, 2, .inr (.inr (.inr (.inr (va_up (va_up (fun _ => none) 0 (some b0)) 1 (some b1))))))), (b0, .inr (0, [.int 2, .int 0, .int 0, .int 0, .int 0, .int (-1)])), (b1, .inr (0, [.int 2, .int 0, .int 0, .int 0, .int 0, .int (-1)])), (od, .inr (2, [.ref o1, .ref o2, .ref o3, .int 0])), (jb, .inr (1, [.ref pl, .int (-1), .int 0, .int 0, .int 0]))] [(cI, .int), (cZ, .boolean), (cB, .object "ParkTower$Bay")] sz)) (va_Qi (fun (_ : Int32) (_ : Unit) => False) (fun _ _ => True) (fun q => sz ≤ q)) (vx_X (fun (_ : Unit) => True) (fun E _ _ => E = "java/lang/IllegalArgumentException") (fun q => sz ≤ q)) 1 6 (fun q => sz ≤ q) := by
  refine vx_ofW (cc := cX7_tick) (maxL := 3) (ret := (some .int)) (by decide) rfl ?_
  intro p e s m args below meth c s₁ B hml hex hv
  obtain ⟨rfl, hsz, hP, hK, hD0, hN, hE, hZ⟩ := hv
  have hx := B.exec
  have hb := B.bytes
  have hr := B.returns
  have hts := atoms_spec (ws := wsX7_tick) B.pre
  have hown : s.vm.findClass RX7 = some m.cls := findClass_of_methodNamed B.named
  have hlocks := B.notSynchronized
  subst hsz
  have hP : va_P (dC, dI) vwCl [(x, .inr (5, [.ref rk, .ref bs, .ref od, .ref jb, .ref ap, .int 0, .int 1, .int 0, .int 0, .int 0])), (rk, .inr (4, [.ref hd, .ref jm])), (hd, .inl (cI, 96, .inl (fun _ => 0))), (jm, .inl (cZ, 4, .inl (fun _ => 0))), (bs, .inl (cB, 2, .inr (.inr (.inr (.inr (va_up (va_up (fun _ => none) 0 (some b0)) 1 (some b1))))))), (b0, .inr (0, [.int 2, .int 0, .int 0, .int 0, .int 0, .int (-1)])), (b1, .inr (0, [.int 2, .int 0, .int 0, .int 0, .int 0, .int (-1)])), (od, .inr (2, [.ref o1, .ref o2, .ref o3, .int 0])), (jb, .inr (1, [.ref pl, .int (-1), .int 0, .int 0, .int 0]))] s.heap := hP
  have hK : va_K (dC, dI) vwCl [(cI, .int), (cZ, .boolean), (cB, .object "ParkTower$Bay")] s := hK
  have hl := lv_entry ([.ref x, .int n]) (n := 3) (Nat.le_of_ble_eq_true rfl)
  rw [lg_entry_eq]
  generalize (lg_sl ([.ref x, .int n]) ++ List.replicate (3 - (lg_sl ([.ref x, .int n])).length) Slot.unset).toArray = ls at hl ⊢
  have hl : lv_has ls 3 [(0, .ref x), (1, .int n)] := hl
  refine lv_iload_n hx hb dX7_tick_0 rfl (lv_at hl 1 rfl) ?_
  refine lv_iconst (v := 1) hx hb dX7_tick_1 (by decide) ?_
  refine lv_icmp_lt (tgt := 12) hx hb dX7_tick_2 (by decide) (fun c_1 => ?_) (fun c_1 => ?_)
  · have c_1 : (n < 1) := c_1
    exact vx_throw0 (own := RX7) (cls := "java/lang/IllegalArgumentException") (names := ["java/lang/RuntimeException", "java/lang/Exception"]) (ik := 52) (ic := 54) (A := fun q => s.heap.size ≤ q) hx hb hlt hown (by decide) (by decide) (hts (.classLink RX7 52 "java/lang/IllegalArgumentException") (by decide +kernel)) (hts (.initialized "java/lang/IllegalArgumentException") (by decide +kernel)) (pt_hat hts (by decide +kernel) pt_no54 hE) pt_ok54 hZ.1 hZ.2 va_S.rf (by rw [hml]; exact hl.1) dX7_tick_12 dX7_tick_15 dX7_tick_16 dX7_tick_19 (fun x h => (hex x h).elim) (Nat.le_of_ble_eq_true rfl) (Nat.le_of_ble_eq_true rfl) (Nat.le_of_ble_eq_true rfl) (Nat.le_of_ble_eq_true rfl) hlocks (fun t hal hz hk => ⟨(), trivial, rfl, hz, fun q h1 _ => hk q h1⟩) (fun z h => by cases h) (Nat.le_of_ble_eq_true rfl) (Nat.le_of_ble_eq_true rfl)
  · have c_1 : ¬ (n < 1) := c_1
    refine lv_iload_n hx hb dX7_tick_5 rfl (lv_at hl 1 rfl) ?_
    refine lv_sipush (v := 500) hx hb dX7_tick_6 (by decide) ?_
    refine lv_icmp_le (tgt := 20) hx hb dX7_tick_9 (by decide) (fun c_2 => ?_) (fun c_2 => ?_)
    · have c_2 : (n ≤ 500) := c_2
      exact absurd ⟨by assumption, by assumption⟩ hh
    · have c_2 : ¬ (n ≤ 500) := c_2
      exact vx_throw0 (own := RX7) (cls := "java/lang/IllegalArgumentException") (names := ["java/lang/RuntimeException", "java/lang/Exception"]) (ik := 52) (ic := 54) (A := fun q => s.heap.size ≤ q) hx hb hlt hown (by decide) (by decide) (hts (.classLink RX7 52 "java/lang/IllegalArgumentException") (by decide +kernel)) (hts (.initialized "java/lang/IllegalArgumentException") (by decide +kernel)) (pt_hat hts (by decide +kernel) pt_no54 hE) pt_ok54 hZ.1 hZ.2 va_S.rf (by rw [hml]; exact hl.1) dX7_tick_12 dX7_tick_15 dX7_tick_16 dX7_tick_19 (fun x h => (hex x h).elim) (Nat.le_of_ble_eq_true rfl) (Nat.le_of_ble_eq_true rfl) (Nat.le_of_ble_eq_true rfl) (Nat.le_of_ble_eq_true rfl) hlocks (fun t hal hz hk => ⟨(), trivial, rfl, hz, fun q h1 _ => hk q h1⟩) (fun z h => by cases h) (Nat.le_of_ble_eq_true rfl) (Nat.le_of_ble_eq_true rfl)
set_option maxHeartbeats 4000000 in
set_option maxRecDepth 100000 in
theorem t_cell (l : Launch) (hlt : l.stackTraces = false) (dC : Nat → ClassId) (dI : Nat → Nat → Nat) (sz : Nat) (x rk hd jm bs b0 b1 od o1 o2 o3 jb pl ap : Nat) (cI cZ cB : ClassId) (k : Int32) (hh : ¬ (¬ k < 0 ∧ k < 96)) : vx_Met l yX7_cell wsX7_cell ({ frames := 6, cells := 1, slots := 6, locals := 89 }) (va_Pc [.ref x, .int k] (pt_BT (dC, dI) [(x, .inr (5, [.ref rk, .ref bs, .ref od, .ref jb, .ref ap, .int 0, .int 1, .int 0, .int 0, .int 0])), (rk, .inr (4, [.ref hd, .ref jm])), (hd, .inl (cI, 96, .inl (fun _ => 0))), (jm, .inl (cZ, 4, .inl (fun _ => 0))), (bs, .inl (cB, 2, .inr (.inr (.inr (.inr (va_up (va_up (fun _ => none) 0 (some b0)) 1 (some b1))))))), (b0, .inr (0, [.int 2, .int 0, .int 0, .int 0, .int 0, .int (-1)])), (b1, .inr (0, [.int 2, .int 0, .int 0, .int 0, .int 0, .int (-1)])), (od, .inr (2, [.ref o1, .ref o2, .ref o3, .int 0])), (jb, .inr (1, [.ref pl, .int (-1), .int 0, .int 0, .int 0]))] [(cI, .int), (cZ, .boolean), (cB, .object "ParkTower$Bay")] sz)) (va_Qi (fun (_ : Int32) (_ : Unit) => False) (fun _ _ => True) (fun q => sz ≤ q)) (vx_X (fun (_ : Unit) => True) (fun E _ _ => E = "java/lang/IllegalArgumentException") (fun q => sz ≤ q)) 1 6 (fun q => sz ≤ q) := by
  refine vx_ofW (cc := cX7_cell) (maxL := 2) (ret := (some .int)) (by decide) rfl ?_
  intro p e s m args below meth c s₁ B hml hex hv
  obtain ⟨rfl, hsz, hP, hK, hD0, hN, hE, hZ⟩ := hv
  have hx := B.exec
  have hb := B.bytes
  have hr := B.returns
  have hts := atoms_spec (ws := wsX7_cell) B.pre
  have hown : s.vm.findClass RX7 = some m.cls := findClass_of_methodNamed B.named
  have hlocks := B.notSynchronized
  subst hsz
  have hP : va_P (dC, dI) vwCl [(x, .inr (5, [.ref rk, .ref bs, .ref od, .ref jb, .ref ap, .int 0, .int 1, .int 0, .int 0, .int 0])), (rk, .inr (4, [.ref hd, .ref jm])), (hd, .inl (cI, 96, .inl (fun _ => 0))), (jm, .inl (cZ, 4, .inl (fun _ => 0))), (bs, .inl (cB, 2, .inr (.inr (.inr (.inr (va_up (va_up (fun _ => none) 0 (some b0)) 1 (some b1))))))), (b0, .inr (0, [.int 2, .int 0, .int 0, .int 0, .int 0, .int (-1)])), (b1, .inr (0, [.int 2, .int 0, .int 0, .int 0, .int 0, .int (-1)])), (od, .inr (2, [.ref o1, .ref o2, .ref o3, .int 0])), (jb, .inr (1, [.ref pl, .int (-1), .int 0, .int 0, .int 0]))] s.heap := hP
  have hK : va_K (dC, dI) vwCl [(cI, .int), (cZ, .boolean), (cB, .object "ParkTower$Bay")] s := hK
  have hl := lv_entry ([.ref x, .int k]) (n := 2) (Nat.le_of_ble_eq_true rfl)
  rw [lg_entry_eq]
  generalize (lg_sl ([.ref x, .int k]) ++ List.replicate (2 - (lg_sl ([.ref x, .int k])).length) Slot.unset).toArray = ls at hl ⊢
  have hl : lv_has ls 2 [(0, .ref x), (1, .int k)] := hl
  refine lv_iload_n hx hb dX7_cell_0 rfl (lv_at hl 1 rfl) ?_
  refine lv_if_lt (tgt := 10) hx hb dX7_cell_1 (by decide) (fun c_1 => ?_) (fun c_1 => ?_)
  · have c_1 : (k < 0) := c_1
    exact vx_throw0 (own := RX7) (cls := "java/lang/IllegalArgumentException") (names := ["java/lang/RuntimeException", "java/lang/Exception"]) (ik := 52) (ic := 54) (A := fun q => s.heap.size ≤ q) hx hb hlt hown (by decide) (by decide) (hts (.classLink RX7 52 "java/lang/IllegalArgumentException") (by decide +kernel)) (hts (.initialized "java/lang/IllegalArgumentException") (by decide +kernel)) (pt_hat hts (by decide +kernel) pt_no54 hE) pt_ok54 hZ.1 hZ.2 va_S.rf (by rw [hml]; exact hl.1) dX7_cell_10 dX7_cell_13 dX7_cell_14 dX7_cell_17 (fun x h => (hex x h).elim) (Nat.le_of_ble_eq_true rfl) (Nat.le_of_ble_eq_true rfl) (Nat.le_of_ble_eq_true rfl) (Nat.le_of_ble_eq_true rfl) hlocks (fun t hal hz hk => ⟨(), trivial, rfl, hz, fun q h1 _ => hk q h1⟩) (fun z h => by cases h) (Nat.le_of_ble_eq_true rfl) (Nat.le_of_ble_eq_true rfl)
  · have c_1 : ¬ (k < 0) := c_1
    refine lv_iload_n hx hb dX7_cell_4 rfl (lv_at hl 1 rfl) ?_
    refine lv_bipush (v := 96) hx hb dX7_cell_5 (by decide) ?_
    refine lv_icmp_lt (tgt := 18) hx hb dX7_cell_7 (by decide) (fun c_2 => ?_) (fun c_2 => ?_)
    · have c_2 : (k < 96) := c_2
      exact absurd ⟨by assumption, by assumption⟩ hh
    · have c_2 : ¬ (k < 96) := c_2
      exact vx_throw0 (own := RX7) (cls := "java/lang/IllegalArgumentException") (names := ["java/lang/RuntimeException", "java/lang/Exception"]) (ik := 52) (ic := 54) (A := fun q => s.heap.size ≤ q) hx hb hlt hown (by decide) (by decide) (hts (.classLink RX7 52 "java/lang/IllegalArgumentException") (by decide +kernel)) (hts (.initialized "java/lang/IllegalArgumentException") (by decide +kernel)) (pt_hat hts (by decide +kernel) pt_no54 hE) pt_ok54 hZ.1 hZ.2 va_S.rf (by rw [hml]; exact hl.1) dX7_cell_10 dX7_cell_13 dX7_cell_14 dX7_cell_17 (fun x h => (hex x h).elim) (Nat.le_of_ble_eq_true rfl) (Nat.le_of_ble_eq_true rfl) (Nat.le_of_ble_eq_true rfl) (Nat.le_of_ble_eq_true rfl) hlocks (fun t hal hz hk => ⟨(), trivial, rfl, hz, fun q h1 _ => hk q h1⟩) (fun z h => by cases h) (Nat.le_of_ble_eq_true rfl) (Nat.le_of_ble_eq_true rfl)
set_option maxHeartbeats 4000000 in
set_option maxRecDepth 100000 in
theorem t_bay (l : Launch) (hlt : l.stackTraces = false) (dC : Nat → ClassId) (dI : Nat → Nat → Nat) (sz : Nat) (x rk hd jm bs b0 b1 od o1 o2 o3 jb pl ap : Nat) (cI cZ cB : ClassId) (b k : Int32) (nb : ¬ (b = 0 ∨ b = 1)) : vx_Met l yX7_bay wsX7_bay ({ frames := 6, cells := 1, slots := 6, locals := 89 }) (va_Pc [.ref x, .int b, .int k] (pt_BT (dC, dI) [(x, .inr (5, [.ref rk, .ref bs, .ref od, .ref jb, .ref ap, .int 0, .int 1, .int 0, .int 0, .int 0])), (rk, .inr (4, [.ref hd, .ref jm])), (hd, .inl (cI, 96, .inl (fun _ => 0))), (jm, .inl (cZ, 4, .inl (fun _ => 0))), (bs, .inl (cB, 2, .inr (.inr (.inr (.inr (va_up (va_up (fun _ => none) 0 (some b0)) 1 (some b1))))))), (b0, .inr (0, [.int 2, .int 0, .int 0, .int 0, .int 0, .int (-1)])), (b1, .inr (0, [.int 2, .int 0, .int 0, .int 0, .int 0, .int (-1)])), (od, .inr (2, [.ref o1, .ref o2, .ref o3, .int 0])), (jb, .inr (1, [.ref pl, .int (-1), .int 0, .int 0, .int 0]))] [(cI, .int), (cZ, .boolean), (cB, .object "ParkTower$Bay")] sz)) (va_Qi (fun (_ : Int32) (_ : Unit) => False) (fun _ _ => True) (fun q => sz ≤ q)) (vx_X (fun (_ : Unit) => True) (fun E _ _ => E = "java/lang/IllegalArgumentException") (fun q => sz ≤ q)) 1 6 (fun q => sz ≤ q) := by
  refine vx_ofW (cc := cX7_bay) (maxL := 4) (ret := (some .int)) (by decide) rfl ?_
  intro p e s m args below meth c s₁ B hml hex hv
  obtain ⟨rfl, hsz, hP, hK, hD0, hN, hE, hZ⟩ := hv
  have hx := B.exec
  have hb := B.bytes
  have hr := B.returns
  have hts := atoms_spec (ws := wsX7_bay) B.pre
  have hown : s.vm.findClass RX7 = some m.cls := findClass_of_methodNamed B.named
  have hlocks := B.notSynchronized
  subst hsz
  have hP : va_P (dC, dI) vwCl [(x, .inr (5, [.ref rk, .ref bs, .ref od, .ref jb, .ref ap, .int 0, .int 1, .int 0, .int 0, .int 0])), (rk, .inr (4, [.ref hd, .ref jm])), (hd, .inl (cI, 96, .inl (fun _ => 0))), (jm, .inl (cZ, 4, .inl (fun _ => 0))), (bs, .inl (cB, 2, .inr (.inr (.inr (.inr (va_up (va_up (fun _ => none) 0 (some b0)) 1 (some b1))))))), (b0, .inr (0, [.int 2, .int 0, .int 0, .int 0, .int 0, .int (-1)])), (b1, .inr (0, [.int 2, .int 0, .int 0, .int 0, .int 0, .int (-1)])), (od, .inr (2, [.ref o1, .ref o2, .ref o3, .int 0])), (jb, .inr (1, [.ref pl, .int (-1), .int 0, .int 0, .int 0]))] s.heap := hP
  have hK : va_K (dC, dI) vwCl [(cI, .int), (cZ, .boolean), (cB, .object "ParkTower$Bay")] s := hK
  have hl := lv_entry ([.ref x, .int b, .int k]) (n := 4) (Nat.le_of_ble_eq_true rfl)
  rw [lg_entry_eq]
  generalize (lg_sl ([.ref x, .int b, .int k]) ++ List.replicate (4 - (lg_sl ([.ref x, .int b, .int k])).length) Slot.unset).toArray = ls at hl ⊢
  have hl : lv_has ls 4 [(0, .ref x), (1, .int b), (2, .int k)] := hl
  refine lv_iload_n hx hb dX7_bay_0 rfl (lv_at hl 1 rfl) ?_
  refine pt_cSi (va_runS (As := [.int b]) (rest := []) ⟨hx, hb, hml, hown, hts⟩ (c_isBay l dC dI b) (cwS 1 hts gX7_bay_X7_isBay rfl rfl rfl (by decide +kernel) ⟨Nat.le_of_ble_eq_true rfl, Nat.le_of_ble_eq_true rfl⟩) ⟨pt_blind, pt_pre (w := []) (tys := []) (hP.sub [] rfl) (hK.sub [] rfl) hN⟩ rfl rfl hl.1 rfl (lv_room (Nat.le_of_ble_eq_true rfl)) dX7_bay_1 ⟨Nat.le_of_ble_eq_true rfl, Nat.le_of_ble_eq_true rfl⟩) (fun r_1 hr_1 => ?_)
  obtain rfl : r_1 = 0 := hr_1.trans (if_neg nb)
  refine lv_if_ne (tgt := 15) hx hb dX7_bay_4 (by decide) (fun c => absurd (by decide) c) (fun _ => ?_)
  exact vx_throw0 (own := RX7) (cls := "java/lang/IllegalArgumentException") (names := ["java/lang/RuntimeException", "java/lang/Exception"]) (ik := 52) (ic := 54) (A := fun q => s.heap.size ≤ q) hx hb hlt hown (by decide) (by decide) (hts (.classLink RX7 52 "java/lang/IllegalArgumentException") (by decide +kernel)) (hts (.initialized "java/lang/IllegalArgumentException") (by decide +kernel)) (pt_hat hts (by decide +kernel) pt_no54 hE) pt_ok54 hZ.1 hZ.2 va_S.rf (by rw [hml]; exact hl.1) dX7_bay_7 dX7_bay_10 dX7_bay_11 dX7_bay_14 (fun x h => (hex x h).elim) (Nat.le_of_ble_eq_true rfl) (Nat.le_of_ble_eq_true rfl) (Nat.le_of_ble_eq_true rfl) (Nat.le_of_ble_eq_true rfl) hlocks (fun t hal hz hk => ⟨(), trivial, rfl, hz, fun q h1 _ => hk q h1⟩) (fun z h => by cases h) (Nat.le_of_ble_eq_true rfl) (Nat.le_of_ble_eq_true rfl)
set_option maxHeartbeats 4000000 in
set_option maxRecDepth 100000 in
theorem t_bay0 (l : Launch) (hlt : l.stackTraces = false) (dC : Nat → ClassId) (dI : Nat → Nat → Nat) (sz : Nat) (x rk hd jm bs b0 b1 od o1 o2 o3 jb pl ap : Nat) (cI cZ cB : ClassId) (k : Int32) (hk : k.toInt < 0 ∨ 4 < k.toInt) : vx_Met l yX7_bay wsX7_bay ({ frames := 6, cells := 1, slots := 6, locals := 89 }) (va_Pc [.ref x, .int 0, .int k] (pt_BT (dC, dI) [(x, .inr (5, [.ref rk, .ref bs, .ref od, .ref jb, .ref ap, .int 0, .int 1, .int 0, .int 0, .int 0])), (rk, .inr (4, [.ref hd, .ref jm])), (hd, .inl (cI, 96, .inl (fun _ => 0))), (jm, .inl (cZ, 4, .inl (fun _ => 0))), (bs, .inl (cB, 2, .inr (.inr (.inr (.inr (va_up (va_up (fun _ => none) 0 (some b0)) 1 (some b1))))))), (b0, .inr (0, [.int 2, .int 0, .int 0, .int 0, .int 0, .int (-1)])), (b1, .inr (0, [.int 2, .int 0, .int 0, .int 0, .int 0, .int (-1)])), (od, .inr (2, [.ref o1, .ref o2, .ref o3, .int 0])), (jb, .inr (1, [.ref pl, .int (-1), .int 0, .int 0, .int 0]))] [(cI, .int), (cZ, .boolean), (cB, .object "ParkTower$Bay")] sz)) (va_Qi (fun (_ : Int32) (_ : Unit) => False) (fun _ _ => True) (fun q => sz ≤ q)) (vx_X (fun (_ : Unit) => True) (fun E _ _ => E = "java/lang/IllegalArgumentException") (fun q => sz ≤ q)) 1 6 (fun q => sz ≤ q) := by
  refine vx_ofW (cc := cX7_bay) (maxL := 4) (ret := (some .int)) (by decide) rfl ?_
  intro p e s m args below meth c s₁ B hml hex hv
  obtain ⟨rfl, hsz, hP, hK, hD0, hN, hE, hZ⟩ := hv
  have hx := B.exec
  have hb := B.bytes
  have hr := B.returns
  have hts := atoms_spec (ws := wsX7_bay) B.pre
  have hown : s.vm.findClass RX7 = some m.cls := findClass_of_methodNamed B.named
  have hlocks := B.notSynchronized
  have iX7 : ∀ w ∈ wsX70, w ∈ wsX7_bay := by decide +kernel
  subst hsz
  have hP : va_P (dC, dI) vwCl [(x, .inr (5, [.ref rk, .ref bs, .ref od, .ref jb, .ref ap, .int 0, .int 1, .int 0, .int 0, .int 0])), (rk, .inr (4, [.ref hd, .ref jm])), (hd, .inl (cI, 96, .inl (fun _ => 0))), (jm, .inl (cZ, 4, .inl (fun _ => 0))), (bs, .inl (cB, 2, .inr (.inr (.inr (.inr (va_up (va_up (fun _ => none) 0 (some b0)) 1 (some b1))))))), (b0, .inr (0, [.int 2, .int 0, .int 0, .int 0, .int 0, .int (-1)])), (b1, .inr (0, [.int 2, .int 0, .int 0, .int 0, .int 0, .int (-1)])), (od, .inr (2, [.ref o1, .ref o2, .ref o3, .int 0])), (jb, .inr (1, [.ref pl, .int (-1), .int 0, .int 0, .int 0]))] s.heap := hP
  have hK : va_K (dC, dI) vwCl [(cI, .int), (cZ, .boolean), (cB, .object "ParkTower$Bay")] s := hK
  have hl := lv_entry ([.ref x, .int 0, .int k]) (n := 4) (Nat.le_of_ble_eq_true rfl)
  rw [lg_entry_eq]
  generalize (lg_sl ([.ref x, .int 0, .int k]) ++ List.replicate (4 - (lg_sl ([.ref x, .int 0, .int k])).length) Slot.unset).toArray = ls at hl ⊢
  have hl : lv_has ls 4 [(0, .ref x), (1, .int 0), (2, .int k)] := hl
  refine lv_iload_n hx hb dX7_bay_0 rfl (lv_at hl 1 rfl) ?_
  refine pt_cSi (va_runS (As := [.int 0]) (rest := []) ⟨hx, hb, hml, hown, hts⟩ (c_isBay l dC dI 0) (cwS 1 hts gX7_bay_X7_isBay rfl rfl rfl (by decide +kernel) ⟨Nat.le_of_ble_eq_true rfl, Nat.le_of_ble_eq_true rfl⟩) ⟨pt_blind, pt_pre (w := []) (tys := []) (hP.sub [] rfl) (hK.sub [] rfl) hN⟩ rfl rfl hl.1 rfl (lv_room (Nat.le_of_ble_eq_true rfl)) dX7_bay_1 ⟨Nat.le_of_ble_eq_true rfl, Nat.le_of_ble_eq_true rfl⟩) (fun r_1 hr_1 => ?_)
  obtain rfl : r_1 = 1 := hr_1.trans (by decide)
  refine lv_if_ne (tgt := 15) hx hb dX7_bay_4 (by decide) (fun _ => ?_) (fun c => absurd c (by decide))
  refine lv_aload_n hx hb dX7_bay_15 rfl (lv_at hl 0 rfl) ?_
  refine va_get (D := (dC, dI)) (ci := 5) (v := .ref bs) (C := RX7) (T := TX7) (N := 10) hx hb hts iX7 hown hK hP 0 rfl rfl 1 (by decide) (hts (.fieldLink RX7 18 "ParkTower" "bays" "[LParkTower$Bay;") (by decide +kernel)) (fun _ h9 => h9) rfl dX7_bay_16 ?_
  refine lv_iload_n hx hb dX7_bay_19 rfl (lv_at hl 1 rfl) ?_
  refine va_aldq hx hb hK hP 4 2 rfl rfl (vp_in_iff.mpr (by decide)) dX7_bay_20 ?_
  refine W.eq (g2 := F0 m 21 ls [.ref b0]) rfl ?_
  refine lv_astore_n (lv' := [(3, .ref b0), (0, .ref x), (1, .int 0), (2, .int k)]) hx hb dX7_bay_21 rfl hl (by decide) rfl (fun ls hl => ?_)
  refine lv_iload_n hx hb dX7_bay_22 rfl (lv_at hl 3 rfl) ?_
  refine lv_tableOut (tgt := 101) hx hb dX7_bay_23 hk (by decide) ?_
  exact vx_throw0 (own := RX7) (cls := "java/lang/IllegalArgumentException") (names := ["java/lang/RuntimeException", "java/lang/Exception"]) (ik := 52) (ic := 54) (A := fun q => s.heap.size ≤ q) hx hb hlt hown (by decide) (by decide) (hts (.classLink RX7 52 "java/lang/IllegalArgumentException") (by decide +kernel)) (hts (.initialized "java/lang/IllegalArgumentException") (by decide +kernel)) (pt_hat hts (by decide +kernel) pt_no54 hE) pt_ok54 hZ.1 hZ.2 va_S.rf (by rw [hml]; exact hl.1) dX7_bay_101 dX7_bay_104 dX7_bay_105 dX7_bay_108 (fun x h => (hex x h).elim) (Nat.le_of_ble_eq_true rfl) (Nat.le_of_ble_eq_true rfl) (Nat.le_of_ble_eq_true rfl) (Nat.le_of_ble_eq_true rfl) hlocks (fun t hal hz hk => ⟨(), trivial, rfl, hz, fun q h1 _ => hk q h1⟩) (fun z h => by cases h) (Nat.le_of_ble_eq_true rfl) (Nat.le_of_ble_eq_true rfl)
set_option maxHeartbeats 4000000 in
set_option maxRecDepth 100000 in
theorem t_bay1 (l : Launch) (hlt : l.stackTraces = false) (dC : Nat → ClassId) (dI : Nat → Nat → Nat) (sz : Nat) (x rk hd jm bs b0 b1 od o1 o2 o3 jb pl ap : Nat) (cI cZ cB : ClassId) (k : Int32) (hk : k.toInt < 0 ∨ 4 < k.toInt) : vx_Met l yX7_bay wsX7_bay ({ frames := 6, cells := 1, slots := 6, locals := 89 }) (va_Pc [.ref x, .int 1, .int k] (pt_BT (dC, dI) [(x, .inr (5, [.ref rk, .ref bs, .ref od, .ref jb, .ref ap, .int 0, .int 1, .int 0, .int 0, .int 0])), (rk, .inr (4, [.ref hd, .ref jm])), (hd, .inl (cI, 96, .inl (fun _ => 0))), (jm, .inl (cZ, 4, .inl (fun _ => 0))), (bs, .inl (cB, 2, .inr (.inr (.inr (.inr (va_up (va_up (fun _ => none) 0 (some b0)) 1 (some b1))))))), (b0, .inr (0, [.int 2, .int 0, .int 0, .int 0, .int 0, .int (-1)])), (b1, .inr (0, [.int 2, .int 0, .int 0, .int 0, .int 0, .int (-1)])), (od, .inr (2, [.ref o1, .ref o2, .ref o3, .int 0])), (jb, .inr (1, [.ref pl, .int (-1), .int 0, .int 0, .int 0]))] [(cI, .int), (cZ, .boolean), (cB, .object "ParkTower$Bay")] sz)) (va_Qi (fun (_ : Int32) (_ : Unit) => False) (fun _ _ => True) (fun q => sz ≤ q)) (vx_X (fun (_ : Unit) => True) (fun E _ _ => E = "java/lang/IllegalArgumentException") (fun q => sz ≤ q)) 1 6 (fun q => sz ≤ q) := by
  refine vx_ofW (cc := cX7_bay) (maxL := 4) (ret := (some .int)) (by decide) rfl ?_
  intro p e s m args below meth c s₁ B hml hex hv
  obtain ⟨rfl, hsz, hP, hK, hD0, hN, hE, hZ⟩ := hv
  have hx := B.exec
  have hb := B.bytes
  have hr := B.returns
  have hts := atoms_spec (ws := wsX7_bay) B.pre
  have hown : s.vm.findClass RX7 = some m.cls := findClass_of_methodNamed B.named
  have hlocks := B.notSynchronized
  have iX7 : ∀ w ∈ wsX70, w ∈ wsX7_bay := by decide +kernel
  subst hsz
  have hP : va_P (dC, dI) vwCl [(x, .inr (5, [.ref rk, .ref bs, .ref od, .ref jb, .ref ap, .int 0, .int 1, .int 0, .int 0, .int 0])), (rk, .inr (4, [.ref hd, .ref jm])), (hd, .inl (cI, 96, .inl (fun _ => 0))), (jm, .inl (cZ, 4, .inl (fun _ => 0))), (bs, .inl (cB, 2, .inr (.inr (.inr (.inr (va_up (va_up (fun _ => none) 0 (some b0)) 1 (some b1))))))), (b0, .inr (0, [.int 2, .int 0, .int 0, .int 0, .int 0, .int (-1)])), (b1, .inr (0, [.int 2, .int 0, .int 0, .int 0, .int 0, .int (-1)])), (od, .inr (2, [.ref o1, .ref o2, .ref o3, .int 0])), (jb, .inr (1, [.ref pl, .int (-1), .int 0, .int 0, .int 0]))] s.heap := hP
  have hK : va_K (dC, dI) vwCl [(cI, .int), (cZ, .boolean), (cB, .object "ParkTower$Bay")] s := hK
  have hl := lv_entry ([.ref x, .int 1, .int k]) (n := 4) (Nat.le_of_ble_eq_true rfl)
  rw [lg_entry_eq]
  generalize (lg_sl ([.ref x, .int 1, .int k]) ++ List.replicate (4 - (lg_sl ([.ref x, .int 1, .int k])).length) Slot.unset).toArray = ls at hl ⊢
  have hl : lv_has ls 4 [(0, .ref x), (1, .int 1), (2, .int k)] := hl
  refine lv_iload_n hx hb dX7_bay_0 rfl (lv_at hl 1 rfl) ?_
  refine pt_cSi (va_runS (As := [.int 1]) (rest := []) ⟨hx, hb, hml, hown, hts⟩ (c_isBay l dC dI 1) (cwS 1 hts gX7_bay_X7_isBay rfl rfl rfl (by decide +kernel) ⟨Nat.le_of_ble_eq_true rfl, Nat.le_of_ble_eq_true rfl⟩) ⟨pt_blind, pt_pre (w := []) (tys := []) (hP.sub [] rfl) (hK.sub [] rfl) hN⟩ rfl rfl hl.1 rfl (lv_room (Nat.le_of_ble_eq_true rfl)) dX7_bay_1 ⟨Nat.le_of_ble_eq_true rfl, Nat.le_of_ble_eq_true rfl⟩) (fun r_1 hr_1 => ?_)
  obtain rfl : r_1 = 1 := hr_1.trans (by decide)
  refine lv_if_ne (tgt := 15) hx hb dX7_bay_4 (by decide) (fun _ => ?_) (fun c => absurd c (by decide))
  refine lv_aload_n hx hb dX7_bay_15 rfl (lv_at hl 0 rfl) ?_
  refine va_get (D := (dC, dI)) (ci := 5) (v := .ref bs) (C := RX7) (T := TX7) (N := 10) hx hb hts iX7 hown hK hP 0 rfl rfl 1 (by decide) (hts (.fieldLink RX7 18 "ParkTower" "bays" "[LParkTower$Bay;") (by decide +kernel)) (fun _ h9 => h9) rfl dX7_bay_16 ?_
  refine lv_iload_n hx hb dX7_bay_19 rfl (lv_at hl 1 rfl) ?_
  refine va_aldq hx hb hK hP 4 2 rfl rfl (vp_in_iff.mpr (by decide)) dX7_bay_20 ?_
  refine W.eq (g2 := F0 m 21 ls [.ref b1]) rfl ?_
  refine lv_astore_n (lv' := [(3, .ref b1), (0, .ref x), (1, .int 1), (2, .int k)]) hx hb dX7_bay_21 rfl hl (by decide) rfl (fun ls hl => ?_)
  refine lv_iload_n hx hb dX7_bay_22 rfl (lv_at hl 3 rfl) ?_
  refine lv_tableOut (tgt := 101) hx hb dX7_bay_23 hk (by decide) ?_
  exact vx_throw0 (own := RX7) (cls := "java/lang/IllegalArgumentException") (names := ["java/lang/RuntimeException", "java/lang/Exception"]) (ik := 52) (ic := 54) (A := fun q => s.heap.size ≤ q) hx hb hlt hown (by decide) (by decide) (hts (.classLink RX7 52 "java/lang/IllegalArgumentException") (by decide +kernel)) (hts (.initialized "java/lang/IllegalArgumentException") (by decide +kernel)) (pt_hat hts (by decide +kernel) pt_no54 hE) pt_ok54 hZ.1 hZ.2 va_S.rf (by rw [hml]; exact hl.1) dX7_bay_101 dX7_bay_104 dX7_bay_105 dX7_bay_108 (fun x h => (hex x h).elim) (Nat.le_of_ble_eq_true rfl) (Nat.le_of_ble_eq_true rfl) (Nat.le_of_ble_eq_true rfl) (Nat.le_of_ble_eq_true rfl) hlocks (fun t hal hz hk => ⟨(), trivial, rfl, hz, fun q h1 _ => hk q h1⟩) (fun z h => by cases h) (Nat.le_of_ble_eq_true rfl) (Nat.le_of_ble_eq_true rfl)
set_option maxHeartbeats 4000000 in
set_option maxRecDepth 100000 in
theorem t_look (l : Launch) (hlt : l.stackTraces = false) (dC : Nat → ClassId) (dI : Nat → Nat → Nat) (sz : Nat) (x rk hd jm bs b0 b1 od o1 o2 o3 jb pl ap : Nat) (cI cZ cB : ClassId) (k : Int32) (hk : k.toInt < 0 ∨ 6 < k.toInt) : vx_Met l yX7_look wsX7_look ({ frames := 6, cells := 1, slots := 6, locals := 89 }) (va_Pc [.ref x, .int k] (pt_BT (dC, dI) [(x, .inr (5, [.ref rk, .ref bs, .ref od, .ref jb, .ref ap, .int 0, .int 1, .int 0, .int 0, .int 0])), (rk, .inr (4, [.ref hd, .ref jm])), (hd, .inl (cI, 96, .inl (fun _ => 0))), (jm, .inl (cZ, 4, .inl (fun _ => 0))), (bs, .inl (cB, 2, .inr (.inr (.inr (.inr (va_up (va_up (fun _ => none) 0 (some b0)) 1 (some b1))))))), (b0, .inr (0, [.int 2, .int 0, .int 0, .int 0, .int 0, .int (-1)])), (b1, .inr (0, [.int 2, .int 0, .int 0, .int 0, .int 0, .int (-1)])), (od, .inr (2, [.ref o1, .ref o2, .ref o3, .int 0])), (jb, .inr (1, [.ref pl, .int (-1), .int 0, .int 0, .int 0]))] [(cI, .int), (cZ, .boolean), (cB, .object "ParkTower$Bay")] sz)) (va_Qi (fun (_ : Int32) (_ : Unit) => False) (fun _ _ => True) (fun q => sz ≤ q)) (vx_X (fun (_ : Unit) => True) (fun E _ _ => E = "java/lang/IllegalArgumentException") (fun q => sz ≤ q)) 1 6 (fun q => sz ≤ q) := by
  refine vx_ofW (cc := cX7_look) (maxL := 2) (ret := (some .int)) (by decide) rfl ?_
  intro p e s m args below meth c s₁ B hml hex hv
  obtain ⟨rfl, hsz, hP, hK, hD0, hN, hE, hZ⟩ := hv
  have hx := B.exec
  have hb := B.bytes
  have hr := B.returns
  have hts := atoms_spec (ws := wsX7_look) B.pre
  have hown : s.vm.findClass RX7 = some m.cls := findClass_of_methodNamed B.named
  have hlocks := B.notSynchronized
  subst hsz
  have hP : va_P (dC, dI) vwCl [(x, .inr (5, [.ref rk, .ref bs, .ref od, .ref jb, .ref ap, .int 0, .int 1, .int 0, .int 0, .int 0])), (rk, .inr (4, [.ref hd, .ref jm])), (hd, .inl (cI, 96, .inl (fun _ => 0))), (jm, .inl (cZ, 4, .inl (fun _ => 0))), (bs, .inl (cB, 2, .inr (.inr (.inr (.inr (va_up (va_up (fun _ => none) 0 (some b0)) 1 (some b1))))))), (b0, .inr (0, [.int 2, .int 0, .int 0, .int 0, .int 0, .int (-1)])), (b1, .inr (0, [.int 2, .int 0, .int 0, .int 0, .int 0, .int (-1)])), (od, .inr (2, [.ref o1, .ref o2, .ref o3, .int 0])), (jb, .inr (1, [.ref pl, .int (-1), .int 0, .int 0, .int 0]))] s.heap := hP
  have hK : va_K (dC, dI) vwCl [(cI, .int), (cZ, .boolean), (cB, .object "ParkTower$Bay")] s := hK
  have hl := lv_entry ([.ref x, .int k]) (n := 2) (Nat.le_of_ble_eq_true rfl)
  rw [lg_entry_eq]
  generalize (lg_sl ([.ref x, .int k]) ++ List.replicate (2 - (lg_sl ([.ref x, .int k])).length) Slot.unset).toArray = ls at hl ⊢
  have hl : lv_has ls 2 [(0, .ref x), (1, .int k)] := hl
  refine lv_iload_n hx hb dX7_look_0 rfl (lv_at hl 1 rfl) ?_
  refine lv_tableOut (tgt := 116) hx hb dX7_look_1 hk (by decide) ?_
  exact vx_throw0 (own := RX7) (cls := "java/lang/IllegalArgumentException") (names := ["java/lang/RuntimeException", "java/lang/Exception"]) (ik := 52) (ic := 54) (A := fun q => s.heap.size ≤ q) hx hb hlt hown (by decide) (by decide) (hts (.classLink RX7 52 "java/lang/IllegalArgumentException") (by decide +kernel)) (hts (.initialized "java/lang/IllegalArgumentException") (by decide +kernel)) (pt_hat hts (by decide +kernel) pt_no54 hE) pt_ok54 hZ.1 hZ.2 va_S.rf (by rw [hml]; exact hl.1) dX7_look_116 dX7_look_119 dX7_look_120 dX7_look_123 (fun x h => (hex x h).elim) (Nat.le_of_ble_eq_true rfl) (Nat.le_of_ble_eq_true rfl) (Nat.le_of_ble_eq_true rfl) (Nat.le_of_ble_eq_true rfl) hlocks (fun t hal hz hk => ⟨(), trivial, rfl, hz, fun q h1 _ => hk q h1⟩) (fun z h => by cases h) (Nat.le_of_ble_eq_true rfl) (Nat.le_of_ble_eq_true rfl)
