set_option maxHeartbeats 4000000 in
set_option maxRecDepth 100000 in
theorem s_add (l : Launch) (dC : Nat → ClassId) (dI : Nat → Nat → Nat) (sz : Nat) (od ts bs ks : Nat) (c1 c2 c3 : ClassId) (ft fb fk : Nat → Int32) (n : Nat) (x b y : Int32) (hn : n ≤ 24) (h1 : ∀ i, sB (fb i)) (h2 : ∀ i, sK (fk i)) (h3 : sB b) (h4 : sK y) : Met l yX3_add wsX3_add ({ frames := 0, cells := 0, slots := 0, locals := 0 }) (va_Pc [.ref od, .int x, .int b, .int y] (pt_BQ (dC, dI) [(od, .inr (2, [.ref ts, .ref bs, .ref ks, .int (nI n)])), (ts, .inl (c1, 24, .inl ft)), (bs, .inl (c2, 24, .inl fb)), (ks, .inl (c3, 24, .inl fk))] [(c1, .int), (c2, .int), (c3, .int)] sz)) (va_Qv (fun (u : Nat × (Nat → Int32) × (Nat → Int32) × (Nat → Int32)) => n ≤ u.1 ∧ u.1 ≤ 24 ∧ (∀ i, sB (u.2.2.1 i)) ∧ (∀ i, sK (u.2.2.2 i))) (fun u t => pt_at (dC, dI) (va_A [(od, .inr (2, [.ref ts, .ref bs, .ref ks, .int (nI n)])), (ts, .inl (c1, 24, .inl ft)), (bs, .inl (c2, 24, .inl fb)), (ks, .inl (c3, 24, .inl fk))] sz) [(od, .inr (2, [.ref ts, .ref bs, .ref ks, .int (nI u.1)])), (ts, .inl (c1, 24, .inl u.2.1)), (bs, .inl (c2, 24, .inl u.2.2.1)), (ks, .inl (c3, 24, .inl u.2.2.2))] [] t) (va_A [(od, .inr (2, [.ref ts, .ref bs, .ref ks, .int (nI n)])), (ts, .inl (c1, 24, .inl ft)), (bs, .inl (c2, 24, .inl fb)), (ks, .inl (c3, 24, .inl fk))] sz)) 0 0 (va_A [(od, .inr (2, [.ref ts, .ref bs, .ref ks, .int (nI n)])), (ts, .inl (c1, 24, .inl ft)), (bs, .inl (c2, 24, .inl fb)), (ks, .inl (c3, 24, .inl fk))] sz) := by
  refine Met.ofW (cc := cX3_add) (maxL := 4) (ret := none) (by decide) rfl ?_
  intro p e s m args below meth c s₁ B hml hv
  obtain ⟨rfl, hsz, hP, hK, hD0, hN⟩ := hv
  have hx := B.exec
  have hb := B.bytes
  have hr := B.returns
  have hts := atoms_spec (ws := wsX3_add) B.pre
  have hown : s.vm.findClass RX3 = some m.cls := findClass_of_methodNamed B.named
  have hlocks := B.notSynchronized
  have iX3 : ∀ w ∈ wsX30, w ∈ wsX3_add := by decide +kernel
  subst hsz
  have hD := hD0.self (sz := s.heap.size)
  generalize hAe : va_A [(od, .inr (2, [.ref ts, .ref bs, .ref ks, .int (nI n)])), (ts, .inl (c1, 24, .inl ft)), (bs, .inl (c2, 24, .inl fb)), (ks, .inl (c3, 24, .inl fk))] s.heap.size = A at hD ⊢
  have hA : ∀ q : Nat, s.heap.size ≤ q → A q := fun q h => by rw [← hAe]; exact Or.inr h
  have hS : va_S A s.heap s.heap [] := va_S.rf
  have hP : va_P (dC, dI) vwCl [(od, .inr (2, [.ref ts, .ref bs, .ref ks, .int (nI n)])), (ts, .inl (c1, 24, .inl ft)), (bs, .inl (c2, 24, .inl fb)), (ks, .inl (c3, 24, .inl fk))] s.heap := hP
  have hK : va_K (dC, dI) vwCl [(c1, .int), (c2, .int), (c3, .int)] s := hK
  have hl := lv_entry ([.ref od, .int x, .int b, .int y]) (n := 4) (Nat.le_of_ble_eq_true rfl)
  rw [lg_entry_eq]
  generalize (lg_sl ([.ref od, .int x, .int b, .int y]) ++ List.replicate (4 - (lg_sl ([.ref od, .int x, .int b, .int y])).length) Slot.unset).toArray = ls at hl ⊢
  have hl : lv_has ls 4 [(0, .ref od), (1, .int x), (2, .int b), (3, .int y)] := hl
  refine lv_aload_n hx hb dX3_add_0 rfl (lv_at hl 0 rfl) ?_
  refine va_get (D := (dC, dI)) (ci := 2) (v := .int (nI n)) (C := RX3) (T := TX3) (N := 4) hx hb hts iX3 hown hK hP 0 rfl rfl 3 (by decide) (hts (.fieldLink RX3 21 "ParkTower$Orders" "count" "I") (by decide +kernel)) (fun _ h9 => h9) rfl dX3_add_1 ?_
  refine lv_bipush (v := 24) hx hb dX3_add_4 (by decide) ?_
  refine lv_icmp_lt (tgt := 10) hx hb dX3_add_6 (by decide) (fun c_1 => ?_) (fun c_1 => ?_)
  · have c_1 : n < 24 := (nI_ltI (a := n) (b := 24) (by omega) (by omega)).mp c_1
    refine lv_aload_n hx hb dX3_add_10 rfl (lv_at hl 0 rfl) ?_
    refine va_get (D := (dC, dI)) (ci := 2) (v := .ref ts) (C := RX3) (T := TX3) (N := 4) hx hb hts iX3 hown hK hP 0 rfl rfl 0 (by decide) (hts (.fieldLink RX3 9 "ParkTower$Orders" "tickets" "[I") (by decide +kernel)) (fun _ h9 => h9) rfl dX3_add_11 ?_
    refine lv_aload_n hx hb dX3_add_14 rfl (lv_at hl 0 rfl) ?_
    refine va_get (D := (dC, dI)) (ci := 2) (v := .int (nI n)) (C := RX3) (T := TX3) (N := 4) hx hb hts iX3 hown hK hP 0 rfl rfl 3 (by decide) (hts (.fieldLink RX3 21 "ParkTower$Orders" "count" "I") (by decide +kernel)) (fun _ h9 => h9) rfl dX3_add_15 ?_
    refine lv_iload_n hx hb dX3_add_18 rfl (lv_at hl 1 rfl) ?_
    refine va_iast hx hb hK hP hD hS 1 0 rfl rfl (vp_in_nI (n := n) (by omega) (by decide)) dX3_add_19 (fun H locs hP hD hS => ?_)
    have hP : va_P (dC, dI) vwCl [(od, .inr (2, [.ref ts, .ref bs, .ref ks, .int (nI n)])), (ts, .inl (c1, 24, .inl (upd ft (nI n).toNatClampNeg x))), (bs, .inl (c2, 24, .inl fb)), (ks, .inl (c3, 24, .inl fk))] H := hP
    have hD : va_D A [(od, .inr (2, [.ref ts, .ref bs, .ref ks, .int (nI n)])), (ts, .inl (c1, 24, .inl (upd ft (nI n).toNatClampNeg x))), (bs, .inl (c2, 24, .inl fb)), (ks, .inl (c3, 24, .inl fk))] := hD
    refine lv_aload_n hx hb dX3_add_20 rfl (lv_at hl 0 rfl) ?_
    refine va_get (D := (dC, dI)) (ci := 2) (v := .ref bs) (C := RX3) (T := TX3) (N := 4) hx hb hts iX3 hown hK hP 0 rfl rfl 1 (by decide) (hts (.fieldLink RX3 15 "ParkTower$Orders" "bays" "[I") (by decide +kernel)) (fun _ h9 => h9) rfl dX3_add_21 ?_
    refine lv_aload_n hx hb dX3_add_24 rfl (lv_at hl 0 rfl) ?_
    refine va_get (D := (dC, dI)) (ci := 2) (v := .int (nI n)) (C := RX3) (T := TX3) (N := 4) hx hb hts iX3 hown hK hP 0 rfl rfl 3 (by decide) (hts (.fieldLink RX3 21 "ParkTower$Orders" "count" "I") (by decide +kernel)) (fun _ h9 => h9) rfl dX3_add_25 ?_
    refine lv_iload_n hx hb dX3_add_28 rfl (lv_at hl 2 rfl) ?_
    refine va_iast hx hb hK hP hD hS 2 1 rfl rfl (vp_in_nI (n := n) (by omega) (by decide)) dX3_add_29 (fun H locs hP hD hS => ?_)
    have hP : va_P (dC, dI) vwCl [(od, .inr (2, [.ref ts, .ref bs, .ref ks, .int (nI n)])), (ts, .inl (c1, 24, .inl (upd ft (nI n).toNatClampNeg x))), (bs, .inl (c2, 24, .inl (upd fb (nI n).toNatClampNeg b))), (ks, .inl (c3, 24, .inl fk))] H := hP
    have hD : va_D A [(od, .inr (2, [.ref ts, .ref bs, .ref ks, .int (nI n)])), (ts, .inl (c1, 24, .inl (upd ft (nI n).toNatClampNeg x))), (bs, .inl (c2, 24, .inl (upd fb (nI n).toNatClampNeg b))), (ks, .inl (c3, 24, .inl fk))] := hD
    refine lv_aload_n hx hb dX3_add_30 rfl (lv_at hl 0 rfl) ?_
    refine va_get (D := (dC, dI)) (ci := 2) (v := .ref ks) (C := RX3) (T := TX3) (N := 4) hx hb hts iX3 hown hK hP 0 rfl rfl 2 (by decide) (hts (.fieldLink RX3 18 "ParkTower$Orders" "keptCells" "[I") (by decide +kernel)) (fun _ h9 => h9) rfl dX3_add_31 ?_
    refine lv_aload_n hx hb dX3_add_34 rfl (lv_at hl 0 rfl) ?_
    refine va_get (D := (dC, dI)) (ci := 2) (v := .int (nI n)) (C := RX3) (T := TX3) (N := 4) hx hb hts iX3 hown hK hP 0 rfl rfl 3 (by decide) (hts (.fieldLink RX3 21 "ParkTower$Orders" "count" "I") (by decide +kernel)) (fun _ h9 => h9) rfl dX3_add_35 ?_
    refine lv_iload_n hx hb dX3_add_38 rfl (lv_at hl 3 rfl) ?_
    refine va_iast hx hb hK hP hD hS 3 2 rfl rfl (vp_in_nI (n := n) (by omega) (by decide)) dX3_add_39 (fun H locs hP hD hS => ?_)
    have hP : va_P (dC, dI) vwCl [(od, .inr (2, [.ref ts, .ref bs, .ref ks, .int (nI n)])), (ts, .inl (c1, 24, .inl (upd ft (nI n).toNatClampNeg x))), (bs, .inl (c2, 24, .inl (upd fb (nI n).toNatClampNeg b))), (ks, .inl (c3, 24, .inl (upd fk (nI n).toNatClampNeg y)))] H := hP
    have hD : va_D A [(od, .inr (2, [.ref ts, .ref bs, .ref ks, .int (nI n)])), (ts, .inl (c1, 24, .inl (upd ft (nI n).toNatClampNeg x))), (bs, .inl (c2, 24, .inl (upd fb (nI n).toNatClampNeg b))), (ks, .inl (c3, 24, .inl (upd fk (nI n).toNatClampNeg y)))] := hD
    refine lv_aload_n hx hb dX3_add_40 rfl (lv_at hl 0 rfl) ?_
    refine lv_dup hx hb dX3_add_41 rfl ?_
    refine va_get (D := (dC, dI)) (ci := 2) (v := .int (nI n)) (C := RX3) (T := TX3) (N := 4) hx hb hts iX3 hown hK hP 0 rfl rfl 3 (by decide) (hts (.fieldLink RX3 21 "ParkTower$Orders" "count" "I") (by decide +kernel)) (fun _ h9 => h9) rfl dX3_add_42 ?_
    refine lv_iconst (v := 1) hx hb dX3_add_45 (by decide) ?_
    refine lv_iadd hx hb dX3_add_46 ?_
    refine pt_topi (nI (n + 1)) (nI_add n 1) ?_
    refine va_put (D := (dC, dI)) (ci := 2) (v := .int (nI (n + 1))) (ty := .int) (C := RX3) (T := TX3) (N := 4) hx hb hts iX3 tyX3 tyX3_ok nmX3 hown hK hP hD hS 0 rfl rfl 3 (by decide) (hts (.fieldLink RX3 21 "ParkTower$Orders" "count" "I") (by decide +kernel)) (fun _ h9 => h9) rfl (by decide +kernel) rfl rfl (Nat.le_of_ble_eq_true rfl) dX3_add_47 (fun H locs hP hD hS => ?_)
    have hP : va_P (dC, dI) vwCl [(od, .inr (2, [.ref ts, .ref bs, .ref ks, .int (nI (n + 1))])), (ts, .inl (c1, 24, .inl (upd ft (nI n).toNatClampNeg x))), (bs, .inl (c2, 24, .inl (upd fb (nI n).toNatClampNeg b))), (ks, .inl (c3, 24, .inl (upd fk (nI n).toNatClampNeg y)))] H := hP
    have hD : va_D A [(od, .inr (2, [.ref ts, .ref bs, .ref ks, .int (nI (n + 1))])), (ts, .inl (c1, 24, .inl (upd ft (nI n).toNatClampNeg x))), (bs, .inl (c2, 24, .inl (upd fb (nI n).toNatClampNeg b))), (ks, .inl (c3, 24, .inl (upd fk (nI n).toNatClampNeg y)))] := hD
    have hP9 := hP.sub (ws' := [(od, .inr (2, [.ref ts, .ref bs, .ref ks, .int (nI (n + 1))])), (ts, .inl (c1, 24, .inl (upd ft (nI n).toNatClampNeg x))), (bs, .inl (c2, 24, .inl (upd fb (nI n).toNatClampNeg b))), (ks, .inl (c3, 24, .inl (upd fk (nI n).toNatClampNeg y)))]) [0, 1, 2, 3] rfl
    have hD9 := hD.sub (ws' := [(od, .inr (2, [.ref ts, .ref bs, .ref ks, .int (nI (n + 1))])), (ts, .inl (c1, 24, .inl (upd ft (nI n).toNatClampNeg x))), (bs, .inl (c2, 24, .inl (upd fb (nI n).toNatClampNeg b))), (ks, .inl (c3, 24, .inl (upd fk (nI n).toNatClampNeg y)))]) [0, 1, 2, 3] (by decide) rfl
    have hK9 := hK.sub (tys' := []) [] rfl
    refine W.widen (k := 0) (n := 0) (by omega) (by omega) ?_
    exact W.vret hx hb hr (fun t ht hW => ⟨⟨(n + 1, upd ft (nI n).toNatClampNeg x, upd fb (nI n).toNatClampNeg b, upd fk (nI n).toNatClampNeg y), rfl, ⟨(show n ≤ n + 1 by omega), (show n + 1 ≤ 24 by omega), fun i => s_upd h1 h3 i, fun i => s_upd h2 h4 i⟩, by rw [ht]; exact hP9, va_K.moved hW.alike hK9, hD9⟩, hS.F ht⟩) hS.2.2 dX3_add_50
  · have c_1 : ¬ (n < 24) := fun q_ => c_1 ((nI_ltI (a := n) (b := 24) (by omega) (by omega)).mpr q_)
    have hP9 := hP.sub (ws' := [(od, .inr (2, [.ref ts, .ref bs, .ref ks, .int (nI n)])), (ts, .inl (c1, 24, .inl ft)), (bs, .inl (c2, 24, .inl fb)), (ks, .inl (c3, 24, .inl fk))]) [0, 1, 2, 3] rfl
    have hD9 := hD.sub (ws' := [(od, .inr (2, [.ref ts, .ref bs, .ref ks, .int (nI n)])), (ts, .inl (c1, 24, .inl ft)), (bs, .inl (c2, 24, .inl fb)), (ks, .inl (c3, 24, .inl fk))]) [0, 1, 2, 3] (by decide) rfl
    have hK9 := hK.sub (tys' := []) [] rfl
    refine W.widen (k := 0) (n := 0) (by omega) (by omega) ?_
    exact W.vret hx hb hr (fun t ht hW => ⟨⟨(n, ft, fb, fk), rfl, ⟨(show n ≤ n by omega), (show n ≤ 24 by omega), h1, h2⟩, by rw [ht]; exact hP9, va_K.moved hW.alike hK9, hD9⟩, hS.F ht⟩) hS.2.2 dX3_add_9
set_option maxHeartbeats 4000000 in
set_option maxRecDepth 100000 in
theorem s_remove (l : Launch) (dC : Nat → ClassId) (dI : Nat → Nat → Nat) (sz : Nat) (od ts bs ks : Nat) (c1 c2 c3 : ClassId) (ft fb fk : Nat → Int32) (n : Nat) (k : Nat) (hn : n ≤ 24) (h1 : ∀ i, sB (fb i)) (h2 : ∀ i, sK (fk i)) (hk0 : k < n) : Met l yX3_remove wsX3_remove ({ frames := 0, cells := 0, slots := 0, locals := 0 }) (va_Pc [.ref od, .int (nI k)] (pt_BQ (dC, dI) [(od, .inr (2, [.ref ts, .ref bs, .ref ks, .int (nI n)])), (ts, .inl (c1, 24, .inl ft)), (bs, .inl (c2, 24, .inl fb)), (ks, .inl (c3, 24, .inl fk))] [(c1, .int), (c2, .int), (c3, .int)] sz)) (va_Qv (fun (u : Nat × (Nat → Int32) × (Nat → Int32) × (Nat → Int32)) => u.1 = n - 1 ∧ (∀ i, sB (u.2.2.1 i)) ∧ (∀ i, sK (u.2.2.2 i))) (fun u t => pt_at (dC, dI) (va_A [(od, .inr (2, [.ref ts, .ref bs, .ref ks, .int (nI n)])), (ts, .inl (c1, 24, .inl ft)), (bs, .inl (c2, 24, .inl fb)), (ks, .inl (c3, 24, .inl fk))] sz) [(od, .inr (2, [.ref ts, .ref bs, .ref ks, .int (nI u.1)])), (ts, .inl (c1, 24, .inl u.2.1)), (bs, .inl (c2, 24, .inl u.2.2.1)), (ks, .inl (c3, 24, .inl u.2.2.2))] [] t) (va_A [(od, .inr (2, [.ref ts, .ref bs, .ref ks, .int (nI n)])), (ts, .inl (c1, 24, .inl ft)), (bs, .inl (c2, 24, .inl fb)), (ks, .inl (c3, 24, .inl fk))] sz)) 0 0 (va_A [(od, .inr (2, [.ref ts, .ref bs, .ref ks, .int (nI n)])), (ts, .inl (c1, 24, .inl ft)), (bs, .inl (c2, 24, .inl fb)), (ks, .inl (c3, 24, .inl fk))] sz) := by
  refine Met.ofW (cc := cX3_remove) (maxL := 3) (ret := none) (by decide) rfl ?_
  intro p e s m args below meth c s₁ B hml hv
  obtain ⟨rfl, hsz, hP, hK, hD0, hN⟩ := hv
  have hx := B.exec
  have hb := B.bytes
  have hr := B.returns
  have hts := atoms_spec (ws := wsX3_remove) B.pre
  have hown : s.vm.findClass RX3 = some m.cls := findClass_of_methodNamed B.named
  have hlocks := B.notSynchronized
  have iX3 : ∀ w ∈ wsX30, w ∈ wsX3_remove := by decide +kernel
  subst hsz
  have hD := hD0.self (sz := s.heap.size)
  generalize hAe : va_A [(od, .inr (2, [.ref ts, .ref bs, .ref ks, .int (nI n)])), (ts, .inl (c1, 24, .inl ft)), (bs, .inl (c2, 24, .inl fb)), (ks, .inl (c3, 24, .inl fk))] s.heap.size = A at hD ⊢
  have hA : ∀ q : Nat, s.heap.size ≤ q → A q := fun q h => by rw [← hAe]; exact Or.inr h
  have hS : va_S A s.heap s.heap [] := va_S.rf
  have hP : va_P (dC, dI) vwCl [(od, .inr (2, [.ref ts, .ref bs, .ref ks, .int (nI n)])), (ts, .inl (c1, 24, .inl ft)), (bs, .inl (c2, 24, .inl fb)), (ks, .inl (c3, 24, .inl fk))] s.heap := hP
  have hK : va_K (dC, dI) vwCl [(c1, .int), (c2, .int), (c3, .int)] s := hK
  have hl := lv_entry ([.ref od, .int (nI k)]) (n := 3) (Nat.le_of_ble_eq_true rfl)
  rw [lg_entry_eq]
  generalize (lg_sl ([.ref od, .int (nI k)]) ++ List.replicate (3 - (lg_sl ([.ref od, .int (nI k)])).length) Slot.unset).toArray = ls at hl ⊢
  have hl : lv_has ls 3 [(0, .ref od), (1, .int (nI k))] := hl
  refine lv_aload_n hx hb dX3_remove_0 rfl (lv_at hl 0 rfl) ?_
  refine lv_dup hx hb dX3_remove_1 rfl ?_
  refine va_get (D := (dC, dI)) (ci := 2) (v := .int (nI n)) (C := RX3) (T := TX3) (N := 4) hx hb hts iX3 hown hK hP 0 rfl rfl 3 (by decide) (hts (.fieldLink RX3 21 "ParkTower$Orders" "count" "I") (by decide +kernel)) (fun _ h9 => h9) rfl dX3_remove_2 ?_
  refine lv_iconst (v := 1) hx hb dX3_remove_5 (by decide) ?_
  refine lv_isub hx hb dX3_remove_6 ?_
  refine pt_topi (nI (n - 1)) (pk_sub (a := n) (b := 1) (by omega)) ?_
  refine va_put (D := (dC, dI)) (ci := 2) (v := .int (nI (n - 1))) (ty := .int) (C := RX3) (T := TX3) (N := 4) hx hb hts iX3 tyX3 tyX3_ok nmX3 hown hK hP hD hS 0 rfl rfl 3 (by decide) (hts (.fieldLink RX3 21 "ParkTower$Orders" "count" "I") (by decide +kernel)) (fun _ h9 => h9) rfl (by decide +kernel) rfl rfl (Nat.le_of_ble_eq_true rfl) dX3_remove_7 (fun H locs hP hD hS => ?_)
  have hP : va_P (dC, dI) vwCl [(od, .inr (2, [.ref ts, .ref bs, .ref ks, .int (nI (n - 1))])), (ts, .inl (c1, 24, .inl ft)), (bs, .inl (c2, 24, .inl fb)), (ks, .inl (c3, 24, .inl fk))] H := hP
  have hD : va_D A [(od, .inr (2, [.ref ts, .ref bs, .ref ks, .int (nI (n - 1))])), (ts, .inl (c1, 24, .inl ft)), (bs, .inl (c2, 24, .inl fb)), (ks, .inl (c3, 24, .inl fk))] := hD
  refine lv_iload_n hx hb dX3_remove_10 rfl (lv_at hl 1 rfl) ?_
  refine lv_istore_n (lv' := [(2, .int (nI k)), (0, .ref od), (1, .int (nI k))]) hx hb dX3_remove_11 rfl hl (by decide) rfl (fun ls hl => ?_)
  refine pt_loopH (n - 1 - k) (fun m H locs ls => ∃ (gt gb gk : Nat → Int32), lv_has ls 3 [(2, .int (nI (k + m))), (0, .ref od), (1, .int (nI k))] ∧ (∀ i, sB (gb i)) ∧ (∀ i, sK (gk i)) ∧ va_P (dC, dI) vwCl [(od, .inr (2, [.ref ts, .ref bs, .ref ks, .int (nI (n - 1))])), (ts, .inl (c1, 24, .inl gt)), (bs, .inl (c2, 24, .inl gb)), (ks, .inl (c3, 24, .inl gk))] H ∧ va_D A [(od, .inr (2, [.ref ts, .ref bs, .ref ks, .int (nI (n - 1))])), (ts, .inl (c1, 24, .inl gt)), (bs, .inl (c2, 24, .inl gb)), (ks, .inl (c3, 24, .inl gk))] ∧ va_S A s.heap H locs) (fun H locs ls hI => ?_) (fun m H locs ls hk hI ih => ?_) ⟨ft, fb, fk, lv_sub hl [0, 1, 2] rfl, h1, h2, hP.sub [0, 1, 2, 3] rfl, hD.sub [0, 1, 2, 3] (by decide) rfl, hS⟩
  · obtain ⟨gt, gb, gk, hl, g1, g2, hP, hD, hS⟩ := hI
    have hl : lv_has ls 3 [(2, .int (nI (k + (n - 1 - k)))), (0, .ref od), (1, .int (nI k))] := hl
    have hP : va_P (dC, dI) vwCl [(od, .inr (2, [.ref ts, .ref bs, .ref ks, .int (nI (n - 1))])), (ts, .inl (c1, 24, .inl gt)), (bs, .inl (c2, 24, .inl gb)), (ks, .inl (c3, 24, .inl gk))] H := hP
    have hD : va_D A [(od, .inr (2, [.ref ts, .ref bs, .ref ks, .int (nI (n - 1))])), (ts, .inl (c1, 24, .inl gt)), (bs, .inl (c2, 24, .inl gb)), (ks, .inl (c3, 24, .inl gk))] := hD
    have g1 : (∀ i, sB (gb i)) := g1
    have g2 : (∀ i, sK (gk i)) := g2
    refine lv_iload_n hx hb dX3_remove_12 rfl (lv_at hl 0 rfl) ?_
    refine lv_aload_n hx hb dX3_remove_13 rfl (lv_at hl 1 rfl) ?_
    refine va_get (D := (dC, dI)) (ci := 2) (v := .int (nI (n - 1))) (C := RX3) (T := TX3) (N := 4) hx hb hts iX3 hown hK hP 0 rfl rfl 3 (by decide) (hts (.fieldLink RX3 21 "ParkTower$Orders" "count" "I") (by decide +kernel)) (fun _ h9 => h9) rfl dX3_remove_14 ?_
    refine lv_icmp_ge (tgt := 68) hx hb dX3_remove_17 (by decide) (fun c_1 => ?_) (fun c_1 => ?_)
    · have c_1 : n - 1 ≤ k + (n - 1 - k) := (nI_leI (a := n - 1) (b := k + (n - 1 - k)) (by omega) (by omega)).mp c_1
      have hP9 := hP.sub (ws' := [(od, .inr (2, [.ref ts, .ref bs, .ref ks, .int (nI (n - 1))])), (ts, .inl (c1, 24, .inl gt)), (bs, .inl (c2, 24, .inl gb)), (ks, .inl (c3, 24, .inl gk))]) [0, 1, 2, 3] rfl
      have hD9 := hD.sub (ws' := [(od, .inr (2, [.ref ts, .ref bs, .ref ks, .int (nI (n - 1))])), (ts, .inl (c1, 24, .inl gt)), (bs, .inl (c2, 24, .inl gb)), (ks, .inl (c3, 24, .inl gk))]) [0, 1, 2, 3] (by decide) rfl
      have hK9 := hK.sub (tys' := []) [] rfl
      refine W.widen (k := 0) (n := 0) (by omega) (by omega) ?_
      exact W.vret hx hb hr (fun t ht hW => ⟨⟨(n - 1, gt, gb, gk), rfl, ⟨rfl, g1, g2⟩, by rw [ht]; exact hP9, va_K.moved hW.alike hK9, hD9⟩, hS.F ht⟩) hS.2.2 dX3_remove_68
    · have c_1 : ¬ (n - 1 ≤ k + (n - 1 - k)) := fun q_ => c_1 ((nI_leI (a := n - 1) (b := k + (n - 1 - k)) (by omega) (by omega)).mpr q_)
      exact (by omega : False).elim
  · obtain ⟨gt, gb, gk, hl, g1, g2, hP, hD, hS⟩ := hI
    have hl : lv_has ls 3 [(2, .int (nI (k + m))), (0, .ref od), (1, .int (nI k))] := hl
    have hP : va_P (dC, dI) vwCl [(od, .inr (2, [.ref ts, .ref bs, .ref ks, .int (nI (n - 1))])), (ts, .inl (c1, 24, .inl gt)), (bs, .inl (c2, 24, .inl gb)), (ks, .inl (c3, 24, .inl gk))] H := hP
    have hD : va_D A [(od, .inr (2, [.ref ts, .ref bs, .ref ks, .int (nI (n - 1))])), (ts, .inl (c1, 24, .inl gt)), (bs, .inl (c2, 24, .inl gb)), (ks, .inl (c3, 24, .inl gk))] := hD
    have g1 : (∀ i, sB (gb i)) := g1
    have g2 : (∀ i, sK (gk i)) := g2
    refine lv_iload_n hx hb dX3_remove_12 rfl (lv_at hl 0 rfl) ?_
    refine lv_aload_n hx hb dX3_remove_13 rfl (lv_at hl 1 rfl) ?_
    refine va_get (D := (dC, dI)) (ci := 2) (v := .int (nI (n - 1))) (C := RX3) (T := TX3) (N := 4) hx hb hts iX3 hown hK hP 0 rfl rfl 3 (by decide) (hts (.fieldLink RX3 21 "ParkTower$Orders" "count" "I") (by decide +kernel)) (fun _ h9 => h9) rfl dX3_remove_14 ?_
    refine lv_icmp_ge (tgt := 68) hx hb dX3_remove_17 (by decide) (fun c_2 => ?_) (fun c_2 => ?_)
    · have c_2 : n - 1 ≤ k + m := (nI_leI (a := n - 1) (b := k + m) (by omega) (by omega)).mp c_2
      have hP9 := hP.sub (ws' := [(od, .inr (2, [.ref ts, .ref bs, .ref ks, .int (nI (n - 1))])), (ts, .inl (c1, 24, .inl gt)), (bs, .inl (c2, 24, .inl gb)), (ks, .inl (c3, 24, .inl gk))]) [0, 1, 2, 3] rfl
      have hD9 := hD.sub (ws' := [(od, .inr (2, [.ref ts, .ref bs, .ref ks, .int (nI (n - 1))])), (ts, .inl (c1, 24, .inl gt)), (bs, .inl (c2, 24, .inl gb)), (ks, .inl (c3, 24, .inl gk))]) [0, 1, 2, 3] (by decide) rfl
      have hK9 := hK.sub (tys' := []) [] rfl
      refine W.widen (k := 0) (n := 0) (by omega) (by omega) ?_
      exact W.vret hx hb hr (fun t ht hW => ⟨⟨(n - 1, gt, gb, gk), rfl, ⟨rfl, g1, g2⟩, by rw [ht]; exact hP9, va_K.moved hW.alike hK9, hD9⟩, hS.F ht⟩) hS.2.2 dX3_remove_68
    · have c_2 : ¬ (n - 1 ≤ k + m) := fun q_ => c_2 ((nI_leI (a := n - 1) (b := k + m) (by omega) (by omega)).mpr q_)
      refine lv_aload_n hx hb dX3_remove_20 rfl (lv_at hl 1 rfl) ?_
      refine va_get (D := (dC, dI)) (ci := 2) (v := .ref ts) (C := RX3) (T := TX3) (N := 4) hx hb hts iX3 hown hK hP 0 rfl rfl 0 (by decide) (hts (.fieldLink RX3 9 "ParkTower$Orders" "tickets" "[I") (by decide +kernel)) (fun _ h9 => h9) rfl dX3_remove_21 ?_
      refine lv_iload_n hx hb dX3_remove_24 rfl (lv_at hl 0 rfl) ?_
      refine lv_aload_n hx hb dX3_remove_25 rfl (lv_at hl 1 rfl) ?_
      refine va_get (D := (dC, dI)) (ci := 2) (v := .ref ts) (C := RX3) (T := TX3) (N := 4) hx hb hts iX3 hown hK hP 0 rfl rfl 0 (by decide) (hts (.fieldLink RX3 9 "ParkTower$Orders" "tickets" "[I") (by decide +kernel)) (fun _ h9 => h9) rfl dX3_remove_26 ?_
      refine lv_iload_n hx hb dX3_remove_29 rfl (lv_at hl 0 rfl) ?_
      refine lv_iconst (v := 1) hx hb dX3_remove_30 (by decide) ?_
      refine lv_iadd hx hb dX3_remove_31 ?_
      refine pt_topi (nI (k + m + 1)) (nI_add (k + m) 1) ?_
      refine va_iald hx hb hK hP 1 0 rfl rfl (vp_in_nI (n := k + m + 1) (by omega) (by decide)) dX3_remove_32 ?_
      refine lv_topi (fun a_3 ea_3 => ?_)
      refine va_iast hx hb hK hP hD hS 1 0 rfl rfl (vp_in_nI (n := k + m) (by omega) (by decide)) dX3_remove_33 (fun H locs hP hD hS => ?_)
      have hP : va_P (dC, dI) vwCl [(od, .inr (2, [.ref ts, .ref bs, .ref ks, .int (nI (n - 1))])), (ts, .inl (c1, 24, .inl (upd gt (nI (k + m)).toNatClampNeg a_3))), (bs, .inl (c2, 24, .inl gb)), (ks, .inl (c3, 24, .inl gk))] H := hP
      have hD : va_D A [(od, .inr (2, [.ref ts, .ref bs, .ref ks, .int (nI (n - 1))])), (ts, .inl (c1, 24, .inl (upd gt (nI (k + m)).toNatClampNeg a_3))), (bs, .inl (c2, 24, .inl gb)), (ks, .inl (c3, 24, .inl gk))] := hD
      refine lv_aload_n hx hb dX3_remove_34 rfl (lv_at hl 1 rfl) ?_
      refine va_get (D := (dC, dI)) (ci := 2) (v := .ref bs) (C := RX3) (T := TX3) (N := 4) hx hb hts iX3 hown hK hP 0 rfl rfl 1 (by decide) (hts (.fieldLink RX3 15 "ParkTower$Orders" "bays" "[I") (by decide +kernel)) (fun _ h9 => h9) rfl dX3_remove_35 ?_
      refine lv_iload_n hx hb dX3_remove_38 rfl (lv_at hl 0 rfl) ?_
      refine lv_aload_n hx hb dX3_remove_39 rfl (lv_at hl 1 rfl) ?_
      refine va_get (D := (dC, dI)) (ci := 2) (v := .ref bs) (C := RX3) (T := TX3) (N := 4) hx hb hts iX3 hown hK hP 0 rfl rfl 1 (by decide) (hts (.fieldLink RX3 15 "ParkTower$Orders" "bays" "[I") (by decide +kernel)) (fun _ h9 => h9) rfl dX3_remove_40 ?_
      refine lv_iload_n hx hb dX3_remove_43 rfl (lv_at hl 0 rfl) ?_
      refine lv_iconst (v := 1) hx hb dX3_remove_44 (by decide) ?_
      refine lv_iadd hx hb dX3_remove_45 ?_
      refine pt_topi (nI (k + m + 1)) (nI_add (k + m) 1) ?_
      refine va_iald hx hb hK hP 2 1 rfl rfl (vp_in_nI (n := k + m + 1) (by omega) (by decide)) dX3_remove_46 ?_
      refine lv_topi (fun a_4 ea_4 => ?_)
      refine va_iast hx hb hK hP hD hS 2 1 rfl rfl (vp_in_nI (n := k + m) (by omega) (by decide)) dX3_remove_47 (fun H locs hP hD hS => ?_)
      have hP : va_P (dC, dI) vwCl [(od, .inr (2, [.ref ts, .ref bs, .ref ks, .int (nI (n - 1))])), (ts, .inl (c1, 24, .inl (upd gt (nI (k + m)).toNatClampNeg a_3))), (bs, .inl (c2, 24, .inl (upd gb (nI (k + m)).toNatClampNeg a_4))), (ks, .inl (c3, 24, .inl gk))] H := hP
      have hD : va_D A [(od, .inr (2, [.ref ts, .ref bs, .ref ks, .int (nI (n - 1))])), (ts, .inl (c1, 24, .inl (upd gt (nI (k + m)).toNatClampNeg a_3))), (bs, .inl (c2, 24, .inl (upd gb (nI (k + m)).toNatClampNeg a_4))), (ks, .inl (c3, 24, .inl gk))] := hD
      refine lv_aload_n hx hb dX3_remove_48 rfl (lv_at hl 1 rfl) ?_
      refine va_get (D := (dC, dI)) (ci := 2) (v := .ref ks) (C := RX3) (T := TX3) (N := 4) hx hb hts iX3 hown hK hP 0 rfl rfl 2 (by decide) (hts (.fieldLink RX3 18 "ParkTower$Orders" "keptCells" "[I") (by decide +kernel)) (fun _ h9 => h9) rfl dX3_remove_49 ?_
      refine lv_iload_n hx hb dX3_remove_52 rfl (lv_at hl 0 rfl) ?_
      refine lv_aload_n hx hb dX3_remove_53 rfl (lv_at hl 1 rfl) ?_
      refine va_get (D := (dC, dI)) (ci := 2) (v := .ref ks) (C := RX3) (T := TX3) (N := 4) hx hb hts iX3 hown hK hP 0 rfl rfl 2 (by decide) (hts (.fieldLink RX3 18 "ParkTower$Orders" "keptCells" "[I") (by decide +kernel)) (fun _ h9 => h9) rfl dX3_remove_54 ?_
      refine lv_iload_n hx hb dX3_remove_57 rfl (lv_at hl 0 rfl) ?_
      refine lv_iconst (v := 1) hx hb dX3_remove_58 (by decide) ?_
      refine lv_iadd hx hb dX3_remove_59 ?_
      refine pt_topi (nI (k + m + 1)) (nI_add (k + m) 1) ?_
      refine va_iald hx hb hK hP 3 2 rfl rfl (vp_in_nI (n := k + m + 1) (by omega) (by decide)) dX3_remove_60 ?_
      refine lv_topi (fun a_5 ea_5 => ?_)
      refine va_iast hx hb hK hP hD hS 3 2 rfl rfl (vp_in_nI (n := k + m) (by omega) (by decide)) dX3_remove_61 (fun H locs hP hD hS => ?_)
      have hP : va_P (dC, dI) vwCl [(od, .inr (2, [.ref ts, .ref bs, .ref ks, .int (nI (n - 1))])), (ts, .inl (c1, 24, .inl (upd gt (nI (k + m)).toNatClampNeg a_3))), (bs, .inl (c2, 24, .inl (upd gb (nI (k + m)).toNatClampNeg a_4))), (ks, .inl (c3, 24, .inl (upd gk (nI (k + m)).toNatClampNeg a_5)))] H := hP
      have hD : va_D A [(od, .inr (2, [.ref ts, .ref bs, .ref ks, .int (nI (n - 1))])), (ts, .inl (c1, 24, .inl (upd gt (nI (k + m)).toNatClampNeg a_3))), (bs, .inl (c2, 24, .inl (upd gb (nI (k + m)).toNatClampNeg a_4))), (ks, .inl (c3, 24, .inl (upd gk (nI (k + m)).toNatClampNeg a_5)))] := hD
      refine lv_iinc (v := nI (k + m + 1)) (lv' := [(2, .int (nI (k + m + 1))), (0, .ref od), (1, .int (nI k))]) hx hb dX3_remove_62 hl (k := 0) rfl (nI_add (k + m) 1) (by decide) rfl (fun ls hl => ?_)
      refine lv_goto (tgt := 12) hx hb dX3_remove_65 (by decide) ?_
      exact ih H locs ls ⟨upd gt (nI (k + m)).toNatClampNeg a_3, upd gb (nI (k + m)).toNatClampNeg a_4, upd gk (nI (k + m)).toNatClampNeg a_5, lv_sub hl [0, 1, 2] rfl, fun i => s_upd g1 (by rw [ea_4]; exact g1 _) i, fun i => s_upd g2 (by rw [ea_5]; exact g2 _) i, hP.sub [0, 1, 2, 3] rfl, hD.sub [0, 1, 2, 3] (by decide) rfl, hS⟩
set_option maxHeartbeats 4000000 in
set_option maxRecDepth 100000 in
theorem s_isFetch (l : Launch) (dC : Nat → ClassId) (dI : Nat → Nat → Nat) (od ts bs ks : Nat) (c1 c2 c3 : ClassId) (ft fb fk : Nat → Int32) (n : Nat) (k : Nat) (hk0 : k < 24) : Met l yX3_isFetch wsX3_isFetch ({ frames := 0, cells := 0, slots := 0, locals := 0 }) (va_Pc [.ref od, .int (nI k)] (pt_B (dC, dI) [(od, .inr (2, [.ref ts, .ref bs, .ref ks, .int (nI n)])), (ts, .inl (c1, 24, .inl ft)), (bs, .inl (c2, 24, .inl fb)), (ks, .inl (c3, 24, .inl fk))] [(c1, .int), (c2, .int), (c3, .int)])) (vp_Si (fun r : Int32 => r = 0 ∨ r = 1)) 0 0 (fun _ => False) := by
  refine Met.ofW (cc := cX3_isFetch) (maxL := 2) (ret := (some .boolean)) (by decide) rfl ?_
  intro p e s m args below meth c s₁ B hml hv
  obtain ⟨rfl, hP, hK, hN⟩ := hv
  have hx := B.exec
  have hb := B.bytes
  have hr := B.returns
  have hts := atoms_spec (ws := wsX3_isFetch) B.pre
  have hown : s.vm.findClass RX3 = some m.cls := findClass_of_methodNamed B.named
  have hlocks := B.notSynchronized
  have iX3 : ∀ w ∈ wsX30, w ∈ wsX3_isFetch := by decide +kernel
  have hP : va_P (dC, dI) vwCl [(od, .inr (2, [.ref ts, .ref bs, .ref ks, .int (nI n)])), (ts, .inl (c1, 24, .inl ft)), (bs, .inl (c2, 24, .inl fb)), (ks, .inl (c3, 24, .inl fk))] s.heap := hP
  have hK : va_K (dC, dI) vwCl [(c1, .int), (c2, .int), (c3, .int)] s := hK
  have hl := lv_entry ([.ref od, .int (nI k)]) (n := 2) (Nat.le_of_ble_eq_true rfl)
  rw [lg_entry_eq]
  generalize (lg_sl ([.ref od, .int (nI k)]) ++ List.replicate (2 - (lg_sl ([.ref od, .int (nI k)])).length) Slot.unset).toArray = ls at hl ⊢
  have hl : lv_has ls 2 [(0, .ref od), (1, .int (nI k))] := hl
  refine lv_aload_n hx hb dX3_isFetch_0 rfl (lv_at hl 0 rfl) ?_
  refine va_get (D := (dC, dI)) (ci := 2) (v := .ref ks) (C := RX3) (T := TX3) (N := 4) hx hb hts iX3 hown hK hP 0 rfl rfl 2 (by decide) (hts (.fieldLink RX3 18 "ParkTower$Orders" "keptCells" "[I") (by decide +kernel)) (fun _ h9 => h9) rfl dX3_isFetch_1 ?_
  refine lv_iload_n hx hb dX3_isFetch_4 rfl (lv_at hl 1 rfl) ?_
  refine va_iald hx hb hK hP 3 2 rfl rfl (vp_in_nI (n := k) (by omega) (by decide)) dX3_isFetch_5 ?_
  refine lv_topi (fun a_1 ea_1 => ?_)
  refine lv_iconst (v := (-1)) hx hb dX3_isFetch_6 (by decide) ?_
  refine lv_icmp_ne (tgt := 14) hx hb dX3_isFetch_7 (by decide) (fun c_2 => ?_) (fun c_2 => ?_)
  · have c_2 : ¬ (a_1 = (-1)) := c_2
    refine lv_iconst (v := 0) hx hb dX3_isFetch_14 (by decide) ?_
    exact W.zret (v := 0) (ty := .boolean) hx hb hr rfl (fun t ht hW => ⟨0, rfl, Or.inl rfl, ht⟩) (fun q h => by cases h) dX3_isFetch_15
  · have c_2 : (a_1 = (-1)) := c_2
    refine lv_iconst (v := 1) hx hb dX3_isFetch_10 (by decide) ?_
    refine lv_goto (tgt := 15) hx hb dX3_isFetch_11 (by decide) ?_
    exact W.zret (v := 1) (ty := .boolean) hx hb hr rfl (fun t ht hW => ⟨1, rfl, Or.inr rfl, ht⟩) (fun q h => by cases h) dX3_isFetch_15
set_option maxHeartbeats 4000000 in
set_option maxRecDepth 100000 in
theorem s_hasOneOf (l : Launch) (dC : Nat → ClassId) (dI : Nat → Nat → Nat) (od ts bs ks : Nat) (c1 c2 c3 : ClassId) (ft fb fk : Nat → Int32) (n : Nat) (x : Int32) (hn : n ≤ 24) : Met l yX3_hasOneOf wsX3_hasOneOf ({ frames := 0, cells := 0, slots := 0, locals := 0 }) (va_Pc [.ref od, .int x] (pt_B (dC, dI) [(od, .inr (2, [.ref ts, .ref bs, .ref ks, .int (nI n)])), (ts, .inl (c1, 24, .inl ft)), (bs, .inl (c2, 24, .inl fb)), (ks, .inl (c3, 24, .inl fk))] [(c1, .int), (c2, .int), (c3, .int)])) (vp_Si (fun r : Int32 => r = 0 ∨ r = 1)) 0 0 (fun _ => False) := by
  refine Met.ofW (cc := cX3_hasOneOf) (maxL := 3) (ret := (some .boolean)) (by decide) rfl ?_
  intro p e s m args below meth c s₁ B hml hv
  obtain ⟨rfl, hP, hK, hN⟩ := hv
  have hx := B.exec
  have hb := B.bytes
  have hr := B.returns
  have hts := atoms_spec (ws := wsX3_hasOneOf) B.pre
  have hown : s.vm.findClass RX3 = some m.cls := findClass_of_methodNamed B.named
  have hlocks := B.notSynchronized
  have iX3 : ∀ w ∈ wsX30, w ∈ wsX3_hasOneOf := by decide +kernel
  have hP : va_P (dC, dI) vwCl [(od, .inr (2, [.ref ts, .ref bs, .ref ks, .int (nI n)])), (ts, .inl (c1, 24, .inl ft)), (bs, .inl (c2, 24, .inl fb)), (ks, .inl (c3, 24, .inl fk))] s.heap := hP
  have hK : va_K (dC, dI) vwCl [(c1, .int), (c2, .int), (c3, .int)] s := hK
  have hl := lv_entry ([.ref od, .int x]) (n := 3) (Nat.le_of_ble_eq_true rfl)
  rw [lg_entry_eq]
  generalize (lg_sl ([.ref od, .int x]) ++ List.replicate (3 - (lg_sl ([.ref od, .int x])).length) Slot.unset).toArray = ls at hl ⊢
  have hl : lv_has ls 3 [(0, .ref od), (1, .int x)] := hl
  refine lv_iconst (v := 0) hx hb dX3_hasOneOf_0 (by decide) ?_
  refine lv_istore_n (lv' := [(2, .int 0), (0, .ref od), (1, .int x)]) hx hb dX3_hasOneOf_1 rfl hl (by decide) rfl (fun ls hl => ?_)
  refine pt_loop n (fun k ls => lv_has ls 3 [(2, .int (nI k)), (0, .ref od), (1, .int x)]) (fun ls hI => ?_) (fun k ls hk hI ih => ?_) (lv_sub hl [0, 1, 2] rfl)
  · have hl := hI
    have hl : lv_has ls 3 [(2, .int (nI n)), (0, .ref od), (1, .int x)] := hl
    refine lv_iload_n hx hb dX3_hasOneOf_2 rfl (lv_at hl 0 rfl) ?_
    refine lv_aload_n hx hb dX3_hasOneOf_3 rfl (lv_at hl 1 rfl) ?_
    refine va_get (D := (dC, dI)) (ci := 2) (v := .int (nI n)) (C := RX3) (T := TX3) (N := 4) hx hb hts iX3 hown hK hP 0 rfl rfl 3 (by decide) (hts (.fieldLink RX3 21 "ParkTower$Orders" "count" "I") (by decide +kernel)) (fun _ h9 => h9) rfl dX3_hasOneOf_4 ?_
    refine lv_icmp_ge (tgt := 28) hx hb dX3_hasOneOf_7 (by decide) (fun c_1 => ?_) (fun c_1 => ?_)
    · have c_1 : n ≤ n := (nI_leI (a := n) (b := n) (by omega) (by omega)).mp c_1
      refine lv_iconst (v := 0) hx hb dX3_hasOneOf_28 (by decide) ?_
      exact W.zret (v := 0) (ty := .boolean) hx hb hr rfl (fun t ht hW => ⟨0, rfl, Or.inl rfl, ht⟩) (fun q h => by cases h) dX3_hasOneOf_29
    · have c_1 : ¬ (n ≤ n) := fun q_ => c_1 ((nI_leI (a := n) (b := n) (by omega) (by omega)).mpr q_)
      exact (by omega : False).elim
  · have hl := hI
    have hl : lv_has ls 3 [(2, .int (nI k)), (0, .ref od), (1, .int x)] := hl
    refine lv_iload_n hx hb dX3_hasOneOf_2 rfl (lv_at hl 0 rfl) ?_
    refine lv_aload_n hx hb dX3_hasOneOf_3 rfl (lv_at hl 1 rfl) ?_
    refine va_get (D := (dC, dI)) (ci := 2) (v := .int (nI n)) (C := RX3) (T := TX3) (N := 4) hx hb hts iX3 hown hK hP 0 rfl rfl 3 (by decide) (hts (.fieldLink RX3 21 "ParkTower$Orders" "count" "I") (by decide +kernel)) (fun _ h9 => h9) rfl dX3_hasOneOf_4 ?_
    refine lv_icmp_ge (tgt := 28) hx hb dX3_hasOneOf_7 (by decide) (fun c_2 => ?_) (fun c_2 => ?_)
    · have c_2 : n ≤ k := (nI_leI (a := n) (b := k) (by omega) (by omega)).mp c_2
      refine lv_iconst (v := 0) hx hb dX3_hasOneOf_28 (by decide) ?_
      exact W.zret (v := 0) (ty := .boolean) hx hb hr rfl (fun t ht hW => ⟨0, rfl, Or.inl rfl, ht⟩) (fun q h => by cases h) dX3_hasOneOf_29
    · have c_2 : ¬ (n ≤ k) := fun q_ => c_2 ((nI_leI (a := n) (b := k) (by omega) (by omega)).mpr q_)
      refine lv_aload_n hx hb dX3_hasOneOf_10 rfl (lv_at hl 1 rfl) ?_
      refine va_get (D := (dC, dI)) (ci := 2) (v := .ref ts) (C := RX3) (T := TX3) (N := 4) hx hb hts iX3 hown hK hP 0 rfl rfl 0 (by decide) (hts (.fieldLink RX3 9 "ParkTower$Orders" "tickets" "[I") (by decide +kernel)) (fun _ h9 => h9) rfl dX3_hasOneOf_11 ?_
      refine lv_iload_n hx hb dX3_hasOneOf_14 rfl (lv_at hl 0 rfl) ?_
      refine va_iald hx hb hK hP 1 0 rfl rfl (vp_in_nI (n := k) (by omega) (by decide)) dX3_hasOneOf_15 ?_
      refine lv_topi (fun a_3 ea_3 => ?_)
      refine lv_iload_n hx hb dX3_hasOneOf_16 rfl (lv_at hl 2 rfl) ?_
      refine lv_icmp_ne (tgt := 22) hx hb dX3_hasOneOf_17 (by decide) (fun c_4 => ?_) (fun c_4 => ?_)
      · have c_4 : ¬ (a_3 = x) := c_4
        refine lv_iinc (v := nI (k + 1)) (lv' := [(2, .int (nI (k + 1))), (0, .ref od), (1, .int x)]) hx hb dX3_hasOneOf_22 hl (k := 0) rfl (nI_add k 1) (by decide) rfl (fun ls hl => ?_)
        refine lv_goto (tgt := 2) hx hb dX3_hasOneOf_25 (by decide) ?_
        exact ih ls (lv_sub hl [0, 1, 2] rfl)
      · have c_4 : (a_3 = x) := c_4
        refine lv_iconst (v := 1) hx hb dX3_hasOneOf_20 (by decide) ?_
        exact W.zret (v := 1) (ty := .boolean) hx hb hr rfl (fun t ht hW => ⟨1, rfl, Or.inr rfl, ht⟩) (fun q h => by cases h) dX3_hasOneOf_21
set_option maxHeartbeats 4000000 in
set_option maxRecDepth 100000 in
theorem s_countFor (l : Launch) (dC : Nat → ClassId) (dI : Nat → Nat → Nat) (od ts bs ks : Nat) (c1 c2 c3 : ClassId) (ft fb fk : Nat → Int32) (n : Nat) (x : Int32) (hn : n ≤ 24) : Met l yX3_countFor wsX3_countFor ({ frames := 0, cells := 0, slots := 0, locals := 0 }) (va_Pc [.ref od, .int x] (pt_B (dC, dI) [(od, .inr (2, [.ref ts, .ref bs, .ref ks, .int (nI n)])), (ts, .inl (c1, 24, .inl ft)), (bs, .inl (c2, 24, .inl fb)), (ks, .inl (c3, 24, .inl fk))] [(c1, .int), (c2, .int), (c3, .int)])) (vp_Si (fun r : Int32 => True)) 0 0 (fun _ => False) := by
  refine Met.ofW (cc := cX3_countFor) (maxL := 4) (ret := (some .int)) (by decide) rfl ?_
  intro p e s m args below meth c s₁ B hml hv
  obtain ⟨rfl, hP, hK, hN⟩ := hv
  have hx := B.exec
  have hb := B.bytes
  have hr := B.returns
  have hts := atoms_spec (ws := wsX3_countFor) B.pre
  have hown : s.vm.findClass RX3 = some m.cls := findClass_of_methodNamed B.named
  have hlocks := B.notSynchronized
  have iX3 : ∀ w ∈ wsX30, w ∈ wsX3_countFor := by decide +kernel
  have hP : va_P (dC, dI) vwCl [(od, .inr (2, [.ref ts, .ref bs, .ref ks, .int (nI n)])), (ts, .inl (c1, 24, .inl ft)), (bs, .inl (c2, 24, .inl fb)), (ks, .inl (c3, 24, .inl fk))] s.heap := hP
  have hK : va_K (dC, dI) vwCl [(c1, .int), (c2, .int), (c3, .int)] s := hK
  have hl := lv_entry ([.ref od, .int x]) (n := 4) (Nat.le_of_ble_eq_true rfl)
  rw [lg_entry_eq]
  generalize (lg_sl ([.ref od, .int x]) ++ List.replicate (4 - (lg_sl ([.ref od, .int x])).length) Slot.unset).toArray = ls at hl ⊢
  have hl : lv_has ls 4 [(0, .ref od), (1, .int x)] := hl
  refine lv_iconst (v := 0) hx hb dX3_countFor_0 (by decide) ?_
  refine lv_istore_n (lv' := [(2, .int 0), (0, .ref od), (1, .int x)]) hx hb dX3_countFor_1 rfl hl (by decide) rfl (fun ls hl => ?_)
  refine lv_iconst (v := 0) hx hb dX3_countFor_2 (by decide) ?_
  refine lv_istore_n (lv' := [(3, .int 0), (2, .int 0), (0, .ref od), (1, .int x)]) hx hb dX3_countFor_3 rfl hl (by decide) rfl (fun ls hl => ?_)
  refine pt_loop n (fun k ls => ∃ (q : Int32), lv_has ls 4 [(3, .int (nI k)), (2, .int q), (0, .ref od), (1, .int x)]) (fun ls hI => ?_) (fun k ls hk hI ih => ?_) (⟨_, lv_sub hl [0, 1, 2, 3] rfl⟩)
  · obtain ⟨q, hl⟩ := hI
    have hl : lv_has ls 4 [(3, .int (nI n)), (2, .int q), (0, .ref od), (1, .int x)] := hl
    refine lv_iload_n hx hb dX3_countFor_4 rfl (lv_at hl 0 rfl) ?_
    refine lv_aload_n hx hb dX3_countFor_5 rfl (lv_at hl 2 rfl) ?_
    refine va_get (D := (dC, dI)) (ci := 2) (v := .int (nI n)) (C := RX3) (T := TX3) (N := 4) hx hb hts iX3 hown hK hP 0 rfl rfl 3 (by decide) (hts (.fieldLink RX3 21 "ParkTower$Orders" "count" "I") (by decide +kernel)) (fun _ h9 => h9) rfl dX3_countFor_6 ?_
    refine lv_icmp_ge (tgt := 31) hx hb dX3_countFor_9 (by decide) (fun c_1 => ?_) (fun c_1 => ?_)
    · have c_1 : n ≤ n := (nI_leI (a := n) (b := n) (by omega) (by omega)).mp c_1
      refine lv_iload_n hx hb dX3_countFor_31 rfl (lv_at hl 1 rfl) ?_
      exact W.iret (v := q) hx hb hr (fun t ht hW => ⟨q, rfl, trivial, ht⟩) (fun q h => by cases h) dX3_countFor_32
    · have c_1 : ¬ (n ≤ n) := fun q_ => c_1 ((nI_leI (a := n) (b := n) (by omega) (by omega)).mpr q_)
      exact (by omega : False).elim
  · obtain ⟨q, hl⟩ := hI
    have hl : lv_has ls 4 [(3, .int (nI k)), (2, .int q), (0, .ref od), (1, .int x)] := hl
    refine lv_iload_n hx hb dX3_countFor_4 rfl (lv_at hl 0 rfl) ?_
    refine lv_aload_n hx hb dX3_countFor_5 rfl (lv_at hl 2 rfl) ?_
    refine va_get (D := (dC, dI)) (ci := 2) (v := .int (nI n)) (C := RX3) (T := TX3) (N := 4) hx hb hts iX3 hown hK hP 0 rfl rfl 3 (by decide) (hts (.fieldLink RX3 21 "ParkTower$Orders" "count" "I") (by decide +kernel)) (fun _ h9 => h9) rfl dX3_countFor_6 ?_
    refine lv_icmp_ge (tgt := 31) hx hb dX3_countFor_9 (by decide) (fun c_2 => ?_) (fun c_2 => ?_)
    · have c_2 : n ≤ k := (nI_leI (a := n) (b := k) (by omega) (by omega)).mp c_2
      refine lv_iload_n hx hb dX3_countFor_31 rfl (lv_at hl 1 rfl) ?_
      exact W.iret (v := q) hx hb hr (fun t ht hW => ⟨q, rfl, trivial, ht⟩) (fun q h => by cases h) dX3_countFor_32
    · have c_2 : ¬ (n ≤ k) := fun q_ => c_2 ((nI_leI (a := n) (b := k) (by omega) (by omega)).mpr q_)
      refine lv_aload_n hx hb dX3_countFor_12 rfl (lv_at hl 2 rfl) ?_
      refine va_get (D := (dC, dI)) (ci := 2) (v := .ref bs) (C := RX3) (T := TX3) (N := 4) hx hb hts iX3 hown hK hP 0 rfl rfl 1 (by decide) (hts (.fieldLink RX3 15 "ParkTower$Orders" "bays" "[I") (by decide +kernel)) (fun _ h9 => h9) rfl dX3_countFor_13 ?_
      refine lv_iload_n hx hb dX3_countFor_16 rfl (lv_at hl 0 rfl) ?_
      refine va_iald hx hb hK hP 2 1 rfl rfl (vp_in_nI (n := k) (by omega) (by decide)) dX3_countFor_17 ?_
      refine lv_topi (fun a_3 ea_3 => ?_)
      refine lv_iload_n hx hb dX3_countFor_18 rfl (lv_at hl 3 rfl) ?_
      refine lv_icmp_ne (tgt := 25) hx hb dX3_countFor_19 (by decide) (fun c_4 => ?_) (fun c_4 => ?_)
      · have c_4 : ¬ (a_3 = x) := c_4
        refine lv_iinc (v := nI (k + 1)) (lv' := [(3, .int (nI (k + 1))), (2, .int q), (0, .ref od), (1, .int x)]) hx hb dX3_countFor_25 hl (k := 0) rfl (nI_add k 1) (by decide) rfl (fun ls hl => ?_)
        refine lv_goto (tgt := 4) hx hb dX3_countFor_28 (by decide) ?_
        exact ih ls (⟨_, lv_sub hl [0, 1, 2, 3] rfl⟩)
      · have c_4 : (a_3 = x) := c_4
        refine lv_iinc (v := q + 1) (lv' := [(2, .int (q + 1)), (3, .int (nI k)), (0, .ref od), (1, .int x)]) hx hb dX3_countFor_22 hl (k := 1) rfl rfl (by decide) rfl (fun ls hl => ?_)
        refine lv_iinc (v := nI (k + 1)) (lv' := [(3, .int (nI (k + 1))), (2, .int (q + 1)), (0, .ref od), (1, .int x)]) hx hb dX3_countFor_25 hl (k := 1) rfl (nI_add k 1) (by decide) rfl (fun ls hl => ?_)
        refine lv_goto (tgt := 4) hx hb dX3_countFor_28 (by decide) ?_
        exact ih ls (⟨_, lv_sub hl [0, 1, 2, 3] rfl⟩)
set_option maxHeartbeats 4000000 in
set_option maxRecDepth 100000 in
theorem s_fetchesFor (l : Launch) (dC : Nat → ClassId) (dI : Nat → Nat → Nat) (od ts bs ks : Nat) (c1 c2 c3 : ClassId) (ft fb fk : Nat → Int32) (n : Nat) (x : Int32) (hn : n ≤ 24) : Met l yX3_fetchesFor wsX3_fetchesFor ({ frames := 1, cells := 0, slots := 0, locals := 21 }) (va_Pc [.ref od, .int x] (pt_B (dC, dI) [(od, .inr (2, [.ref ts, .ref bs, .ref ks, .int (nI n)])), (ts, .inl (c1, 24, .inl ft)), (bs, .inl (c2, 24, .inl fb)), (ks, .inl (c3, 24, .inl fk))] [(c1, .int), (c2, .int), (c3, .int)])) (vp_Si (fun r : Int32 => True)) 0 0 (fun _ => False) := by
  refine Met.ofW (cc := cX3_fetchesFor) (maxL := 4) (ret := (some .int)) (by decide) rfl ?_
  intro p e s m args below meth c s₁ B hml hv
  obtain ⟨rfl, hP, hK, hN⟩ := hv
  have hx := B.exec
  have hb := B.bytes
  have hr := B.returns
  have hts := atoms_spec (ws := wsX3_fetchesFor) B.pre
  have hown : s.vm.findClass RX3 = some m.cls := findClass_of_methodNamed B.named
  have hlocks := B.notSynchronized
  have iX3 : ∀ w ∈ wsX30, w ∈ wsX3_fetchesFor := by decide +kernel
  have hP : va_P (dC, dI) vwCl [(od, .inr (2, [.ref ts, .ref bs, .ref ks, .int (nI n)])), (ts, .inl (c1, 24, .inl ft)), (bs, .inl (c2, 24, .inl fb)), (ks, .inl (c3, 24, .inl fk))] s.heap := hP
  have hK : va_K (dC, dI) vwCl [(c1, .int), (c2, .int), (c3, .int)] s := hK
  have hl := lv_entry ([.ref od, .int x]) (n := 4) (Nat.le_of_ble_eq_true rfl)
  rw [lg_entry_eq]
  generalize (lg_sl ([.ref od, .int x]) ++ List.replicate (4 - (lg_sl ([.ref od, .int x])).length) Slot.unset).toArray = ls at hl ⊢
  have hl : lv_has ls 4 [(0, .ref od), (1, .int x)] := hl
  refine lv_iconst (v := 0) hx hb dX3_fetchesFor_0 (by decide) ?_
  refine lv_istore_n (lv' := [(2, .int 0), (0, .ref od), (1, .int x)]) hx hb dX3_fetchesFor_1 rfl hl (by decide) rfl (fun ls hl => ?_)
  refine lv_iconst (v := 0) hx hb dX3_fetchesFor_2 (by decide) ?_
  refine lv_istore_n (lv' := [(3, .int 0), (2, .int 0), (0, .ref od), (1, .int x)]) hx hb dX3_fetchesFor_3 rfl hl (by decide) rfl (fun ls hl => ?_)
  refine pt_loop n (fun k ls => ∃ (q : Int32), lv_has ls 4 [(3, .int (nI k)), (2, .int q), (0, .ref od), (1, .int x)]) (fun ls hI => ?_) (fun k ls hk hI ih => ?_) (⟨_, lv_sub hl [0, 1, 2, 3] rfl⟩)
  · obtain ⟨q, hl⟩ := hI
    have hl : lv_has ls 4 [(3, .int (nI n)), (2, .int q), (0, .ref od), (1, .int x)] := hl
    refine lv_iload_n hx hb dX3_fetchesFor_4 rfl (lv_at hl 0 rfl) ?_
    refine lv_aload_n hx hb dX3_fetchesFor_5 rfl (lv_at hl 2 rfl) ?_
    refine va_get (D := (dC, dI)) (ci := 2) (v := .int (nI n)) (C := RX3) (T := TX3) (N := 4) hx hb hts iX3 hown hK hP 0 rfl rfl 3 (by decide) (hts (.fieldLink RX3 21 "ParkTower$Orders" "count" "I") (by decide +kernel)) (fun _ h9 => h9) rfl dX3_fetchesFor_6 ?_
    refine lv_icmp_ge (tgt := 39) hx hb dX3_fetchesFor_9 (by decide) (fun c_1 => ?_) (fun c_1 => ?_)
    · have c_1 : n ≤ n := (nI_leI (a := n) (b := n) (by omega) (by omega)).mp c_1
      refine lv_iload_n hx hb dX3_fetchesFor_39 rfl (lv_at hl 1 rfl) ?_
      exact W.iret (v := q) hx hb hr (fun t ht hW => ⟨q, rfl, trivial, ht⟩) (fun q h => by cases h) dX3_fetchesFor_40
    · have c_1 : ¬ (n ≤ n) := fun q_ => c_1 ((nI_leI (a := n) (b := n) (by omega) (by omega)).mpr q_)
      exact (by omega : False).elim
  · obtain ⟨q, hl⟩ := hI
    have hl : lv_has ls 4 [(3, .int (nI k)), (2, .int q), (0, .ref od), (1, .int x)] := hl
    refine lv_iload_n hx hb dX3_fetchesFor_4 rfl (lv_at hl 0 rfl) ?_
    refine lv_aload_n hx hb dX3_fetchesFor_5 rfl (lv_at hl 2 rfl) ?_
    refine va_get (D := (dC, dI)) (ci := 2) (v := .int (nI n)) (C := RX3) (T := TX3) (N := 4) hx hb hts iX3 hown hK hP 0 rfl rfl 3 (by decide) (hts (.fieldLink RX3 21 "ParkTower$Orders" "count" "I") (by decide +kernel)) (fun _ h9 => h9) rfl dX3_fetchesFor_6 ?_
    refine lv_icmp_ge (tgt := 39) hx hb dX3_fetchesFor_9 (by decide) (fun c_2 => ?_) (fun c_2 => ?_)
    · have c_2 : n ≤ k := (nI_leI (a := n) (b := k) (by omega) (by omega)).mp c_2
      refine lv_iload_n hx hb dX3_fetchesFor_39 rfl (lv_at hl 1 rfl) ?_
      exact W.iret (v := q) hx hb hr (fun t ht hW => ⟨q, rfl, trivial, ht⟩) (fun q h => by cases h) dX3_fetchesFor_40
    · have c_2 : ¬ (n ≤ k) := fun q_ => c_2 ((nI_leI (a := n) (b := k) (by omega) (by omega)).mpr q_)
      refine lv_aload_n hx hb dX3_fetchesFor_12 rfl (lv_at hl 2 rfl) ?_
      refine va_get (D := (dC, dI)) (ci := 2) (v := .ref bs) (C := RX3) (T := TX3) (N := 4) hx hb hts iX3 hown hK hP 0 rfl rfl 1 (by decide) (hts (.fieldLink RX3 15 "ParkTower$Orders" "bays" "[I") (by decide +kernel)) (fun _ h9 => h9) rfl dX3_fetchesFor_13 ?_
      refine lv_iload_n hx hb dX3_fetchesFor_16 rfl (lv_at hl 0 rfl) ?_
      refine va_iald hx hb hK hP 2 1 rfl rfl (vp_in_nI (n := k) (by omega) (by decide)) dX3_fetchesFor_17 ?_
      refine lv_topi (fun a_3 ea_3 => ?_)
      refine lv_iload_n hx hb dX3_fetchesFor_18 rfl (lv_at hl 3 rfl) ?_
      refine lv_icmp_ne (tgt := 33) hx hb dX3_fetchesFor_19 (by decide) (fun c_4 => ?_) (fun c_4 => ?_)
      · have c_4 : ¬ (a_3 = x) := c_4
        refine lv_iinc (v := nI (k + 1)) (lv' := [(3, .int (nI (k + 1))), (2, .int q), (0, .ref od), (1, .int x)]) hx hb dX3_fetchesFor_33 hl (k := 0) rfl (nI_add k 1) (by decide) rfl (fun ls hl => ?_)
        refine lv_goto (tgt := 4) hx hb dX3_fetchesFor_36 (by decide) ?_
        exact ih ls (⟨_, lv_sub hl [0, 1, 2, 3] rfl⟩)
      · have c_4 : (a_3 = x) := c_4
        refine lv_aload_n hx hb dX3_fetchesFor_22 rfl (lv_at hl 2 rfl) ?_
        refine lv_iload_n hx hb dX3_fetchesFor_23 rfl (lv_at hl 0 rfl) ?_
        refine pt_cSi (va_runV (As := [.int (nI k)]) (rest := []) ⟨hx, hb, hml, hown, hts⟩ (s_isFetch l dC dI od ts bs ks c1 c2 c3 ft fb fk n k (by omega)) (cwV 1 hts gX3_fetchesFor_X3_isFetch rfl rfl rfl (by decide +kernel) ⟨Nat.le_of_ble_eq_true rfl, Nat.le_of_ble_eq_true rfl⟩) ⟨pt_blind, va_recv hK hP (ci := 2) (q0 := 0) rfl rfl, pt_pre (w := [(od, .inr (2, [.ref ts, .ref bs, .ref ks, .int (nI n)])), (ts, .inl (c1, 24, .inl ft)), (bs, .inl (c2, 24, .inl fb)), (ks, .inl (c3, 24, .inl fk))]) (tys := [(c1, .int), (c2, .int), (c3, .int)]) (hP.sub [0, 1, 2, 3] rfl) (hK.sub [0, 1, 2] rfl) hN⟩ rfl rfl hl.1 rfl (lv_room (Nat.le_of_ble_eq_true rfl)) dX3_fetchesFor_24 ⟨Nat.le_of_ble_eq_true rfl, Nat.le_of_ble_eq_true rfl⟩) (fun r_5 hr_5 => ?_)
        rcases hr_5 with rfl | rfl
        · skip
          refine lv_if_eq (tgt := 33) hx hb dX3_fetchesFor_27 (by decide) (fun _ => ?_) (fun c => absurd (by decide) c)
          refine lv_iinc (v := nI (k + 1)) (lv' := [(3, .int (nI (k + 1))), (2, .int q), (0, .ref od), (1, .int x)]) hx hb dX3_fetchesFor_33 hl (k := 0) rfl (nI_add k 1) (by decide) rfl (fun ls hl => ?_)
          refine lv_goto (tgt := 4) hx hb dX3_fetchesFor_36 (by decide) ?_
          exact ih ls (⟨_, lv_sub hl [0, 1, 2, 3] rfl⟩)
        · skip
          refine lv_if_eq (tgt := 33) hx hb dX3_fetchesFor_27 (by decide) (fun c => absurd c (by decide)) (fun _ => ?_)
          refine lv_iinc (v := q + 1) (lv' := [(2, .int (q + 1)), (3, .int (nI k)), (0, .ref od), (1, .int x)]) hx hb dX3_fetchesFor_30 hl (k := 1) rfl rfl (by decide) rfl (fun ls hl => ?_)
          refine lv_iinc (v := nI (k + 1)) (lv' := [(3, .int (nI (k + 1))), (2, .int (q + 1)), (0, .ref od), (1, .int x)]) hx hb dX3_fetchesFor_33 hl (k := 1) rfl (nI_add k 1) (by decide) rfl (fun ls hl => ?_)
          refine lv_goto (tgt := 4) hx hb dX3_fetchesFor_36 (by decide) ?_
          exact ih ls (⟨_, lv_sub hl [0, 1, 2, 3] rfl⟩)
set_option maxHeartbeats 4000000 in
set_option maxRecDepth 100000 in
theorem s_firstWaiting (l : Launch) (dC : Nat → ClassId) (dI : Nat → Nat → Nat) (od ts bs ks : Nat) (c1 c2 c3 : ClassId) (ft fb fk : Nat → Int32) (n : Nat) (x y : Int32) (hn : n ≤ 24) : Met l yX3_firstWaitingIsFetch wsX3_firstWaitingIsFetch ({ frames := 1, cells := 0, slots := 0, locals := 21 }) (va_Pc [.ref od, .int x, .int y] (pt_B (dC, dI) [(od, .inr (2, [.ref ts, .ref bs, .ref ks, .int (nI n)])), (ts, .inl (c1, 24, .inl ft)), (bs, .inl (c2, 24, .inl fb)), (ks, .inl (c3, 24, .inl fk))] [(c1, .int), (c2, .int), (c3, .int)])) (vp_Si (fun r : Int32 => r = 0 ∨ r = 1)) 0 0 (fun _ => False) := by
  refine Met.ofW (cc := cX3_firstWaitingIsFetch) (maxL := 4) (ret := (some .boolean)) (by decide) rfl ?_
  intro p e s m args below meth c s₁ B hml hv
  obtain ⟨rfl, hP, hK, hN⟩ := hv
  have hx := B.exec
  have hb := B.bytes
  have hr := B.returns
  have hts := atoms_spec (ws := wsX3_firstWaitingIsFetch) B.pre
  have hown : s.vm.findClass RX3 = some m.cls := findClass_of_methodNamed B.named
  have hlocks := B.notSynchronized
  have iX3 : ∀ w ∈ wsX30, w ∈ wsX3_firstWaitingIsFetch := by decide +kernel
  have hP : va_P (dC, dI) vwCl [(od, .inr (2, [.ref ts, .ref bs, .ref ks, .int (nI n)])), (ts, .inl (c1, 24, .inl ft)), (bs, .inl (c2, 24, .inl fb)), (ks, .inl (c3, 24, .inl fk))] s.heap := hP
  have hK : va_K (dC, dI) vwCl [(c1, .int), (c2, .int), (c3, .int)] s := hK
  have hl := lv_entry ([.ref od, .int x, .int y]) (n := 4) (Nat.le_of_ble_eq_true rfl)
  rw [lg_entry_eq]
  generalize (lg_sl ([.ref od, .int x, .int y]) ++ List.replicate (4 - (lg_sl ([.ref od, .int x, .int y])).length) Slot.unset).toArray = ls at hl ⊢
  have hl : lv_has ls 4 [(0, .ref od), (1, .int x), (2, .int y)] := hl
  refine lv_iconst (v := 0) hx hb dX3_firstWaitingIsFetch_0 (by decide) ?_
  refine lv_istore_n (lv' := [(3, .int 0), (0, .ref od), (1, .int x), (2, .int y)]) hx hb dX3_firstWaitingIsFetch_1 rfl hl (by decide) rfl (fun ls hl => ?_)
  refine pt_loop n (fun k ls => lv_has ls 4 [(3, .int (nI k)), (0, .ref od), (1, .int x), (2, .int y)]) (fun ls hI => ?_) (fun k ls hk hI ih => ?_) (lv_sub hl [0, 1, 2, 3] rfl)
  · have hl := hI
    have hl : lv_has ls 4 [(3, .int (nI n)), (0, .ref od), (1, .int x), (2, .int y)] := hl
    refine lv_iload_n hx hb dX3_firstWaitingIsFetch_2 rfl (lv_at hl 0 rfl) ?_
    refine lv_aload_n hx hb dX3_firstWaitingIsFetch_3 rfl (lv_at hl 1 rfl) ?_
    refine va_get (D := (dC, dI)) (ci := 2) (v := .int (nI n)) (C := RX3) (T := TX3) (N := 4) hx hb hts iX3 hown hK hP 0 rfl rfl 3 (by decide) (hts (.fieldLink RX3 21 "ParkTower$Orders" "count" "I") (by decide +kernel)) (fun _ h9 => h9) rfl dX3_firstWaitingIsFetch_4 ?_
    refine lv_icmp_ge (tgt := 37) hx hb dX3_firstWaitingIsFetch_7 (by decide) (fun c_1 => ?_) (fun c_1 => ?_)
    · have c_1 : n ≤ n := (nI_leI (a := n) (b := n) (by omega) (by omega)).mp c_1
      refine lv_iconst (v := 0) hx hb dX3_firstWaitingIsFetch_37 (by decide) ?_
      exact W.zret (v := 0) (ty := .boolean) hx hb hr rfl (fun t ht hW => ⟨0, rfl, Or.inl rfl, ht⟩) (fun q h => by cases h) dX3_firstWaitingIsFetch_38
    · have c_1 : ¬ (n ≤ n) := fun q_ => c_1 ((nI_leI (a := n) (b := n) (by omega) (by omega)).mpr q_)
      exact (by omega : False).elim
  · have hl := hI
    have hl : lv_has ls 4 [(3, .int (nI k)), (0, .ref od), (1, .int x), (2, .int y)] := hl
    refine lv_iload_n hx hb dX3_firstWaitingIsFetch_2 rfl (lv_at hl 0 rfl) ?_
    refine lv_aload_n hx hb dX3_firstWaitingIsFetch_3 rfl (lv_at hl 1 rfl) ?_
    refine va_get (D := (dC, dI)) (ci := 2) (v := .int (nI n)) (C := RX3) (T := TX3) (N := 4) hx hb hts iX3 hown hK hP 0 rfl rfl 3 (by decide) (hts (.fieldLink RX3 21 "ParkTower$Orders" "count" "I") (by decide +kernel)) (fun _ h9 => h9) rfl dX3_firstWaitingIsFetch_4 ?_
    refine lv_icmp_ge (tgt := 37) hx hb dX3_firstWaitingIsFetch_7 (by decide) (fun c_2 => ?_) (fun c_2 => ?_)
    · have c_2 : n ≤ k := (nI_leI (a := n) (b := k) (by omega) (by omega)).mp c_2
      refine lv_iconst (v := 0) hx hb dX3_firstWaitingIsFetch_37 (by decide) ?_
      exact W.zret (v := 0) (ty := .boolean) hx hb hr rfl (fun t ht hW => ⟨0, rfl, Or.inl rfl, ht⟩) (fun q h => by cases h) dX3_firstWaitingIsFetch_38
    · have c_2 : ¬ (n ≤ k) := fun q_ => c_2 ((nI_leI (a := n) (b := k) (by omega) (by omega)).mpr q_)
      refine lv_iload_n hx hb dX3_firstWaitingIsFetch_10 rfl (lv_at hl 0 rfl) ?_
      refine lv_iload_n hx hb dX3_firstWaitingIsFetch_11 rfl (lv_at hl 3 rfl) ?_
      refine lv_icmp_eq (tgt := 31) hx hb dX3_firstWaitingIsFetch_12 (by decide) (fun c_3 => ?_) (fun c_3 => ?_)
      · have c_3 : ((nI k) = y) := c_3
        refine lv_iinc (v := nI (k + 1)) (lv' := [(3, .int (nI (k + 1))), (0, .ref od), (1, .int x), (2, .int y)]) hx hb dX3_firstWaitingIsFetch_31 hl (k := 0) rfl (nI_add k 1) (by decide) rfl (fun ls hl => ?_)
        refine lv_goto (tgt := 2) hx hb dX3_firstWaitingIsFetch_34 (by decide) ?_
        exact ih ls (lv_sub hl [0, 1, 2, 3] rfl)
      · have c_3 : ¬ ((nI k) = y) := c_3
        refine lv_aload_n hx hb dX3_firstWaitingIsFetch_15 rfl (lv_at hl 1 rfl) ?_
        refine va_get (D := (dC, dI)) (ci := 2) (v := .ref bs) (C := RX3) (T := TX3) (N := 4) hx hb hts iX3 hown hK hP 0 rfl rfl 1 (by decide) (hts (.fieldLink RX3 15 "ParkTower$Orders" "bays" "[I") (by decide +kernel)) (fun _ h9 => h9) rfl dX3_firstWaitingIsFetch_16 ?_
        refine lv_iload_n hx hb dX3_firstWaitingIsFetch_19 rfl (lv_at hl 0 rfl) ?_
        refine va_iald hx hb hK hP 2 1 rfl rfl (vp_in_nI (n := k) (by omega) (by decide)) dX3_firstWaitingIsFetch_20 ?_
        refine lv_topi (fun a_4 ea_4 => ?_)
        refine lv_iload_n hx hb dX3_firstWaitingIsFetch_21 rfl (lv_at hl 2 rfl) ?_
        refine lv_icmp_ne (tgt := 31) hx hb dX3_firstWaitingIsFetch_22 (by decide) (fun c_5 => ?_) (fun c_5 => ?_)
        · have c_5 : ¬ (a_4 = x) := c_5
          refine lv_iinc (v := nI (k + 1)) (lv' := [(3, .int (nI (k + 1))), (0, .ref od), (1, .int x), (2, .int y)]) hx hb dX3_firstWaitingIsFetch_31 hl (k := 0) rfl (nI_add k 1) (by decide) rfl (fun ls hl => ?_)
          refine lv_goto (tgt := 2) hx hb dX3_firstWaitingIsFetch_34 (by decide) ?_
          exact ih ls (lv_sub hl [0, 1, 2, 3] rfl)
        · have c_5 : (a_4 = x) := c_5
          refine lv_aload_n hx hb dX3_firstWaitingIsFetch_25 rfl (lv_at hl 1 rfl) ?_
          refine lv_iload_n hx hb dX3_firstWaitingIsFetch_26 rfl (lv_at hl 0 rfl) ?_
          refine pt_cSi (va_runV (As := [.int (nI k)]) (rest := []) ⟨hx, hb, hml, hown, hts⟩ (s_isFetch l dC dI od ts bs ks c1 c2 c3 ft fb fk n k (by omega)) (cwV 1 hts gX3_firstWaitingIsFetch_X3_isFetch rfl rfl rfl (by decide +kernel) ⟨Nat.le_of_ble_eq_true rfl, Nat.le_of_ble_eq_true rfl⟩) ⟨pt_blind, va_recv hK hP (ci := 2) (q0 := 0) rfl rfl, pt_pre (w := [(od, .inr (2, [.ref ts, .ref bs, .ref ks, .int (nI n)])), (ts, .inl (c1, 24, .inl ft)), (bs, .inl (c2, 24, .inl fb)), (ks, .inl (c3, 24, .inl fk))]) (tys := [(c1, .int), (c2, .int), (c3, .int)]) (hP.sub [0, 1, 2, 3] rfl) (hK.sub [0, 1, 2] rfl) hN⟩ rfl rfl hl.1 rfl (lv_room (Nat.le_of_ble_eq_true rfl)) dX3_firstWaitingIsFetch_27 ⟨Nat.le_of_ble_eq_true rfl, Nat.le_of_ble_eq_true rfl⟩) (fun r_6 hr_6 => ?_)
          rcases hr_6 with rfl | rfl
          · skip
            exact W.zret (v := 0) (ty := .boolean) hx hb hr rfl (fun t ht hW => ⟨0, rfl, Or.inl rfl, ht⟩) (fun q h => by cases h) dX3_firstWaitingIsFetch_30
          · skip
            exact W.zret (v := 1) (ty := .boolean) hx hb hr rfl (fun t ht hW => ⟨1, rfl, Or.inr rfl, ht⟩) (fun q h => by cases h) dX3_firstWaitingIsFetch_30
