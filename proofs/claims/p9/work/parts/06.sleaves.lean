set_option maxHeartbeats 4000000 in
set_option maxRecDepth 100000 in
theorem s_hasCar (l : Launch) (dC : Nat → ClassId) (dI : Nat → Nat → Nat) (rk hd jm : Nat) (cI : ClassId) (fh : Nat → Int32) (k : Nat) (hk : k < 96) : Met l yX5_hasCar wsX5_hasCar ({ frames := 0, cells := 0, slots := 0, locals := 0 }) (va_Pc [.ref rk, .int (nI k)] (pt_B (dC, dI) [(rk, .inr (4, [.ref hd, .ref jm])), (hd, .inl (cI, 96, .inl fh))] [(cI, .int)])) (vp_Si (fun r : Int32 => True)) 0 0 (fun _ => False) := by
  refine Met.ofW (cc := cX5_hasCar) (maxL := 2) (ret := (some .boolean)) (by decide) rfl ?_
  intro p e s m args below meth c s₁ B hml hv
  obtain ⟨rfl, hP, hK, hN⟩ := hv
  have hx := B.exec
  have hb := B.bytes
  have hr := B.returns
  have hts := atoms_spec (ws := wsX5_hasCar) B.pre
  have hown : s.vm.findClass RX5 = some m.cls := findClass_of_methodNamed B.named
  have hlocks := B.notSynchronized
  have iX5 : ∀ w ∈ wsX50, w ∈ wsX5_hasCar := by decide +kernel
  have hP : va_P (dC, dI) vwCl [(rk, .inr (4, [.ref hd, .ref jm])), (hd, .inl (cI, 96, .inl fh))] s.heap := hP
  have hK : va_K (dC, dI) vwCl [(cI, .int)] s := hK
  have hl := lv_entry ([.ref rk, .int (nI k)]) (n := 2) (Nat.le_of_ble_eq_true rfl)
  rw [lg_entry_eq]
  generalize (lg_sl ([.ref rk, .int (nI k)]) ++ List.replicate (2 - (lg_sl ([.ref rk, .int (nI k)])).length) Slot.unset).toArray = ls at hl ⊢
  have hl : lv_has ls 2 [(0, .ref rk), (1, .int (nI k))] := hl
  refine lv_aload_n hx hb dX5_hasCar_0 rfl (lv_at hl 0 rfl) ?_
  refine va_get (D := (dC, dI)) (ci := 4) (v := .ref hd) (C := RX5) (T := TX5) (N := 2) hx hb hts iX5 hown hK hP 0 rfl rfl 0 (by decide) (hts (.fieldLink RX5 9 "ParkTower$Rack" "held" "[I") (by decide +kernel)) (fun _ h9 => h9) rfl dX5_hasCar_1 ?_
  refine lv_iload_n hx hb dX5_hasCar_4 rfl (lv_at hl 1 rfl) ?_
  refine va_iald hx hb hK hP 1 0 rfl rfl (vp_in_nI (n := k) (by omega) (by decide)) dX5_hasCar_5 ?_
  refine lv_topi (fun a_1 ea_1 => ?_)
  refine lv_if_le (tgt := 13) hx hb dX5_hasCar_6 (by decide) (fun c_2 => ?_) (fun c_2 => ?_)
  · have c_2 : (a_1 ≤ 0) := c_2
    refine lv_iconst (v := 0) hx hb dX5_hasCar_13 (by decide) ?_
    exact W.zret (v := 0) (ty := .boolean) hx hb hr rfl (fun t ht hW => ⟨0, rfl, trivial, ht⟩) (fun q h => by cases h) dX5_hasCar_14
  · have c_2 : ¬ (a_1 ≤ 0) := c_2
    refine lv_iconst (v := 1) hx hb dX5_hasCar_9 (by decide) ?_
    refine lv_goto (tgt := 14) hx hb dX5_hasCar_10 (by decide) ?_
    exact W.zret (v := 1) (ty := .boolean) hx hb hr rfl (fun t ht hW => ⟨1, rfl, trivial, ht⟩) (fun q h => by cases h) dX5_hasCar_14
set_option maxHeartbeats 4000000 in
set_option maxRecDepth 100000 in
theorem s_isFront (l : Launch) (dC : Nat → ClassId) (dI : Nat → Nat → Nat) (k : Nat) (hk : k < 96) : Met l yX7_isFront wsX7_isFront ({ frames := 0, cells := 0, slots := 0, locals := 0 }) (va_Pc [.int (nI k)] (pt_B (dC, dI) [] [])) (vp_Si (fun r : Int32 => r = (if k % 2 = 0 then 1 else 0))) 0 0 (fun _ => False) := by
  refine Met.ofW (cc := cX7_isFront) (maxL := 1) (ret := (some .boolean)) (by decide) rfl ?_
  intro p e s m args below meth c s₁ B hml hv
  obtain ⟨rfl, hP, hK, hN⟩ := hv
  have hx := B.exec
  have hb := B.bytes
  have hr := B.returns
  have hts := atoms_spec (ws := wsX7_isFront) B.pre
  have hown : s.vm.findClass RX7 = some m.cls := findClass_of_methodNamed B.named
  have hlocks := B.notSynchronized
  have hP : va_P (dC, dI) vwCl [] s.heap := hP
  have hK : va_K (dC, dI) vwCl [] s := hK
  have hl := lv_entry ([.int (nI k)]) (n := 1) (Nat.le_of_ble_eq_true rfl)
  rw [lg_entry_eq]
  generalize (lg_sl ([.int (nI k)]) ++ List.replicate (1 - (lg_sl ([.int (nI k)])).length) Slot.unset).toArray = ls at hl ⊢
  have hl : lv_has ls 1 [(0, .int (nI k))] := hl
  refine lv_iload_n hx hb dX7_isFront_0 rfl (lv_at hl 0 rfl) ?_
  refine lv_iconst (v := 2) hx hb dX7_isFront_1 (by decide) ?_
  refine lv_irem hx hb dX7_isFront_2 (by decide) ?_
  refine pt_topi (nI (k % 2)) (pk_rem (a := k) (d := 2) (by omega) (by omega) (by omega)) ?_
  refine lv_if_ne (tgt := 10) hx hb dX7_isFront_3 (by decide) (fun c_1 => ?_) (fun c_1 => ?_)
  · have c_1 : ¬ (k % 2 = 0) := fun q_ => c_1 ((nI_eq (a := k % 2) (b := 0) (by omega) (by omega)).mpr q_)
    refine lv_iconst (v := 0) hx hb dX7_isFront_10 (by decide) ?_
    exact W.zret (v := 0) (ty := .boolean) hx hb hr rfl (fun t ht hW => ⟨0, rfl, (if_neg (by assumption)).symm, ht⟩) (fun q h => by cases h) dX7_isFront_11
  · have c_1 : k % 2 = 0 := (nI_eq (a := k % 2) (b := 0) (by omega) (by omega)).mp c_1
    refine lv_iconst (v := 1) hx hb dX7_isFront_6 (by decide) ?_
    refine lv_goto (tgt := 11) hx hb dX7_isFront_7 (by decide) ?_
    exact W.zret (v := 1) (ty := .boolean) hx hb hr rfl (fun t ht hW => ⟨1, rfl, (if_pos (by assumption)).symm, ht⟩) (fun q h => by cases h) dX7_isFront_11
set_option maxHeartbeats 4000000 in
set_option maxRecDepth 100000 in
theorem s_isReached (l : Launch) (dC : Nat → ClassId) (dI : Nat → Nat → Nat) (rk hd jm : Nat) (cI : ClassId) (fh : Nat → Int32) (k : Nat) (hk : k < 96) : Met l yX5_isReached wsX5_isReached ({ frames := 1, cells := 0, slots := 0, locals := 21 }) (va_Pc [.ref rk, .int (nI k)] (pt_B (dC, dI) [(rk, .inr (4, [.ref hd, .ref jm])), (hd, .inl (cI, 96, .inl fh))] [(cI, .int)])) (vp_Si (fun r : Int32 => r = 1 ∨ (r = 0 ∧ k % 2 = 1))) 0 0 (fun _ => False) := by
  refine Met.ofW (cc := cX5_isReached) (maxL := 2) (ret := (some .boolean)) (by decide) rfl ?_
  intro p e s m args below meth c s₁ B hml hv
  obtain ⟨rfl, hP, hK, hN⟩ := hv
  have hx := B.exec
  have hb := B.bytes
  have hr := B.returns
  have hts := atoms_spec (ws := wsX5_isReached) B.pre
  have hown : s.vm.findClass RX5 = some m.cls := findClass_of_methodNamed B.named
  have hlocks := B.notSynchronized
  have hP : va_P (dC, dI) vwCl [(rk, .inr (4, [.ref hd, .ref jm])), (hd, .inl (cI, 96, .inl fh))] s.heap := hP
  have hK : va_K (dC, dI) vwCl [(cI, .int)] s := hK
  have hl := lv_entry ([.ref rk, .int (nI k)]) (n := 2) (Nat.le_of_ble_eq_true rfl)
  rw [lg_entry_eq]
  generalize (lg_sl ([.ref rk, .int (nI k)]) ++ List.replicate (2 - (lg_sl ([.ref rk, .int (nI k)])).length) Slot.unset).toArray = ls at hl ⊢
  have hl : lv_has ls 2 [(0, .ref rk), (1, .int (nI k))] := hl
  refine lv_iload_n hx hb dX5_isReached_0 rfl (lv_at hl 1 rfl) ?_
  refine pt_cSi (va_runSN (As := [.int (nI k)]) (rest := []) ⟨hx, hb, hml, hown, hts⟩ (s_isFront l dC dI k (by omega)) ⟨va_cnB 1 hts gX5_isReached_X7_isFront_n19 rfl rfl rfl (hN.1 (.methodLinkNest RX5 19 yX7_isFront "ParkTower") (by decide +kernel)) (hts (.initialized RX7) (by decide +kernel)) (by decide +kernel) ⟨Nat.le_of_ble_eq_true rfl, Nat.le_of_ble_eq_true rfl⟩, hts (.static yX7_isFront) (by decide +kernel), trivial⟩ ⟨pt_blind, pt_pre (w := []) (tys := []) (hP.sub [] rfl) (hK.sub [] rfl) hN⟩ rfl rfl hl.1 rfl (lv_room (Nat.le_of_ble_eq_true rfl)) dX5_isReached_1 ⟨Nat.le_of_ble_eq_true rfl, Nat.le_of_ble_eq_true rfl⟩) (fun r_1 hr_1 => ?_)
  by_cases g_1 : k % 2 = 0
  · obtain rfl : r_1 = 1 := hr_1.trans (if_pos g_1)
    refine lv_if_ne (tgt := 17) hx hb dX5_isReached_4 (by decide) (fun _ => ?_) (fun c => absurd c (by decide))
    refine lv_iconst (v := 1) hx hb dX5_isReached_17 (by decide) ?_
    refine lv_goto (tgt := 22) hx hb dX5_isReached_18 (by decide) ?_
    exact W.zret (v := 1) (ty := .boolean) hx hb hr rfl (fun t ht hW => ⟨1, rfl, Or.inl rfl, ht⟩) (fun q h => by cases h) dX5_isReached_22
  · obtain rfl : r_1 = 0 := hr_1.trans (if_neg g_1)
    refine lv_if_ne (tgt := 17) hx hb dX5_isReached_4 (by decide) (fun c => absurd (by decide) c) (fun _ => ?_)
    refine lv_aload_n hx hb dX5_isReached_7 rfl (lv_at hl 0 rfl) ?_
    refine lv_iload_n hx hb dX5_isReached_8 rfl (lv_at hl 1 rfl) ?_
    refine lv_iconst (v := 1) hx hb dX5_isReached_9 (by decide) ?_
    refine lv_isub hx hb dX5_isReached_10 ?_
    refine pt_topi (nI (k - 1)) (pk_sub (a := k) (b := 1) (by omega)) ?_
    refine pt_cSi (va_runV (As := [.int (nI (k - 1))]) (rest := []) ⟨hx, hb, hml, hown, hts⟩ (s_hasCar l dC dI rk hd jm cI fh (k - 1) (by omega)) (cwV 1 hts gX5_isReached_X5_hasCar rfl rfl rfl (by decide +kernel) ⟨Nat.le_of_ble_eq_true rfl, Nat.le_of_ble_eq_true rfl⟩) ⟨pt_blind, va_recv hK hP (ci := 4) (q0 := 0) rfl rfl, pt_pre (w := [(rk, .inr (4, [.ref hd, .ref jm])), (hd, .inl (cI, 96, .inl fh))]) (tys := [(cI, .int)]) (hP.sub [0, 1] rfl) (hK.sub [0] rfl) hN⟩ rfl rfl hl.1 rfl (lv_room (Nat.le_of_ble_eq_true rfl)) dX5_isReached_11 ⟨Nat.le_of_ble_eq_true rfl, Nat.le_of_ble_eq_true rfl⟩) (fun r_2 hr_2 => ?_)
    refine lv_if_ne (tgt := 21) hx hb dX5_isReached_14 (by decide) (fun c_3 => ?_) (fun c_3 => ?_)
    · have c_3 : ¬ (r_2 = 0) := c_3
      refine lv_iconst (v := 0) hx hb dX5_isReached_21 (by decide) ?_
      exact W.zret (v := 0) (ty := .boolean) hx hb hr rfl (fun t ht hW => ⟨0, rfl, Or.inr ⟨rfl, by omega⟩, ht⟩) (fun q h => by cases h) dX5_isReached_22
    · have c_3 : (r_2 = 0) := c_3
      refine lv_iconst (v := 1) hx hb dX5_isReached_17 (by decide) ?_
      refine lv_goto (tgt := 22) hx hb dX5_isReached_18 (by decide) ?_
      exact W.zret (v := 1) (ty := .boolean) hx hb hr rfl (fun t ht hW => ⟨1, rfl, Or.inl rfl, ht⟩) (fun q h => by cases h) dX5_isReached_22
set_option maxHeartbeats 4000000 in
set_option maxRecDepth 100000 in
theorem s_find (l : Launch) (dC : Nat → ClassId) (dI : Nat → Nat → Nat) (rk hd jm : Nat) (cI : ClassId) (fh : Nat → Int32) (tk : Int32) : Met l yX5_find wsX5_find ({ frames := 0, cells := 0, slots := 0, locals := 0 }) (va_Pc [.ref rk, .int tk] (pt_B (dC, dI) [(rk, .inr (4, [.ref hd, .ref jm])), (hd, .inl (cI, 96, .inl fh))] [(cI, .int)])) (vp_Si (fun r : Int32 => r = (-1) ∨ ∃ j : Nat, j < 96 ∧ r = nI j)) 0 0 (fun _ => False) := by
  refine Met.ofW (cc := cX5_find) (maxL := 3) (ret := (some .int)) (by decide) rfl ?_
  intro p e s m args below meth c s₁ B hml hv
  obtain ⟨rfl, hP, hK, hN⟩ := hv
  have hx := B.exec
  have hb := B.bytes
  have hr := B.returns
  have hts := atoms_spec (ws := wsX5_find) B.pre
  have hown : s.vm.findClass RX5 = some m.cls := findClass_of_methodNamed B.named
  have hlocks := B.notSynchronized
  have iX5 : ∀ w ∈ wsX50, w ∈ wsX5_find := by decide +kernel
  have hP : va_P (dC, dI) vwCl [(rk, .inr (4, [.ref hd, .ref jm])), (hd, .inl (cI, 96, .inl fh))] s.heap := hP
  have hK : va_K (dC, dI) vwCl [(cI, .int)] s := hK
  have hl := lv_entry ([.ref rk, .int tk]) (n := 3) (Nat.le_of_ble_eq_true rfl)
  rw [lg_entry_eq]
  generalize (lg_sl ([.ref rk, .int tk]) ++ List.replicate (3 - (lg_sl ([.ref rk, .int tk])).length) Slot.unset).toArray = ls at hl ⊢
  have hl : lv_has ls 3 [(0, .ref rk), (1, .int tk)] := hl
  refine lv_iconst (v := 0) hx hb dX5_find_0 (by decide) ?_
  refine lv_istore_n (lv' := [(2, .int 0), (0, .ref rk), (1, .int tk)]) hx hb dX5_find_1 rfl hl (by decide) rfl (fun ls hl => ?_)
  refine pt_loop 96 (fun k ls => lv_has ls 3 [(2, .int (nI k)), (0, .ref rk), (1, .int tk)]) (fun ls hI => ?_) (fun k ls hk hI ih => ?_) (lv_sub hl [0, 1, 2] rfl)
  · have hl := hI
    have hl : lv_has ls 3 [(2, .int 96), (0, .ref rk), (1, .int tk)] := hl
    refine lv_iload_n hx hb dX5_find_2 rfl (lv_at hl 0 rfl) ?_
    refine lv_bipush (v := 96) hx hb dX5_find_3 (by decide) ?_
    refine lv_icmp_ge (tgt := 26) hx hb dX5_find_5 (by decide) (fun _ => ?_) (fun c => absurd (by decide) c)
    refine lv_iconst (v := (-1)) hx hb dX5_find_26 (by decide) ?_
    exact W.iret (v := (-1)) hx hb hr (fun t ht hW => ⟨(-1), rfl, Or.inl rfl, ht⟩) (fun q h => by cases h) dX5_find_27
  · have hl := hI
    have hl : lv_has ls 3 [(2, .int (nI k)), (0, .ref rk), (1, .int tk)] := hl
    refine lv_iload_n hx hb dX5_find_2 rfl (lv_at hl 0 rfl) ?_
    refine lv_bipush (v := 96) hx hb dX5_find_3 (by decide) ?_
    refine lv_icmp_ge (tgt := 26) hx hb dX5_find_5 (by decide) (fun c_1 => ?_) (fun c_1 => ?_)
    · have c_1 : 96 ≤ k := (nI_leI (a := 96) (b := k) (by omega) (by omega)).mp c_1
      exact (by omega : False).elim
    · have c_1 : ¬ (96 ≤ k) := fun q_ => c_1 ((nI_leI (a := 96) (b := k) (by omega) (by omega)).mpr q_)
      refine lv_aload_n hx hb dX5_find_8 rfl (lv_at hl 1 rfl) ?_
      refine va_get (D := (dC, dI)) (ci := 4) (v := .ref hd) (C := RX5) (T := TX5) (N := 2) hx hb hts iX5 hown hK hP 0 rfl rfl 0 (by decide) (hts (.fieldLink RX5 9 "ParkTower$Rack" "held" "[I") (by decide +kernel)) (fun _ h9 => h9) rfl dX5_find_9 ?_
      refine lv_iload_n hx hb dX5_find_12 rfl (lv_at hl 0 rfl) ?_
      refine va_iald hx hb hK hP 1 0 rfl rfl (vp_in_nI (n := k) (by omega) (by decide)) dX5_find_13 ?_
      refine lv_topi (fun a_2 ea_2 => ?_)
      refine lv_iload_n hx hb dX5_find_14 rfl (lv_at hl 2 rfl) ?_
      refine lv_icmp_ne (tgt := 20) hx hb dX5_find_15 (by decide) (fun c_3 => ?_) (fun c_3 => ?_)
      · have c_3 : ¬ (a_2 = tk) := c_3
        refine lv_iinc (v := nI (k + 1)) (lv' := [(2, .int (nI (k + 1))), (0, .ref rk), (1, .int tk)]) hx hb dX5_find_20 hl (k := 0) rfl (nI_add k 1) (by decide) rfl (fun ls hl => ?_)
        refine lv_goto (tgt := 2) hx hb dX5_find_23 (by decide) ?_
        exact ih ls (lv_sub hl [0, 1, 2] rfl)
      · have c_3 : (a_2 = tk) := c_3
        refine lv_iload_n hx hb dX5_find_18 rfl (lv_at hl 0 rfl) ?_
        exact W.iret (v := nI k) hx hb hr (fun t ht hW => ⟨nI k, rfl, Or.inr ⟨k, by omega, rfl⟩, ht⟩) (fun q h => by cases h) dX5_find_19
set_option maxHeartbeats 4000000 in
set_option maxRecDepth 100000 in
theorem s_countCars (l : Launch) (dC : Nat → ClassId) (dI : Nat → Nat → Nat) (rk hd jm : Nat) (cI : ClassId) (fh : Nat → Int32) : Met l yX5_countCars wsX5_countCars ({ frames := 1, cells := 0, slots := 0, locals := 21 }) (va_Pc [.ref rk] (pt_B (dC, dI) [(rk, .inr (4, [.ref hd, .ref jm])), (hd, .inl (cI, 96, .inl fh))] [(cI, .int)])) (vp_Si (fun r : Int32 => True)) 0 0 (fun _ => False) := by
  refine Met.ofW (cc := cX5_countCars) (maxL := 3) (ret := (some .int)) (by decide) rfl ?_
  intro p e s m args below meth c s₁ B hml hv
  obtain ⟨rfl, hP, hK, hN⟩ := hv
  have hx := B.exec
  have hb := B.bytes
  have hr := B.returns
  have hts := atoms_spec (ws := wsX5_countCars) B.pre
  have hown : s.vm.findClass RX5 = some m.cls := findClass_of_methodNamed B.named
  have hlocks := B.notSynchronized
  have hP : va_P (dC, dI) vwCl [(rk, .inr (4, [.ref hd, .ref jm])), (hd, .inl (cI, 96, .inl fh))] s.heap := hP
  have hK : va_K (dC, dI) vwCl [(cI, .int)] s := hK
  have hl := lv_entry ([.ref rk]) (n := 3) (Nat.le_of_ble_eq_true rfl)
  rw [lg_entry_eq]
  generalize (lg_sl ([.ref rk]) ++ List.replicate (3 - (lg_sl ([.ref rk])).length) Slot.unset).toArray = ls at hl ⊢
  have hl : lv_has ls 3 [(0, .ref rk)] := hl
  refine lv_iconst (v := 0) hx hb dX5_countCars_0 (by decide) ?_
  refine lv_istore_n (lv' := [(1, .int 0), (0, .ref rk)]) hx hb dX5_countCars_1 rfl hl (by decide) rfl (fun ls hl => ?_)
  refine lv_iconst (v := 0) hx hb dX5_countCars_2 (by decide) ?_
  refine lv_istore_n (lv' := [(2, .int 0), (1, .int 0), (0, .ref rk)]) hx hb dX5_countCars_3 rfl hl (by decide) rfl (fun ls hl => ?_)
  refine pt_loop 96 (fun k ls => ∃ (q : Int32), lv_has ls 3 [(2, .int (nI k)), (1, .int q), (0, .ref rk)]) (fun ls hI => ?_) (fun k ls hk hI ih => ?_) (⟨_, lv_sub hl [0, 1, 2] rfl⟩)
  · obtain ⟨q, hl⟩ := hI
    have hl : lv_has ls 3 [(2, .int 96), (1, .int q), (0, .ref rk)] := hl
    refine lv_iload_n hx hb dX5_countCars_4 rfl (lv_at hl 0 rfl) ?_
    refine lv_bipush (v := 96) hx hb dX5_countCars_5 (by decide) ?_
    refine lv_icmp_ge (tgt := 27) hx hb dX5_countCars_7 (by decide) (fun _ => ?_) (fun c => absurd (by decide) c)
    refine lv_iload_n hx hb dX5_countCars_27 rfl (lv_at hl 1 rfl) ?_
    exact W.iret (v := q) hx hb hr (fun t ht hW => ⟨q, rfl, trivial, ht⟩) (fun q h => by cases h) dX5_countCars_28
  · obtain ⟨q, hl⟩ := hI
    have hl : lv_has ls 3 [(2, .int (nI k)), (1, .int q), (0, .ref rk)] := hl
    refine lv_iload_n hx hb dX5_countCars_4 rfl (lv_at hl 0 rfl) ?_
    refine lv_bipush (v := 96) hx hb dX5_countCars_5 (by decide) ?_
    refine lv_icmp_ge (tgt := 27) hx hb dX5_countCars_7 (by decide) (fun c_1 => ?_) (fun c_1 => ?_)
    · have c_1 : 96 ≤ k := (nI_leI (a := 96) (b := k) (by omega) (by omega)).mp c_1
      exact (by omega : False).elim
    · have c_1 : ¬ (96 ≤ k) := fun q_ => c_1 ((nI_leI (a := 96) (b := k) (by omega) (by omega)).mpr q_)
      refine lv_aload_n hx hb dX5_countCars_10 rfl (lv_at hl 2 rfl) ?_
      refine lv_iload_n hx hb dX5_countCars_11 rfl (lv_at hl 0 rfl) ?_
      refine pt_cSi (va_runV (As := [.int (nI k)]) (rest := []) ⟨hx, hb, hml, hown, hts⟩ (s_hasCar l dC dI rk hd jm cI fh k (by omega)) (cwV 1 hts gX5_countCars_X5_hasCar rfl rfl rfl (by decide +kernel) ⟨Nat.le_of_ble_eq_true rfl, Nat.le_of_ble_eq_true rfl⟩) ⟨pt_blind, va_recv hK hP (ci := 4) (q0 := 0) rfl rfl, pt_pre (w := [(rk, .inr (4, [.ref hd, .ref jm])), (hd, .inl (cI, 96, .inl fh))]) (tys := [(cI, .int)]) (hP.sub [0, 1] rfl) (hK.sub [0] rfl) hN⟩ rfl rfl hl.1 rfl (lv_room (Nat.le_of_ble_eq_true rfl)) dX5_countCars_12 ⟨Nat.le_of_ble_eq_true rfl, Nat.le_of_ble_eq_true rfl⟩) (fun r_2 hr_2 => ?_)
      refine lv_if_eq (tgt := 21) hx hb dX5_countCars_15 (by decide) (fun c_3 => ?_) (fun c_3 => ?_)
      · have c_3 : (r_2 = 0) := c_3
        refine lv_iinc (v := nI (k + 1)) (lv' := [(2, .int (nI (k + 1))), (1, .int q), (0, .ref rk)]) hx hb dX5_countCars_21 hl (k := 0) rfl (nI_add k 1) (by decide) rfl (fun ls hl => ?_)
        refine lv_goto (tgt := 4) hx hb dX5_countCars_24 (by decide) ?_
        exact ih ls (⟨_, lv_sub hl [0, 1, 2] rfl⟩)
      · have c_3 : ¬ (r_2 = 0) := c_3
        refine lv_iinc (v := q + 1) (lv' := [(1, .int (q + 1)), (2, .int (nI k)), (0, .ref rk)]) hx hb dX5_countCars_18 hl (k := 1) rfl rfl (by decide) rfl (fun ls hl => ?_)
        refine lv_iinc (v := nI (k + 1)) (lv' := [(2, .int (nI (k + 1))), (1, .int (q + 1)), (0, .ref rk)]) hx hb dX5_countCars_21 hl (k := 1) rfl (nI_add k 1) (by decide) rfl (fun ls hl => ?_)
        refine lv_goto (tgt := 4) hx hb dX5_countCars_24 (by decide) ?_
        exact ih ls (⟨_, lv_sub hl [0, 1, 2] rfl⟩)
set_option maxHeartbeats 4000000 in
set_option maxRecDepth 100000 in
theorem s_countFree (l : Launch) (dC : Nat → ClassId) (dI : Nat → Nat → Nat) (rk hd jm : Nat) (cI : ClassId) (fh : Nat → Int32) (L : Nat) (hL : L < 4) : Met l yX5_countFree wsX5_countFree ({ frames := 0, cells := 0, slots := 0, locals := 0 }) (va_Pc [.ref rk, .int (nI L)] (pt_B (dC, dI) [(rk, .inr (4, [.ref hd, .ref jm])), (hd, .inl (cI, 96, .inl fh))] [(cI, .int)])) (vp_Si (fun r : Int32 => True)) 0 0 (fun _ => False) := by
  refine Met.ofW (cc := cX5_countFree) (maxL := 5) (ret := (some .int)) (by decide) rfl ?_
  intro p e s m args below meth c s₁ B hml hv
  obtain ⟨rfl, hP, hK, hN⟩ := hv
  have hx := B.exec
  have hb := B.bytes
  have hr := B.returns
  have hts := atoms_spec (ws := wsX5_countFree) B.pre
  have hown : s.vm.findClass RX5 = some m.cls := findClass_of_methodNamed B.named
  have hlocks := B.notSynchronized
  have iX5 : ∀ w ∈ wsX50, w ∈ wsX5_countFree := by decide +kernel
  have hP : va_P (dC, dI) vwCl [(rk, .inr (4, [.ref hd, .ref jm])), (hd, .inl (cI, 96, .inl fh))] s.heap := hP
  have hK : va_K (dC, dI) vwCl [(cI, .int)] s := hK
  have hl := lv_entry ([.ref rk, .int (nI L)]) (n := 5) (Nat.le_of_ble_eq_true rfl)
  rw [lg_entry_eq]
  generalize (lg_sl ([.ref rk, .int (nI L)]) ++ List.replicate (5 - (lg_sl ([.ref rk, .int (nI L)])).length) Slot.unset).toArray = ls at hl ⊢
  have hl : lv_has ls 5 [(0, .ref rk), (1, .int (nI L))] := hl
  refine lv_iconst (v := 0) hx hb dX5_countFree_0 (by decide) ?_
  refine lv_istore_n (lv' := [(2, .int 0), (0, .ref rk), (1, .int (nI L))]) hx hb dX5_countFree_1 rfl hl (by decide) rfl (fun ls hl => ?_)
  refine lv_iload_n hx hb dX5_countFree_2 rfl (lv_at hl 2 rfl) ?_
  refine lv_bipush (v := 24) hx hb dX5_countFree_3 (by decide) ?_
  refine lv_imul hx hb dX5_countFree_5 ?_
  refine pt_topi (nI (L * 24)) (pk_mul L 24) ?_
  refine lv_istore_n (lv' := [(3, .int (nI (L * 24))), (2, .int 0), (0, .ref rk), (1, .int (nI L))]) hx hb dX5_countFree_6 rfl hl (by decide) rfl (fun ls hl => ?_)
  refine lv_iload_n hx hb dX5_countFree_7 rfl (lv_at hl 0 rfl) ?_
  refine lv_istore (lv' := [(4, .int (nI (L * 24))), (3, .int (nI (L * 24))), (2, .int 0), (0, .ref rk), (1, .int (nI L))]) hx hb dX5_countFree_8 hl (by decide) rfl (fun ls hl => ?_)
  refine pt_loop 24 (fun k ls => ∃ (q : Int32), lv_has ls 5 [(4, .int (nI (L * 24 + k))), (3, .int (nI (L * 24))), (2, .int q), (0, .ref rk), (1, .int (nI L))]) (fun ls hI => ?_) (fun k ls hk hI ih => ?_) (⟨_, lv_sub hl [0, 1, 2, 3, 4] rfl⟩)
  · obtain ⟨q, hl⟩ := hI
    have hl : lv_has ls 5 [(4, .int (nI (L * 24 + 24))), (3, .int (nI (L * 24))), (2, .int q), (0, .ref rk), (1, .int (nI L))] := hl
    refine lv_iload hx hb dX5_countFree_10 (lv_at hl 0 rfl) ?_
    refine lv_iload_n hx hb dX5_countFree_12 rfl (lv_at hl 1 rfl) ?_
    refine lv_bipush (v := 24) hx hb dX5_countFree_13 (by decide) ?_
    refine lv_iadd hx hb dX5_countFree_15 ?_
    refine pt_topi (nI (L * 24 + 24)) (nI_add (L * 24) 24) ?_
    refine lv_icmp_ge (tgt := 38) hx hb dX5_countFree_16 (by decide) (fun c_1 => ?_) (fun c_1 => ?_)
    · have c_1 : L * 24 + 24 ≤ L * 24 + 24 := (nI_leI (a := L * 24 + 24) (b := L * 24 + 24) (by omega) (by omega)).mp c_1
      refine lv_iload_n hx hb dX5_countFree_38 rfl (lv_at hl 2 rfl) ?_
      exact W.iret (v := q) hx hb hr (fun t ht hW => ⟨q, rfl, trivial, ht⟩) (fun q h => by cases h) dX5_countFree_39
    · have c_1 : ¬ (L * 24 + 24 ≤ L * 24 + 24) := fun q_ => c_1 ((nI_leI (a := L * 24 + 24) (b := L * 24 + 24) (by omega) (by omega)).mpr q_)
      exact (by omega : False).elim
  · obtain ⟨q, hl⟩ := hI
    have hl : lv_has ls 5 [(4, .int (nI (L * 24 + k))), (3, .int (nI (L * 24))), (2, .int q), (0, .ref rk), (1, .int (nI L))] := hl
    refine lv_iload hx hb dX5_countFree_10 (lv_at hl 0 rfl) ?_
    refine lv_iload_n hx hb dX5_countFree_12 rfl (lv_at hl 1 rfl) ?_
    refine lv_bipush (v := 24) hx hb dX5_countFree_13 (by decide) ?_
    refine lv_iadd hx hb dX5_countFree_15 ?_
    refine pt_topi (nI (L * 24 + 24)) (nI_add (L * 24) 24) ?_
    refine lv_icmp_ge (tgt := 38) hx hb dX5_countFree_16 (by decide) (fun c_2 => ?_) (fun c_2 => ?_)
    · have c_2 : L * 24 + 24 ≤ L * 24 + k := (nI_leI (a := L * 24 + 24) (b := L * 24 + k) (by omega) (by omega)).mp c_2
      exact (by omega : False).elim
    · have c_2 : ¬ (L * 24 + 24 ≤ L * 24 + k) := fun q_ => c_2 ((nI_leI (a := L * 24 + 24) (b := L * 24 + k) (by omega) (by omega)).mpr q_)
      refine lv_aload_n hx hb dX5_countFree_19 rfl (lv_at hl 3 rfl) ?_
      refine va_get (D := (dC, dI)) (ci := 4) (v := .ref hd) (C := RX5) (T := TX5) (N := 2) hx hb hts iX5 hown hK hP 0 rfl rfl 0 (by decide) (hts (.fieldLink RX5 9 "ParkTower$Rack" "held" "[I") (by decide +kernel)) (fun _ h9 => h9) rfl dX5_countFree_20 ?_
      refine lv_iload hx hb dX5_countFree_23 (lv_at hl 0 rfl) ?_
      refine va_iald hx hb hK hP 1 0 rfl rfl (vp_in_nI (n := L * 24 + k) (by omega) (by decide)) dX5_countFree_25 ?_
      refine lv_topi (fun a_3 ea_3 => ?_)
      refine lv_if_ne (tgt := 32) hx hb dX5_countFree_26 (by decide) (fun c_4 => ?_) (fun c_4 => ?_)
      · have c_4 : ¬ (a_3 = 0) := c_4
        refine lv_iinc (v := nI (L * 24 + k + 1)) (lv' := [(4, .int (nI (L * 24 + k + 1))), (3, .int (nI (L * 24))), (2, .int q), (0, .ref rk), (1, .int (nI L))]) hx hb dX5_countFree_32 hl (k := 0) rfl (nI_add (L * 24 + k) 1) (by decide) rfl (fun ls hl => ?_)
        refine lv_goto (tgt := 10) hx hb dX5_countFree_35 (by decide) ?_
        exact ih ls (⟨_, lv_sub hl [0, 1, 2, 3, 4] rfl⟩)
      · have c_4 : (a_3 = 0) := c_4
        refine lv_iinc (v := q + 1) (lv' := [(2, .int (q + 1)), (4, .int (nI (L * 24 + k))), (3, .int (nI (L * 24))), (0, .ref rk), (1, .int (nI L))]) hx hb dX5_countFree_29 hl (k := 2) rfl rfl (by decide) rfl (fun ls hl => ?_)
        refine lv_iinc (v := nI (L * 24 + k + 1)) (lv' := [(4, .int (nI (L * 24 + k + 1))), (2, .int (q + 1)), (3, .int (nI (L * 24))), (0, .ref rk), (1, .int (nI L))]) hx hb dX5_countFree_32 hl (k := 1) rfl (nI_add (L * 24 + k) 1) (by decide) rfl (fun ls hl => ?_)
        refine lv_goto (tgt := 10) hx hb dX5_countFree_35 (by decide) ?_
        exact ih ls (⟨_, lv_sub hl [0, 2, 1, 3, 4] rfl⟩)
set_option maxHeartbeats 4000000 in
set_option maxRecDepth 100000 in
theorem s_hasRoom (l : Launch) (dC : Nat → ClassId) (dI : Nat → Nat → Nat) (rk hd jm : Nat) (cI cZ : ClassId) (fh fj : Nat → Int32) (L : Nat) (hL : L < 4) : Met l yX5_hasRoom wsX5_hasRoom ({ frames := 1, cells := 0, slots := 0, locals := 24 }) (va_Pc [.ref rk, .int (nI L)] (pt_B (dC, dI) [(rk, .inr (4, [.ref hd, .ref jm])), (hd, .inl (cI, 96, .inl fh)), (jm, .inl (cZ, 4, .inl fj))] [(cI, .int), (cZ, .boolean)])) (vp_Si (fun r : Int32 => True)) 0 0 (fun _ => False) := by
  refine Met.ofW (cc := cX5_hasRoom) (maxL := 2) (ret := (some .boolean)) (by decide) rfl ?_
  intro p e s m args below meth c s₁ B hml hv
  obtain ⟨rfl, hP, hK, hN⟩ := hv
  have hx := B.exec
  have hb := B.bytes
  have hr := B.returns
  have hts := atoms_spec (ws := wsX5_hasRoom) B.pre
  have hown : s.vm.findClass RX5 = some m.cls := findClass_of_methodNamed B.named
  have hlocks := B.notSynchronized
  have iX5 : ∀ w ∈ wsX50, w ∈ wsX5_hasRoom := by decide +kernel
  have hP : va_P (dC, dI) vwCl [(rk, .inr (4, [.ref hd, .ref jm])), (hd, .inl (cI, 96, .inl fh)), (jm, .inl (cZ, 4, .inl fj))] s.heap := hP
  have hK : va_K (dC, dI) vwCl [(cI, .int), (cZ, .boolean)] s := hK
  have hl := lv_entry ([.ref rk, .int (nI L)]) (n := 2) (Nat.le_of_ble_eq_true rfl)
  rw [lg_entry_eq]
  generalize (lg_sl ([.ref rk, .int (nI L)]) ++ List.replicate (2 - (lg_sl ([.ref rk, .int (nI L)])).length) Slot.unset).toArray = ls at hl ⊢
  have hl : lv_has ls 2 [(0, .ref rk), (1, .int (nI L))] := hl
  refine lv_aload_n hx hb dX5_hasRoom_0 rfl (lv_at hl 0 rfl) ?_
  refine va_get (D := (dC, dI)) (ci := 4) (v := .ref jm) (C := RX5) (T := TX5) (N := 2) hx hb hts iX5 hown hK hP 0 rfl rfl 1 (by decide) (hts (.fieldLink RX5 15 "ParkTower$Rack" "jammed" "[Z") (by decide +kernel)) (fun _ h9 => h9) rfl dX5_hasRoom_1 ?_
  refine lv_iload_n hx hb dX5_hasRoom_4 rfl (lv_at hl 1 rfl) ?_
  refine va_zald hx hb hK hP 2 1 rfl rfl (vp_in_nI (n := L) (by omega) (by decide)) dX5_hasRoom_5 ?_
  refine lv_topi (fun a_1 ea_1 => ?_)
  refine lv_if_ne (tgt := 22) hx hb dX5_hasRoom_6 (by decide) (fun c_2 => ?_) (fun c_2 => ?_)
  · have c_2 : ¬ (a_1 = 0) := c_2
    refine lv_iconst (v := 0) hx hb dX5_hasRoom_22 (by decide) ?_
    exact W.zret (v := 0) (ty := .boolean) hx hb hr rfl (fun t ht hW => ⟨0, rfl, trivial, ht⟩) (fun q h => by cases h) dX5_hasRoom_23
  · have c_2 : (a_1 = 0) := c_2
    refine lv_aload_n hx hb dX5_hasRoom_9 rfl (lv_at hl 0 rfl) ?_
    refine lv_iload_n hx hb dX5_hasRoom_10 rfl (lv_at hl 1 rfl) ?_
    refine pt_cSi (va_runV (As := [.int (nI L)]) (rest := []) ⟨hx, hb, hml, hown, hts⟩ (s_countFree l dC dI rk hd jm cI fh L hL) (cwV 1 hts gX5_hasRoom_X5_countFree rfl rfl rfl (by decide +kernel) ⟨Nat.le_of_ble_eq_true rfl, Nat.le_of_ble_eq_true rfl⟩) ⟨pt_blind, va_recv hK hP (ci := 4) (q0 := 0) rfl rfl, pt_pre (w := [(rk, .inr (4, [.ref hd, .ref jm])), (hd, .inl (cI, 96, .inl fh))]) (tys := [(cI, .int)]) (hP.sub [0, 1] rfl) (hK.sub [0] rfl) hN⟩ rfl rfl hl.1 rfl (lv_room (Nat.le_of_ble_eq_true rfl)) dX5_hasRoom_11 ⟨Nat.le_of_ble_eq_true rfl, Nat.le_of_ble_eq_true rfl⟩) (fun r_3 hr_3 => ?_)
    refine lv_iconst (v := 2) hx hb dX5_hasRoom_14 (by decide) ?_
    refine lv_icmp_lt (tgt := 22) hx hb dX5_hasRoom_15 (by decide) (fun c_4 => ?_) (fun c_4 => ?_)
    · have c_4 : (r_3 < 2) := c_4
      refine lv_iconst (v := 0) hx hb dX5_hasRoom_22 (by decide) ?_
      exact W.zret (v := 0) (ty := .boolean) hx hb hr rfl (fun t ht hW => ⟨0, rfl, trivial, ht⟩) (fun q h => by cases h) dX5_hasRoom_23
    · have c_4 : ¬ (r_3 < 2) := c_4
      refine lv_iconst (v := 1) hx hb dX5_hasRoom_18 (by decide) ?_
      refine lv_goto (tgt := 23) hx hb dX5_hasRoom_19 (by decide) ?_
      exact W.zret (v := 1) (ty := .boolean) hx hb hr rfl (fun t ht hW => ⟨1, rfl, trivial, ht⟩) (fun q h => by cases h) dX5_hasRoom_23
set_option maxHeartbeats 4000000 in
set_option maxRecDepth 100000 in
theorem s_firstCell (l : Launch) (dC : Nat → ClassId) (dI : Nat → Nat → Nat) (rk hd jm : Nat) (cI : ClassId) (fh : Nat → Int32) (L : Nat) (hL : L < 4) : Met l yX5_firstCellToStore wsX5_firstCellToStore ({ frames := 1, cells := 0, slots := 0, locals := 21 }) (va_Pc [.ref rk, .int (nI L)] (pt_B (dC, dI) [(rk, .inr (4, [.ref hd, .ref jm])), (hd, .inl (cI, 96, .inl fh))] [(cI, .int)])) (vp_Si (fun r : Int32 => r = (-1) ∨ ∃ j : Nat, j < 96 ∧ r = nI j)) 0 0 (fun _ => False) := by
  refine Met.ofW (cc := cX5_firstCellToStore) (maxL := 6) (ret := (some .int)) (by decide) rfl ?_
  intro p e s m args below meth c s₁ B hml hv
  obtain ⟨rfl, hP, hK, hN⟩ := hv
  have hx := B.exec
  have hb := B.bytes
  have hr := B.returns
  have hts := atoms_spec (ws := wsX5_firstCellToStore) B.pre
  have hown : s.vm.findClass RX5 = some m.cls := findClass_of_methodNamed B.named
  have hlocks := B.notSynchronized
  have iX5 : ∀ w ∈ wsX50, w ∈ wsX5_firstCellToStore := by decide +kernel
  have hP : va_P (dC, dI) vwCl [(rk, .inr (4, [.ref hd, .ref jm])), (hd, .inl (cI, 96, .inl fh))] s.heap := hP
  have hK : va_K (dC, dI) vwCl [(cI, .int)] s := hK
  have hl := lv_entry ([.ref rk, .int (nI L)]) (n := 6) (Nat.le_of_ble_eq_true rfl)
  rw [lg_entry_eq]
  generalize (lg_sl ([.ref rk, .int (nI L)]) ++ List.replicate (6 - (lg_sl ([.ref rk, .int (nI L)])).length) Slot.unset).toArray = ls at hl ⊢
  have hl : lv_has ls 6 [(0, .ref rk), (1, .int (nI L))] := hl
  refine lv_iconst (v := 0) hx hb dX5_firstCellToStore_0 (by decide) ?_
  refine lv_istore_n (lv' := [(2, .int 0), (0, .ref rk), (1, .int (nI L))]) hx hb dX5_firstCellToStore_1 rfl hl (by decide) rfl (fun ls hl => ?_)
  refine pt_loop 6 (fun k ls => lv_has ls 6 [(2, .int (nI k)), (0, .ref rk), (1, .int (nI L))]) (fun ls hI => ?_) (fun k ls hk hI ih => ?_) (lv_sub hl [0, 1, 2] rfl)
  · have hl := hI
    have hl : lv_has ls 6 [(2, .int 6), (0, .ref rk), (1, .int (nI L))] := hl
    refine lv_iload_n hx hb dX5_firstCellToStore_2 rfl (lv_at hl 0 rfl) ?_
    refine lv_bipush (v := 6) hx hb dX5_firstCellToStore_3 (by decide) ?_
    refine lv_icmp_ge (tgt := 93) hx hb dX5_firstCellToStore_5 (by decide) (fun _ => ?_) (fun c => absurd (by decide) c)
    refine lv_iconst (v := (-1)) hx hb dX5_firstCellToStore_93 (by decide) ?_
    exact W.iret (v := (-1)) hx hb hr (fun t ht hW => ⟨(-1), rfl, Or.inl rfl, ht⟩) (fun q h => by cases h) dX5_firstCellToStore_94
  · have hl := hI
    have hl : lv_has ls 6 [(2, .int (nI k)), (0, .ref rk), (1, .int (nI L))] := hl
    refine lv_iload_n hx hb dX5_firstCellToStore_2 rfl (lv_at hl 0 rfl) ?_
    refine lv_bipush (v := 6) hx hb dX5_firstCellToStore_3 (by decide) ?_
    refine lv_icmp_ge (tgt := 93) hx hb dX5_firstCellToStore_5 (by decide) (fun c_1 => ?_) (fun c_1 => ?_)
    · have c_1 : 6 ≤ k := (nI_leI (a := 6) (b := k) (by omega) (by omega)).mp c_1
      exact (by omega : False).elim
    · have c_1 : ¬ (6 ≤ k) := fun q_ => c_1 ((nI_leI (a := 6) (b := k) (by omega) (by omega)).mpr q_)
      refine lv_iconst (v := 0) hx hb dX5_firstCellToStore_8 (by decide) ?_
      refine lv_istore_n (lv' := [(3, .int 0), (2, .int (nI k)), (0, .ref rk), (1, .int (nI L))]) hx hb dX5_firstCellToStore_9 rfl hl (by decide) rfl (fun ls hl => ?_)
      refine pt_loop 2 (fun n ls => lv_has ls 6 [(3, .int (nI n)), (2, .int (nI k)), (0, .ref rk), (1, .int (nI L))]) (fun ls hI => ?_) (fun n ls hk hI ih => ?_) (lv_sub hl [0, 1, 2, 3] rfl)
      · have hl := hI
        have hl : lv_has ls 6 [(3, .int 2), (2, .int (nI k)), (0, .ref rk), (1, .int (nI L))] := hl
        refine lv_iload_n hx hb dX5_firstCellToStore_10 rfl (lv_at hl 0 rfl) ?_
        refine lv_iconst (v := 2) hx hb dX5_firstCellToStore_11 (by decide) ?_
        refine lv_icmp_ge (tgt := 87) hx hb dX5_firstCellToStore_12 (by decide) (fun _ => ?_) (fun c => absurd (by decide) c)
        refine lv_iinc (v := nI (k + 1)) (lv' := [(2, .int (nI (k + 1))), (3, .int 2), (0, .ref rk), (1, .int (nI L))]) hx hb dX5_firstCellToStore_87 hl (k := 1) rfl (nI_add k 1) (by decide) rfl (fun ls hl => ?_)
        refine lv_goto (tgt := 2) hx hb dX5_firstCellToStore_90 (by decide) ?_
        exact ih ls (lv_sub hl [0, 2, 3] rfl)
      · have hl := hI
        have hl : lv_has ls 6 [(3, .int (nI n)), (2, .int (nI k)), (0, .ref rk), (1, .int (nI L))] := hl
        refine lv_iload_n hx hb dX5_firstCellToStore_10 rfl (lv_at hl 0 rfl) ?_
        refine lv_iconst (v := 2) hx hb dX5_firstCellToStore_11 (by decide) ?_
        refine lv_icmp_ge (tgt := 87) hx hb dX5_firstCellToStore_12 (by decide) (fun c_2 => ?_) (fun c_2 => ?_)
        · have c_2 : 2 ≤ n := (nI_leI (a := 2) (b := n) (by omega) (by omega)).mp c_2
          exact (by omega : False).elim
        · have c_2 : ¬ (2 ≤ n) := fun q_ => c_2 ((nI_leI (a := 2) (b := n) (by omega) (by omega)).mpr q_)
          refine lv_iload_n hx hb dX5_firstCellToStore_15 rfl (lv_at hl 3 rfl) ?_
          refine lv_bipush (v := 24) hx hb dX5_firstCellToStore_16 (by decide) ?_
          refine lv_imul hx hb dX5_firstCellToStore_18 ?_
          refine pt_topi (nI (L * 24)) (pk_mul L 24) ?_
          refine lv_iload_n hx hb dX5_firstCellToStore_19 rfl (lv_at hl 0 rfl) ?_
          refine lv_bipush (v := 12) hx hb dX5_firstCellToStore_20 (by decide) ?_
          refine lv_imul hx hb dX5_firstCellToStore_22 ?_
          refine pt_topi (nI (n * 12)) (pk_mul n 12) ?_
          refine lv_iadd hx hb dX5_firstCellToStore_23 ?_
          refine pt_topi (nI (L * 24 + (n * 12))) (nI_add (L * 24) (n * 12)) ?_
          refine lv_iconst (v := 2) hx hb dX5_firstCellToStore_24 (by decide) ?_
          refine lv_iload_n hx hb dX5_firstCellToStore_25 rfl (lv_at hl 1 rfl) ?_
          refine lv_imul hx hb dX5_firstCellToStore_26 ?_
          refine pt_topi (nI (2 * k)) (pk_mul 2 k) ?_
          refine lv_iadd hx hb dX5_firstCellToStore_27 ?_
          refine pt_topi (nI (L * 24 + (n * 12) + (2 * k))) (nI_add (L * 24 + (n * 12)) (2 * k)) ?_
          refine lv_istore (lv' := [(4, .int (nI (L * 24 + (n * 12) + (2 * k)))), (3, .int (nI n)), (2, .int (nI k)), (0, .ref rk), (1, .int (nI L))]) hx hb dX5_firstCellToStore_28 hl (by decide) rfl (fun ls hl => ?_)
          refine lv_iload hx hb dX5_firstCellToStore_30 (lv_at hl 0 rfl) ?_
          refine lv_iconst (v := 1) hx hb dX5_firstCellToStore_32 (by decide) ?_
          refine lv_iadd hx hb dX5_firstCellToStore_33 ?_
          refine pt_topi (nI (L * 24 + (n * 12) + (2 * k) + 1)) (nI_add (L * 24 + (n * 12) + (2 * k)) 1) ?_
          refine lv_istore (lv' := [(5, .int (nI (L * 24 + (n * 12) + (2 * k) + 1))), (4, .int (nI (L * 24 + (n * 12) + (2 * k)))), (3, .int (nI n)), (2, .int (nI k)), (0, .ref rk), (1, .int (nI L))]) hx hb dX5_firstCellToStore_34 hl (by decide) rfl (fun ls hl => ?_)
          refine lv_aload_n hx hb dX5_firstCellToStore_36 rfl (lv_at hl 4 rfl) ?_
          refine va_get (D := (dC, dI)) (ci := 4) (v := .ref hd) (C := RX5) (T := TX5) (N := 2) hx hb hts iX5 hown hK hP 0 rfl rfl 0 (by decide) (hts (.fieldLink RX5 9 "ParkTower$Rack" "held" "[I") (by decide +kernel)) (fun _ h9 => h9) rfl dX5_firstCellToStore_37 ?_
          refine lv_iload hx hb dX5_firstCellToStore_40 (lv_at hl 1 rfl) ?_
          refine va_iald hx hb hK hP 1 0 rfl rfl (vp_in_nI (n := L * 24 + (n * 12) + (2 * k)) (by omega) (by decide)) dX5_firstCellToStore_42 ?_
          refine lv_topi (fun a_3 ea_3 => ?_)
          refine lv_if_ne (tgt := 59) hx hb dX5_firstCellToStore_43 (by decide) (fun c_4 => ?_) (fun c_4 => ?_)
          · have c_4 : ¬ (a_3 = 0) := c_4
            refine lv_aload_n hx hb dX5_firstCellToStore_59 rfl (lv_at hl 4 rfl) ?_
            refine va_get (D := (dC, dI)) (ci := 4) (v := .ref hd) (C := RX5) (T := TX5) (N := 2) hx hb hts iX5 hown hK hP 0 rfl rfl 0 (by decide) (hts (.fieldLink RX5 9 "ParkTower$Rack" "held" "[I") (by decide +kernel)) (fun _ h9 => h9) rfl dX5_firstCellToStore_60 ?_
            refine lv_iload hx hb dX5_firstCellToStore_63 (lv_at hl 1 rfl) ?_
            refine va_iald hx hb hK hP 1 0 rfl rfl (vp_in_nI (n := L * 24 + (n * 12) + (2 * k)) (by omega) (by decide)) dX5_firstCellToStore_65 ?_
            refine lv_topi (fun a_5 ea_5 => ?_)
            refine lv_if_ne (tgt := 81) hx hb dX5_firstCellToStore_66 (by decide) (fun c_6 => ?_) (fun c_6 => ?_)
            · have c_6 : ¬ (a_5 = 0) := c_6
              refine lv_iinc (v := nI (n + 1)) (lv' := [(3, .int (nI (n + 1))), (5, .int (nI (L * 24 + (n * 12) + (2 * k) + 1))), (4, .int (nI (L * 24 + (n * 12) + (2 * k)))), (2, .int (nI k)), (0, .ref rk), (1, .int (nI L))]) hx hb dX5_firstCellToStore_81 hl (k := 2) rfl (nI_add n 1) (by decide) rfl (fun ls hl => ?_)
              refine lv_goto (tgt := 10) hx hb dX5_firstCellToStore_84 (by decide) ?_
              exact ih ls (lv_sub hl [0, 3, 4, 5] rfl)
            · have c_6 : (a_5 = 0) := c_6
              refine lv_aload_n hx hb dX5_firstCellToStore_69 rfl (lv_at hl 4 rfl) ?_
              refine lv_iload hx hb dX5_firstCellToStore_70 (lv_at hl 0 rfl) ?_
              refine pt_cSi (va_runV (As := [.int (nI (L * 24 + (n * 12) + (2 * k) + 1))]) (rest := []) ⟨hx, hb, hml, hown, hts⟩ (s_hasCar l dC dI rk hd jm cI fh (L * 24 + (n * 12) + (2 * k) + 1) (by omega)) (cwV 1 hts gX5_firstCellToStore_X5_hasCar rfl rfl rfl (by decide +kernel) ⟨Nat.le_of_ble_eq_true rfl, Nat.le_of_ble_eq_true rfl⟩) ⟨pt_blind, va_recv hK hP (ci := 4) (q0 := 0) rfl rfl, pt_pre (w := [(rk, .inr (4, [.ref hd, .ref jm])), (hd, .inl (cI, 96, .inl fh))]) (tys := [(cI, .int)]) (hP.sub [0, 1] rfl) (hK.sub [0] rfl) hN⟩ rfl rfl hl.1 rfl (lv_room (Nat.le_of_ble_eq_true rfl)) dX5_firstCellToStore_72 ⟨Nat.le_of_ble_eq_true rfl, Nat.le_of_ble_eq_true rfl⟩) (fun r_7 hr_7 => ?_)
              refine lv_if_eq (tgt := 81) hx hb dX5_firstCellToStore_75 (by decide) (fun c_8 => ?_) (fun c_8 => ?_)
              · have c_8 : (r_7 = 0) := c_8
                refine lv_iinc (v := nI (n + 1)) (lv' := [(3, .int (nI (n + 1))), (5, .int (nI (L * 24 + (n * 12) + (2 * k) + 1))), (4, .int (nI (L * 24 + (n * 12) + (2 * k)))), (2, .int (nI k)), (0, .ref rk), (1, .int (nI L))]) hx hb dX5_firstCellToStore_81 hl (k := 2) rfl (nI_add n 1) (by decide) rfl (fun ls hl => ?_)
                refine lv_goto (tgt := 10) hx hb dX5_firstCellToStore_84 (by decide) ?_
                exact ih ls (lv_sub hl [0, 3, 4, 5] rfl)
              · have c_8 : ¬ (r_7 = 0) := c_8
                refine lv_iload hx hb dX5_firstCellToStore_78 (lv_at hl 1 rfl) ?_
                exact W.iret (v := nI (L * 24 + (n * 12) + (2 * k))) hx hb hr (fun t ht hW => ⟨nI (L * 24 + (n * 12) + (2 * k)), rfl, Or.inr ⟨L * 24 + (n * 12) + (2 * k), by omega, rfl⟩, ht⟩) (fun q h => by cases h) dX5_firstCellToStore_80
          · have c_4 : (a_3 = 0) := c_4
            refine lv_aload_n hx hb dX5_firstCellToStore_46 rfl (lv_at hl 4 rfl) ?_
            refine va_get (D := (dC, dI)) (ci := 4) (v := .ref hd) (C := RX5) (T := TX5) (N := 2) hx hb hts iX5 hown hK hP 0 rfl rfl 0 (by decide) (hts (.fieldLink RX5 9 "ParkTower$Rack" "held" "[I") (by decide +kernel)) (fun _ h9 => h9) rfl dX5_firstCellToStore_47 ?_
            refine lv_iload hx hb dX5_firstCellToStore_50 (lv_at hl 0 rfl) ?_
            refine va_iald hx hb hK hP 1 0 rfl rfl (vp_in_nI (n := L * 24 + (n * 12) + (2 * k) + 1) (by omega) (by decide)) dX5_firstCellToStore_52 ?_
            refine lv_topi (fun a_9 ea_9 => ?_)
            refine lv_if_ne (tgt := 59) hx hb dX5_firstCellToStore_53 (by decide) (fun c_10 => ?_) (fun c_10 => ?_)
            · have c_10 : ¬ (a_9 = 0) := c_10
              refine lv_aload_n hx hb dX5_firstCellToStore_59 rfl (lv_at hl 4 rfl) ?_
              refine va_get (D := (dC, dI)) (ci := 4) (v := .ref hd) (C := RX5) (T := TX5) (N := 2) hx hb hts iX5 hown hK hP 0 rfl rfl 0 (by decide) (hts (.fieldLink RX5 9 "ParkTower$Rack" "held" "[I") (by decide +kernel)) (fun _ h9 => h9) rfl dX5_firstCellToStore_60 ?_
              refine lv_iload hx hb dX5_firstCellToStore_63 (lv_at hl 1 rfl) ?_
              refine va_iald hx hb hK hP 1 0 rfl rfl (vp_in_nI (n := L * 24 + (n * 12) + (2 * k)) (by omega) (by decide)) dX5_firstCellToStore_65 ?_
              refine lv_topi (fun a_11 ea_11 => ?_)
              refine lv_if_ne (tgt := 81) hx hb dX5_firstCellToStore_66 (by decide) (fun c_12 => ?_) (fun c_12 => ?_)
              · have c_12 : ¬ (a_11 = 0) := c_12
                refine lv_iinc (v := nI (n + 1)) (lv' := [(3, .int (nI (n + 1))), (5, .int (nI (L * 24 + (n * 12) + (2 * k) + 1))), (4, .int (nI (L * 24 + (n * 12) + (2 * k)))), (2, .int (nI k)), (0, .ref rk), (1, .int (nI L))]) hx hb dX5_firstCellToStore_81 hl (k := 2) rfl (nI_add n 1) (by decide) rfl (fun ls hl => ?_)
                refine lv_goto (tgt := 10) hx hb dX5_firstCellToStore_84 (by decide) ?_
                exact ih ls (lv_sub hl [0, 3, 4, 5] rfl)
              · have c_12 : (a_11 = 0) := c_12
                refine lv_aload_n hx hb dX5_firstCellToStore_69 rfl (lv_at hl 4 rfl) ?_
                refine lv_iload hx hb dX5_firstCellToStore_70 (lv_at hl 0 rfl) ?_
                refine pt_cSi (va_runV (As := [.int (nI (L * 24 + (n * 12) + (2 * k) + 1))]) (rest := []) ⟨hx, hb, hml, hown, hts⟩ (s_hasCar l dC dI rk hd jm cI fh (L * 24 + (n * 12) + (2 * k) + 1) (by omega)) (cwV 1 hts gX5_firstCellToStore_X5_hasCar rfl rfl rfl (by decide +kernel) ⟨Nat.le_of_ble_eq_true rfl, Nat.le_of_ble_eq_true rfl⟩) ⟨pt_blind, va_recv hK hP (ci := 4) (q0 := 0) rfl rfl, pt_pre (w := [(rk, .inr (4, [.ref hd, .ref jm])), (hd, .inl (cI, 96, .inl fh))]) (tys := [(cI, .int)]) (hP.sub [0, 1] rfl) (hK.sub [0] rfl) hN⟩ rfl rfl hl.1 rfl (lv_room (Nat.le_of_ble_eq_true rfl)) dX5_firstCellToStore_72 ⟨Nat.le_of_ble_eq_true rfl, Nat.le_of_ble_eq_true rfl⟩) (fun r_13 hr_13 => ?_)
                refine lv_if_eq (tgt := 81) hx hb dX5_firstCellToStore_75 (by decide) (fun c_14 => ?_) (fun c_14 => ?_)
                · have c_14 : (r_13 = 0) := c_14
                  refine lv_iinc (v := nI (n + 1)) (lv' := [(3, .int (nI (n + 1))), (5, .int (nI (L * 24 + (n * 12) + (2 * k) + 1))), (4, .int (nI (L * 24 + (n * 12) + (2 * k)))), (2, .int (nI k)), (0, .ref rk), (1, .int (nI L))]) hx hb dX5_firstCellToStore_81 hl (k := 2) rfl (nI_add n 1) (by decide) rfl (fun ls hl => ?_)
                  refine lv_goto (tgt := 10) hx hb dX5_firstCellToStore_84 (by decide) ?_
                  exact ih ls (lv_sub hl [0, 3, 4, 5] rfl)
                · have c_14 : ¬ (r_13 = 0) := c_14
                  refine lv_iload hx hb dX5_firstCellToStore_78 (lv_at hl 1 rfl) ?_
                  exact W.iret (v := nI (L * 24 + (n * 12) + (2 * k))) hx hb hr (fun t ht hW => ⟨nI (L * 24 + (n * 12) + (2 * k)), rfl, Or.inr ⟨L * 24 + (n * 12) + (2 * k), by omega, rfl⟩, ht⟩) (fun q h => by cases h) dX5_firstCellToStore_80
            · have c_10 : (a_9 = 0) := c_10
              refine lv_iload hx hb dX5_firstCellToStore_56 (lv_at hl 0 rfl) ?_
              exact W.iret (v := nI (L * 24 + (n * 12) + (2 * k) + 1)) hx hb hr (fun t ht hW => ⟨nI (L * 24 + (n * 12) + (2 * k) + 1), rfl, Or.inr ⟨L * 24 + (n * 12) + (2 * k) + 1, by omega, rfl⟩, ht⟩) (fun q h => by cases h) dX5_firstCellToStore_58
set_option maxHeartbeats 4000000 in
set_option maxRecDepth 100000 in
theorem s_leastGoal (l : Launch) (dC : Nat → ClassId) (dI : Nat → Nat → Nat) (rk hd jm : Nat) (cI : ClassId) (fh : Nat → Int32) (L : Nat) (hL : L < 4) : Met l yX5_leastGoal wsX5_leastGoal ({ frames := 2, cells := 0, slots := 0, locals := 42 }) (va_Pc [.ref rk, .int (nI L)] (pt_B (dC, dI) [(rk, .inr (4, [.ref hd, .ref jm])), (hd, .inl (cI, 96, .inl fh))] [(cI, .int)])) (vp_Si (fun r : Int32 => r = (-1) ∨ ∃ j : Nat, j < 96 ∧ r = nI j)) 0 0 (fun _ => False) := by
  refine Met.ofW (cc := cX5_leastGoal) (maxL := 5) (ret := (some .int)) (by decide) rfl ?_
  intro p e s m args below meth c s₁ B hml hv
  obtain ⟨rfl, hP, hK, hN⟩ := hv
  have hx := B.exec
  have hb := B.bytes
  have hr := B.returns
  have hts := atoms_spec (ws := wsX5_leastGoal) B.pre
  have hown : s.vm.findClass RX5 = some m.cls := findClass_of_methodNamed B.named
  have hlocks := B.notSynchronized
  have iX5 : ∀ w ∈ wsX50, w ∈ wsX5_leastGoal := by decide +kernel
  have hP : va_P (dC, dI) vwCl [(rk, .inr (4, [.ref hd, .ref jm])), (hd, .inl (cI, 96, .inl fh))] s.heap := hP
  have hK : va_K (dC, dI) vwCl [(cI, .int)] s := hK
  have hl := lv_entry ([.ref rk, .int (nI L)]) (n := 5) (Nat.le_of_ble_eq_true rfl)
  rw [lg_entry_eq]
  generalize (lg_sl ([.ref rk, .int (nI L)]) ++ List.replicate (5 - (lg_sl ([.ref rk, .int (nI L)])).length) Slot.unset).toArray = ls at hl ⊢
  have hl : lv_has ls 5 [(0, .ref rk), (1, .int (nI L))] := hl
  refine lv_iload_n hx hb dX5_leastGoal_0 rfl (lv_at hl 1 rfl) ?_
  refine lv_bipush (v := 24) hx hb dX5_leastGoal_1 (by decide) ?_
  refine lv_imul hx hb dX5_leastGoal_3 ?_
  refine pt_topi (nI (L * 24)) (pk_mul L 24) ?_
  refine lv_istore_n (lv' := [(2, .int (nI (L * 24))), (0, .ref rk), (1, .int (nI L))]) hx hb dX5_leastGoal_4 rfl hl (by decide) rfl (fun ls hl => ?_)
  refine lv_iload_n hx hb dX5_leastGoal_5 rfl (lv_at hl 0 rfl) ?_
  refine lv_istore_n (lv' := [(3, .int (nI (L * 24))), (2, .int (nI (L * 24))), (0, .ref rk), (1, .int (nI L))]) hx hb dX5_leastGoal_6 rfl hl (by decide) rfl (fun ls hl => ?_)
  refine pt_loop 24 (fun k ls => lv_has ls 5 [(3, .int (nI (L * 24 + k))), (2, .int (nI (L * 24))), (0, .ref rk), (1, .int (nI L))]) (fun ls hI => ?_) (fun k ls hk hI ih => ?_) (lv_sub hl [0, 1, 2, 3] rfl)
  · have hl := hI
    have hl : lv_has ls 5 [(3, .int (nI (L * 24 + 24))), (2, .int (nI (L * 24))), (0, .ref rk), (1, .int (nI L))] := hl
    refine lv_iload_n hx hb dX5_leastGoal_7 rfl (lv_at hl 0 rfl) ?_
    refine lv_iload_n hx hb dX5_leastGoal_8 rfl (lv_at hl 1 rfl) ?_
    refine lv_bipush (v := 24) hx hb dX5_leastGoal_9 (by decide) ?_
    refine lv_iadd hx hb dX5_leastGoal_11 ?_
    refine pt_topi (nI (L * 24 + 24)) (nI_add (L * 24) 24) ?_
    refine lv_icmp_ge (tgt := 71) hx hb dX5_leastGoal_12 (by decide) (fun c_1 => ?_) (fun c_1 => ?_)
    · have c_1 : L * 24 + 24 ≤ L * 24 + 24 := (nI_leI (a := L * 24 + 24) (b := L * 24 + 24) (by omega) (by omega)).mp c_1
      refine lv_iconst (v := (-1)) hx hb dX5_leastGoal_71 (by decide) ?_
      exact W.iret (v := (-1)) hx hb hr (fun t ht hW => ⟨(-1), rfl, Or.inl rfl, ht⟩) (fun q h => by cases h) dX5_leastGoal_72
    · have c_1 : ¬ (L * 24 + 24 ≤ L * 24 + 24) := fun q_ => c_1 ((nI_leI (a := L * 24 + 24) (b := L * 24 + 24) (by omega) (by omega)).mpr q_)
      exact (by omega : False).elim
  · have hl := hI
    have hl : lv_has ls 5 [(3, .int (nI (L * 24 + k))), (2, .int (nI (L * 24))), (0, .ref rk), (1, .int (nI L))] := hl
    refine lv_iload_n hx hb dX5_leastGoal_7 rfl (lv_at hl 0 rfl) ?_
    refine lv_iload_n hx hb dX5_leastGoal_8 rfl (lv_at hl 1 rfl) ?_
    refine lv_bipush (v := 24) hx hb dX5_leastGoal_9 (by decide) ?_
    refine lv_iadd hx hb dX5_leastGoal_11 ?_
    refine pt_topi (nI (L * 24 + 24)) (nI_add (L * 24) 24) ?_
    refine lv_icmp_ge (tgt := 71) hx hb dX5_leastGoal_12 (by decide) (fun c_2 => ?_) (fun c_2 => ?_)
    · have c_2 : L * 24 + 24 ≤ L * 24 + k := (nI_leI (a := L * 24 + 24) (b := L * 24 + k) (by omega) (by omega)).mp c_2
      exact (by omega : False).elim
    · have c_2 : ¬ (L * 24 + 24 ≤ L * 24 + k) := fun q_ => c_2 ((nI_leI (a := L * 24 + 24) (b := L * 24 + k) (by omega) (by omega)).mpr q_)
      refine lv_iload_n hx hb dX5_leastGoal_15 rfl (lv_at hl 0 rfl) ?_
      refine pt_cSi (va_runSN (As := [.int (nI (L * 24 + k))]) (rest := []) ⟨hx, hb, hml, hown, hts⟩ (s_isFront l dC dI (L * 24 + k) (by omega)) ⟨va_cnB 1 hts gX5_leastGoal_X7_isFront_n19 rfl rfl rfl (hN.1 (.methodLinkNest RX5 19 yX7_isFront "ParkTower") (by decide +kernel)) (hts (.initialized RX7) (by decide +kernel)) (by decide +kernel) ⟨Nat.le_of_ble_eq_true rfl, Nat.le_of_ble_eq_true rfl⟩, hts (.static yX7_isFront) (by decide +kernel), trivial⟩ ⟨pt_blind, pt_pre (w := []) (tys := []) (hP.sub [] rfl) (hK.sub [] rfl) hN⟩ rfl rfl hl.1 rfl (lv_room (Nat.le_of_ble_eq_true rfl)) dX5_leastGoal_16 ⟨Nat.le_of_ble_eq_true rfl, Nat.le_of_ble_eq_true rfl⟩) (fun r_3 hr_3 => ?_)
      by_cases g_3 : (L * 24 + k) % 2 = 0
      · obtain rfl : r_3 = 1 := hr_3.trans (if_pos g_3)
        refine lv_if_eq (tgt := 38) hx hb dX5_leastGoal_19 (by decide) (fun c => absurd c (by decide)) (fun _ => ?_)
        refine lv_aload_n hx hb dX5_leastGoal_22 rfl (lv_at hl 2 rfl) ?_
        refine va_get (D := (dC, dI)) (ci := 4) (v := .ref hd) (C := RX5) (T := TX5) (N := 2) hx hb hts iX5 hown hK hP 0 rfl rfl 0 (by decide) (hts (.fieldLink RX5 9 "ParkTower$Rack" "held" "[I") (by decide +kernel)) (fun _ h9 => h9) rfl dX5_leastGoal_23 ?_
        refine lv_iload_n hx hb dX5_leastGoal_26 rfl (lv_at hl 0 rfl) ?_
        refine lv_iconst (v := 1) hx hb dX5_leastGoal_27 (by decide) ?_
        refine lv_iadd hx hb dX5_leastGoal_28 ?_
        refine pt_topi (nI (L * 24 + k + 1)) (nI_add (L * 24 + k) 1) ?_
        refine va_iald hx hb hK hP 1 0 rfl rfl (vp_in_nI (n := L * 24 + k + 1) (by omega) (by decide)) dX5_leastGoal_29 ?_
        refine lv_topi (fun a_4 ea_4 => ?_)
        refine lv_iconst (v := (-1)) hx hb dX5_leastGoal_30 (by decide) ?_
        refine lv_icmp_ne (tgt := 38) hx hb dX5_leastGoal_31 (by decide) (fun c_5 => ?_) (fun c_5 => ?_)
        · have c_5 : ¬ (a_4 = (-1)) := c_5
          refine lv_iconst (v := 0) hx hb dX5_leastGoal_38 (by decide) ?_
          refine lv_istore (lv' := [(4, .int 0), (3, .int (nI (L * 24 + k))), (2, .int (nI (L * 24))), (0, .ref rk), (1, .int (nI L))]) hx hb dX5_leastGoal_39 hl (by decide) rfl (fun ls hl => ?_)
          refine lv_aload_n hx hb dX5_leastGoal_41 rfl (lv_at hl 3 rfl) ?_
          refine va_get (D := (dC, dI)) (ci := 4) (v := .ref hd) (C := RX5) (T := TX5) (N := 2) hx hb hts iX5 hown hK hP 0 rfl rfl 0 (by decide) (hts (.fieldLink RX5 9 "ParkTower$Rack" "held" "[I") (by decide +kernel)) (fun _ h9 => h9) rfl dX5_leastGoal_42 ?_
          refine lv_iload_n hx hb dX5_leastGoal_45 rfl (lv_at hl 1 rfl) ?_
          refine va_iald hx hb hK hP 1 0 rfl rfl (vp_in_nI (n := L * 24 + k) (by omega) (by decide)) dX5_leastGoal_46 ?_
          refine lv_topi (fun a_6 ea_6 => ?_)
          refine lv_if_ne (tgt := 65) hx hb dX5_leastGoal_47 (by decide) (fun c_7 => ?_) (fun c_7 => ?_)
          · have c_7 : ¬ (a_6 = 0) := c_7
            refine lv_iinc (v := nI (L * 24 + k + 1)) (lv' := [(3, .int (nI (L * 24 + k + 1))), (4, .int 0), (2, .int (nI (L * 24))), (0, .ref rk), (1, .int (nI L))]) hx hb dX5_leastGoal_65 hl (k := 1) rfl (nI_add (L * 24 + k) 1) (by decide) rfl (fun ls hl => ?_)
            refine lv_goto (tgt := 7) hx hb dX5_leastGoal_68 (by decide) ?_
            exact ih ls (lv_sub hl [0, 2, 3, 4] rfl)
          · have c_7 : (a_6 = 0) := c_7
            refine lv_aload_n hx hb dX5_leastGoal_50 rfl (lv_at hl 3 rfl) ?_
            refine lv_iload_n hx hb dX5_leastGoal_51 rfl (lv_at hl 1 rfl) ?_
            refine pt_cSi (va_runV (As := [.int (nI (L * 24 + k))]) (rest := []) ⟨hx, hb, hml, hown, hts⟩ (s_isReached l dC dI rk hd jm cI fh (L * 24 + k) (by omega)) (cwV 1 hts gX5_leastGoal_X5_isReached rfl rfl rfl (by decide +kernel) ⟨Nat.le_of_ble_eq_true rfl, Nat.le_of_ble_eq_true rfl⟩) ⟨pt_blind, va_recv hK hP (ci := 4) (q0 := 0) rfl rfl, pt_pre (w := [(rk, .inr (4, [.ref hd, .ref jm])), (hd, .inl (cI, 96, .inl fh))]) (tys := [(cI, .int)]) (hP.sub [0, 1] rfl) (hK.sub [0] rfl) hN⟩ rfl rfl hl.1 rfl (lv_room (Nat.le_of_ble_eq_true rfl)) dX5_leastGoal_52 ⟨Nat.le_of_ble_eq_true rfl, Nat.le_of_ble_eq_true rfl⟩) (fun r_8 hr_8 => ?_)
            refine lv_if_eq (tgt := 65) hx hb dX5_leastGoal_55 (by decide) (fun c_9 => ?_) (fun c_9 => ?_)
            · have c_9 : (r_8 = 0) := c_9
              refine lv_iinc (v := nI (L * 24 + k + 1)) (lv' := [(3, .int (nI (L * 24 + k + 1))), (4, .int 0), (2, .int (nI (L * 24))), (0, .ref rk), (1, .int (nI L))]) hx hb dX5_leastGoal_65 hl (k := 1) rfl (nI_add (L * 24 + k) 1) (by decide) rfl (fun ls hl => ?_)
              refine lv_goto (tgt := 7) hx hb dX5_leastGoal_68 (by decide) ?_
              exact ih ls (lv_sub hl [0, 2, 3, 4] rfl)
            · have c_9 : ¬ (r_8 = 0) := c_9
              refine lv_iload hx hb dX5_leastGoal_58 (lv_at hl 0 rfl) ?_
              refine lv_if_ne (tgt := 65) hx hb dX5_leastGoal_60 (by decide) (fun c => absurd (by decide) c) (fun _ => ?_)
              refine lv_iload_n hx hb dX5_leastGoal_63 rfl (lv_at hl 1 rfl) ?_
              exact W.iret (v := nI (L * 24 + k)) hx hb hr (fun t ht hW => ⟨nI (L * 24 + k), rfl, Or.inr ⟨L * 24 + k, by omega, rfl⟩, ht⟩) (fun q h => by cases h) dX5_leastGoal_64
        · have c_5 : (a_4 = (-1)) := c_5
          refine lv_iconst (v := 1) hx hb dX5_leastGoal_34 (by decide) ?_
          refine lv_goto (tgt := 39) hx hb dX5_leastGoal_35 (by decide) ?_
          refine lv_istore (lv' := [(4, .int 1), (3, .int (nI (L * 24 + k))), (2, .int (nI (L * 24))), (0, .ref rk), (1, .int (nI L))]) hx hb dX5_leastGoal_39 hl (by decide) rfl (fun ls hl => ?_)
          refine lv_aload_n hx hb dX5_leastGoal_41 rfl (lv_at hl 3 rfl) ?_
          refine va_get (D := (dC, dI)) (ci := 4) (v := .ref hd) (C := RX5) (T := TX5) (N := 2) hx hb hts iX5 hown hK hP 0 rfl rfl 0 (by decide) (hts (.fieldLink RX5 9 "ParkTower$Rack" "held" "[I") (by decide +kernel)) (fun _ h9 => h9) rfl dX5_leastGoal_42 ?_
          refine lv_iload_n hx hb dX5_leastGoal_45 rfl (lv_at hl 1 rfl) ?_
          refine va_iald hx hb hK hP 1 0 rfl rfl (vp_in_nI (n := L * 24 + k) (by omega) (by decide)) dX5_leastGoal_46 ?_
          refine lv_topi (fun a_10 ea_10 => ?_)
          refine lv_if_ne (tgt := 65) hx hb dX5_leastGoal_47 (by decide) (fun c_11 => ?_) (fun c_11 => ?_)
          · have c_11 : ¬ (a_10 = 0) := c_11
            refine lv_iinc (v := nI (L * 24 + k + 1)) (lv' := [(3, .int (nI (L * 24 + k + 1))), (4, .int 1), (2, .int (nI (L * 24))), (0, .ref rk), (1, .int (nI L))]) hx hb dX5_leastGoal_65 hl (k := 1) rfl (nI_add (L * 24 + k) 1) (by decide) rfl (fun ls hl => ?_)
            refine lv_goto (tgt := 7) hx hb dX5_leastGoal_68 (by decide) ?_
            exact ih ls (lv_sub hl [0, 2, 3, 4] rfl)
          · have c_11 : (a_10 = 0) := c_11
            refine lv_aload_n hx hb dX5_leastGoal_50 rfl (lv_at hl 3 rfl) ?_
            refine lv_iload_n hx hb dX5_leastGoal_51 rfl (lv_at hl 1 rfl) ?_
            refine pt_cSi (va_runV (As := [.int (nI (L * 24 + k))]) (rest := []) ⟨hx, hb, hml, hown, hts⟩ (s_isReached l dC dI rk hd jm cI fh (L * 24 + k) (by omega)) (cwV 1 hts gX5_leastGoal_X5_isReached rfl rfl rfl (by decide +kernel) ⟨Nat.le_of_ble_eq_true rfl, Nat.le_of_ble_eq_true rfl⟩) ⟨pt_blind, va_recv hK hP (ci := 4) (q0 := 0) rfl rfl, pt_pre (w := [(rk, .inr (4, [.ref hd, .ref jm])), (hd, .inl (cI, 96, .inl fh))]) (tys := [(cI, .int)]) (hP.sub [0, 1] rfl) (hK.sub [0] rfl) hN⟩ rfl rfl hl.1 rfl (lv_room (Nat.le_of_ble_eq_true rfl)) dX5_leastGoal_52 ⟨Nat.le_of_ble_eq_true rfl, Nat.le_of_ble_eq_true rfl⟩) (fun r_12 hr_12 => ?_)
            refine lv_if_eq (tgt := 65) hx hb dX5_leastGoal_55 (by decide) (fun c_13 => ?_) (fun c_13 => ?_)
            · have c_13 : (r_12 = 0) := c_13
              refine lv_iinc (v := nI (L * 24 + k + 1)) (lv' := [(3, .int (nI (L * 24 + k + 1))), (4, .int 1), (2, .int (nI (L * 24))), (0, .ref rk), (1, .int (nI L))]) hx hb dX5_leastGoal_65 hl (k := 1) rfl (nI_add (L * 24 + k) 1) (by decide) rfl (fun ls hl => ?_)
              refine lv_goto (tgt := 7) hx hb dX5_leastGoal_68 (by decide) ?_
              exact ih ls (lv_sub hl [0, 2, 3, 4] rfl)
            · have c_13 : ¬ (r_12 = 0) := c_13
              refine lv_iload hx hb dX5_leastGoal_58 (lv_at hl 0 rfl) ?_
              refine lv_if_ne (tgt := 65) hx hb dX5_leastGoal_60 (by decide) (fun _ => ?_) (fun c => absurd c (by decide))
              refine lv_iinc (v := nI (L * 24 + k + 1)) (lv' := [(3, .int (nI (L * 24 + k + 1))), (4, .int 1), (2, .int (nI (L * 24))), (0, .ref rk), (1, .int (nI L))]) hx hb dX5_leastGoal_65 hl (k := 1) rfl (nI_add (L * 24 + k) 1) (by decide) rfl (fun ls hl => ?_)
              refine lv_goto (tgt := 7) hx hb dX5_leastGoal_68 (by decide) ?_
              exact ih ls (lv_sub hl [0, 2, 3, 4] rfl)
      · obtain rfl : r_3 = 0 := hr_3.trans (if_neg g_3)
        refine lv_if_eq (tgt := 38) hx hb dX5_leastGoal_19 (by decide) (fun _ => ?_) (fun c => absurd (by decide) c)
        refine lv_iconst (v := 0) hx hb dX5_leastGoal_38 (by decide) ?_
        refine lv_istore (lv' := [(4, .int 0), (3, .int (nI (L * 24 + k))), (2, .int (nI (L * 24))), (0, .ref rk), (1, .int (nI L))]) hx hb dX5_leastGoal_39 hl (by decide) rfl (fun ls hl => ?_)
        refine lv_aload_n hx hb dX5_leastGoal_41 rfl (lv_at hl 3 rfl) ?_
        refine va_get (D := (dC, dI)) (ci := 4) (v := .ref hd) (C := RX5) (T := TX5) (N := 2) hx hb hts iX5 hown hK hP 0 rfl rfl 0 (by decide) (hts (.fieldLink RX5 9 "ParkTower$Rack" "held" "[I") (by decide +kernel)) (fun _ h9 => h9) rfl dX5_leastGoal_42 ?_
        refine lv_iload_n hx hb dX5_leastGoal_45 rfl (lv_at hl 1 rfl) ?_
        refine va_iald hx hb hK hP 1 0 rfl rfl (vp_in_nI (n := L * 24 + k) (by omega) (by decide)) dX5_leastGoal_46 ?_
        refine lv_topi (fun a_14 ea_14 => ?_)
        refine lv_if_ne (tgt := 65) hx hb dX5_leastGoal_47 (by decide) (fun c_15 => ?_) (fun c_15 => ?_)
        · have c_15 : ¬ (a_14 = 0) := c_15
          refine lv_iinc (v := nI (L * 24 + k + 1)) (lv' := [(3, .int (nI (L * 24 + k + 1))), (4, .int 0), (2, .int (nI (L * 24))), (0, .ref rk), (1, .int (nI L))]) hx hb dX5_leastGoal_65 hl (k := 1) rfl (nI_add (L * 24 + k) 1) (by decide) rfl (fun ls hl => ?_)
          refine lv_goto (tgt := 7) hx hb dX5_leastGoal_68 (by decide) ?_
          exact ih ls (lv_sub hl [0, 2, 3, 4] rfl)
        · have c_15 : (a_14 = 0) := c_15
          refine lv_aload_n hx hb dX5_leastGoal_50 rfl (lv_at hl 3 rfl) ?_
          refine lv_iload_n hx hb dX5_leastGoal_51 rfl (lv_at hl 1 rfl) ?_
          refine pt_cSi (va_runV (As := [.int (nI (L * 24 + k))]) (rest := []) ⟨hx, hb, hml, hown, hts⟩ (s_isReached l dC dI rk hd jm cI fh (L * 24 + k) (by omega)) (cwV 1 hts gX5_leastGoal_X5_isReached rfl rfl rfl (by decide +kernel) ⟨Nat.le_of_ble_eq_true rfl, Nat.le_of_ble_eq_true rfl⟩) ⟨pt_blind, va_recv hK hP (ci := 4) (q0 := 0) rfl rfl, pt_pre (w := [(rk, .inr (4, [.ref hd, .ref jm])), (hd, .inl (cI, 96, .inl fh))]) (tys := [(cI, .int)]) (hP.sub [0, 1] rfl) (hK.sub [0] rfl) hN⟩ rfl rfl hl.1 rfl (lv_room (Nat.le_of_ble_eq_true rfl)) dX5_leastGoal_52 ⟨Nat.le_of_ble_eq_true rfl, Nat.le_of_ble_eq_true rfl⟩) (fun r_16 hr_16 => ?_)
          refine lv_if_eq (tgt := 65) hx hb dX5_leastGoal_55 (by decide) (fun c_17 => ?_) (fun c_17 => ?_)
          · have c_17 : (r_16 = 0) := c_17
            refine lv_iinc (v := nI (L * 24 + k + 1)) (lv' := [(3, .int (nI (L * 24 + k + 1))), (4, .int 0), (2, .int (nI (L * 24))), (0, .ref rk), (1, .int (nI L))]) hx hb dX5_leastGoal_65 hl (k := 1) rfl (nI_add (L * 24 + k) 1) (by decide) rfl (fun ls hl => ?_)
            refine lv_goto (tgt := 7) hx hb dX5_leastGoal_68 (by decide) ?_
            exact ih ls (lv_sub hl [0, 2, 3, 4] rfl)
          · have c_17 : ¬ (r_16 = 0) := c_17
            refine lv_iload hx hb dX5_leastGoal_58 (lv_at hl 0 rfl) ?_
            refine lv_if_ne (tgt := 65) hx hb dX5_leastGoal_60 (by decide) (fun c => absurd (by decide) c) (fun _ => ?_)
            refine lv_iload_n hx hb dX5_leastGoal_63 rfl (lv_at hl 1 rfl) ?_
            exact W.iret (v := nI (L * 24 + k)) hx hb hr (fun t ht hW => ⟨nI (L * 24 + k), rfl, Or.inr ⟨L * 24 + k, by omega, rfl⟩, ht⟩) (fun q h => by cases h) dX5_leastGoal_64
set_option maxHeartbeats 4000000 in
set_option maxRecDepth 100000 in
theorem s_leastStep (l : Launch) (dC : Nat → ClassId) (dI : Nat → Nat → Nat) (rk hd jm : Nat) (cI : ClassId) (fh : Nat → Int32) (L : Nat) (hL : L < 4) : Met l yX5_leastStepBack wsX5_leastStepBack ({ frames := 1, cells := 0, slots := 0, locals := 21 }) (va_Pc [.ref rk, .int (nI L)] (pt_B (dC, dI) [(rk, .inr (4, [.ref hd, .ref jm])), (hd, .inl (cI, 96, .inl fh))] [(cI, .int)])) (vp_Si (fun r : Int32 => r = (-1) ∨ ∃ j : Nat, j + 1 < 96 ∧ r = nI j)) 0 0 (fun _ => False) := by
  refine Met.ofW (cc := cX5_leastStepBack) (maxL := 4) (ret := (some .int)) (by decide) rfl ?_
  intro p e s m args below meth c s₁ B hml hv
  obtain ⟨rfl, hP, hK, hN⟩ := hv
  have hx := B.exec
  have hb := B.bytes
  have hr := B.returns
  have hts := atoms_spec (ws := wsX5_leastStepBack) B.pre
  have hown : s.vm.findClass RX5 = some m.cls := findClass_of_methodNamed B.named
  have hlocks := B.notSynchronized
  have iX5 : ∀ w ∈ wsX50, w ∈ wsX5_leastStepBack := by decide +kernel
  have hP : va_P (dC, dI) vwCl [(rk, .inr (4, [.ref hd, .ref jm])), (hd, .inl (cI, 96, .inl fh))] s.heap := hP
  have hK : va_K (dC, dI) vwCl [(cI, .int)] s := hK
  have hl := lv_entry ([.ref rk, .int (nI L)]) (n := 4) (Nat.le_of_ble_eq_true rfl)
  rw [lg_entry_eq]
  generalize (lg_sl ([.ref rk, .int (nI L)]) ++ List.replicate (4 - (lg_sl ([.ref rk, .int (nI L)])).length) Slot.unset).toArray = ls at hl ⊢
  have hl : lv_has ls 4 [(0, .ref rk), (1, .int (nI L))] := hl
  refine lv_iload_n hx hb dX5_leastStepBack_0 rfl (lv_at hl 1 rfl) ?_
  refine lv_bipush (v := 24) hx hb dX5_leastStepBack_1 (by decide) ?_
  refine lv_imul hx hb dX5_leastStepBack_3 ?_
  refine pt_topi (nI (L * 24)) (pk_mul L 24) ?_
  refine lv_istore_n (lv' := [(2, .int (nI (L * 24))), (0, .ref rk), (1, .int (nI L))]) hx hb dX5_leastStepBack_4 rfl hl (by decide) rfl (fun ls hl => ?_)
  refine lv_iload_n hx hb dX5_leastStepBack_5 rfl (lv_at hl 0 rfl) ?_
  refine lv_istore_n (lv' := [(3, .int (nI (L * 24))), (2, .int (nI (L * 24))), (0, .ref rk), (1, .int (nI L))]) hx hb dX5_leastStepBack_6 rfl hl (by decide) rfl (fun ls hl => ?_)
  refine pt_loop 12 (fun k ls => lv_has ls 4 [(3, .int (nI (L * 24 + 2 * k))), (2, .int (nI (L * 24))), (0, .ref rk), (1, .int (nI L))]) (fun ls hI => ?_) (fun k ls hk hI ih => ?_) (lv_sub hl [0, 1, 2, 3] rfl)
  · have hl := hI
    have hl : lv_has ls 4 [(3, .int (nI (L * 24 + 2 * 12))), (2, .int (nI (L * 24))), (0, .ref rk), (1, .int (nI L))] := hl
    refine lv_iload_n hx hb dX5_leastStepBack_7 rfl (lv_at hl 0 rfl) ?_
    refine lv_iload_n hx hb dX5_leastStepBack_8 rfl (lv_at hl 1 rfl) ?_
    refine lv_bipush (v := 24) hx hb dX5_leastStepBack_9 (by decide) ?_
    refine lv_iadd hx hb dX5_leastStepBack_11 ?_
    refine pt_topi (nI (L * 24 + 24)) (nI_add (L * 24) 24) ?_
    refine lv_icmp_ge (tgt := 42) hx hb dX5_leastStepBack_12 (by decide) (fun c_1 => ?_) (fun c_1 => ?_)
    · have c_1 : L * 24 + 24 ≤ L * 24 + 2 * 12 := (nI_leI (a := L * 24 + 24) (b := L * 24 + 2 * 12) (by omega) (by omega)).mp c_1
      refine lv_iconst (v := (-1)) hx hb dX5_leastStepBack_42 (by decide) ?_
      exact W.iret (v := (-1)) hx hb hr (fun t ht hW => ⟨(-1), rfl, Or.inl rfl, ht⟩) (fun q h => by cases h) dX5_leastStepBack_43
    · have c_1 : ¬ (L * 24 + 24 ≤ L * 24 + 2 * 12) := fun q_ => c_1 ((nI_leI (a := L * 24 + 24) (b := L * 24 + 2 * 12) (by omega) (by omega)).mpr q_)
      exact (by omega : False).elim
  · have hl := hI
    have hl : lv_has ls 4 [(3, .int (nI (L * 24 + 2 * k))), (2, .int (nI (L * 24))), (0, .ref rk), (1, .int (nI L))] := hl
    refine lv_iload_n hx hb dX5_leastStepBack_7 rfl (lv_at hl 0 rfl) ?_
    refine lv_iload_n hx hb dX5_leastStepBack_8 rfl (lv_at hl 1 rfl) ?_
    refine lv_bipush (v := 24) hx hb dX5_leastStepBack_9 (by decide) ?_
    refine lv_iadd hx hb dX5_leastStepBack_11 ?_
    refine pt_topi (nI (L * 24 + 24)) (nI_add (L * 24) 24) ?_
    refine lv_icmp_ge (tgt := 42) hx hb dX5_leastStepBack_12 (by decide) (fun c_2 => ?_) (fun c_2 => ?_)
    · have c_2 : L * 24 + 24 ≤ L * 24 + 2 * k := (nI_leI (a := L * 24 + 24) (b := L * 24 + 2 * k) (by omega) (by omega)).mp c_2
      exact (by omega : False).elim
    · have c_2 : ¬ (L * 24 + 24 ≤ L * 24 + 2 * k) := fun q_ => c_2 ((nI_leI (a := L * 24 + 24) (b := L * 24 + 2 * k) (by omega) (by omega)).mpr q_)
      refine lv_aload_n hx hb dX5_leastStepBack_15 rfl (lv_at hl 2 rfl) ?_
      refine lv_iload_n hx hb dX5_leastStepBack_16 rfl (lv_at hl 0 rfl) ?_
      refine pt_cSi (va_runV (As := [.int (nI (L * 24 + 2 * k))]) (rest := []) ⟨hx, hb, hml, hown, hts⟩ (s_hasCar l dC dI rk hd jm cI fh (L * 24 + 2 * k) (by omega)) (cwV 1 hts gX5_leastStepBack_X5_hasCar rfl rfl rfl (by decide +kernel) ⟨Nat.le_of_ble_eq_true rfl, Nat.le_of_ble_eq_true rfl⟩) ⟨pt_blind, va_recv hK hP (ci := 4) (q0 := 0) rfl rfl, pt_pre (w := [(rk, .inr (4, [.ref hd, .ref jm])), (hd, .inl (cI, 96, .inl fh))]) (tys := [(cI, .int)]) (hP.sub [0, 1] rfl) (hK.sub [0] rfl) hN⟩ rfl rfl hl.1 rfl (lv_room (Nat.le_of_ble_eq_true rfl)) dX5_leastStepBack_17 ⟨Nat.le_of_ble_eq_true rfl, Nat.le_of_ble_eq_true rfl⟩) (fun r_3 hr_3 => ?_)
      refine lv_if_eq (tgt := 36) hx hb dX5_leastStepBack_20 (by decide) (fun c_4 => ?_) (fun c_4 => ?_)
      · have c_4 : (r_3 = 0) := c_4
        refine lv_iinc (v := nI (L * 24 + 2 * k + 2)) (lv' := [(3, .int (nI (L * 24 + 2 * k + 2))), (2, .int (nI (L * 24))), (0, .ref rk), (1, .int (nI L))]) hx hb dX5_leastStepBack_36 hl (k := 0) rfl (nI_add (L * 24 + 2 * k) 2) (by decide) rfl (fun ls hl => ?_)
        refine lv_goto (tgt := 7) hx hb dX5_leastStepBack_39 (by decide) ?_
        exact ih ls (lv_sub hl [0, 1, 2, 3] rfl)
      · have c_4 : ¬ (r_3 = 0) := c_4
        refine lv_aload_n hx hb dX5_leastStepBack_23 rfl (lv_at hl 2 rfl) ?_
        refine va_get (D := (dC, dI)) (ci := 4) (v := .ref hd) (C := RX5) (T := TX5) (N := 2) hx hb hts iX5 hown hK hP 0 rfl rfl 0 (by decide) (hts (.fieldLink RX5 9 "ParkTower$Rack" "held" "[I") (by decide +kernel)) (fun _ h9 => h9) rfl dX5_leastStepBack_24 ?_
        refine lv_iload_n hx hb dX5_leastStepBack_27 rfl (lv_at hl 0 rfl) ?_
        refine lv_iconst (v := 1) hx hb dX5_leastStepBack_28 (by decide) ?_
        refine lv_iadd hx hb dX5_leastStepBack_29 ?_
        refine pt_topi (nI (L * 24 + 2 * k + 1)) (nI_add (L * 24 + 2 * k) 1) ?_
        refine va_iald hx hb hK hP 1 0 rfl rfl (vp_in_nI (n := L * 24 + 2 * k + 1) (by omega) (by decide)) dX5_leastStepBack_30 ?_
        refine lv_topi (fun a_5 ea_5 => ?_)
        refine lv_if_ne (tgt := 36) hx hb dX5_leastStepBack_31 (by decide) (fun c_6 => ?_) (fun c_6 => ?_)
        · have c_6 : ¬ (a_5 = 0) := c_6
          refine lv_iinc (v := nI (L * 24 + 2 * k + 2)) (lv' := [(3, .int (nI (L * 24 + 2 * k + 2))), (2, .int (nI (L * 24))), (0, .ref rk), (1, .int (nI L))]) hx hb dX5_leastStepBack_36 hl (k := 0) rfl (nI_add (L * 24 + 2 * k) 2) (by decide) rfl (fun ls hl => ?_)
          refine lv_goto (tgt := 7) hx hb dX5_leastStepBack_39 (by decide) ?_
          exact ih ls (lv_sub hl [0, 1, 2, 3] rfl)
        · have c_6 : (a_5 = 0) := c_6
          refine lv_iload_n hx hb dX5_leastStepBack_34 rfl (lv_at hl 0 rfl) ?_
          exact W.iret (v := nI (L * 24 + 2 * k)) hx hb hr (fun t ht hW => ⟨nI (L * 24 + 2 * k), rfl, Or.inr ⟨L * 24 + 2 * k, by omega, rfl⟩, ht⟩) (fun q h => by cases h) dX5_leastStepBack_35
