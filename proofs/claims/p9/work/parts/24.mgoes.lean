set_option maxHeartbeats 4000000 in
set_option maxRecDepth 100000 in
theorem m_goes0 (l : Launch) (dC : Nat → ClassId) (dI : Nat → Nat → Nat) (mo m4 m5 m6 m7 m8 m9 m10 m11 m12 m16 m17 m18 m27 m29 m30 m31 : Nat) (th tm pw rn tg lf mm fo : Int32) (sr nc no bz dg db df sp : Nat) (y7 : ClassId) (f7 : Nat → Int32) (tg9 : Nat) (htg : tg9 < 96) : Met l yX8_goes wsX8_goes ({ frames := 2, cells := 0, slots := 0, locals := 41 }) (va_Pc [.ref mo, .int (nI tg9), .int 0] (pt_B (dC, dI) [(mo, .inr (6, [.int th, .int tm, .int (nI sr), .int (nI nc), .ref m4, .ref m5, .ref m6, .ref m7, .ref m8, .ref m9, .ref m10, .ref m11, .ref m12, .int pw, .int rn, .int (nI no), .ref m16, .ref m17, .ref m18, .int (nI bz), .int (nI dg), .int (nI db), .int (nI df), .int (nI sp), .int tg, .int lf, .int mm, .ref m27, .int fo, .ref m29, .ref m30, .ref m31])), (m7, .inl (y7, 96, .inl f7))] [(y7, .int)])) (vp_Si (fun r : Int32 => r = 0 ∨ r = 1)) 0 0 (fun _ => False) := by
  refine Met.ofW (cc := cX8_goes) (maxL := 6) (ret := (some .boolean)) (by decide) rfl ?_
  intro p e s m args below meth c s₁ B hml hv
  obtain ⟨rfl, hP, hK, hN⟩ := hv
  have hx := B.exec
  have hb := B.bytes
  have hr := B.returns
  have hts := atoms_spec (ws := wsX8_goes) B.pre
  have hown : s.vm.findClass RX8 = some m.cls := findClass_of_methodNamed B.named
  have hlocks := B.notSynchronized
  have hP : va_P (dC, dI) vwCl [(mo, .inr (6, [.int th, .int tm, .int (nI sr), .int (nI nc), .ref m4, .ref m5, .ref m6, .ref m7, .ref m8, .ref m9, .ref m10, .ref m11, .ref m12, .int pw, .int rn, .int (nI no), .ref m16, .ref m17, .ref m18, .int (nI bz), .int (nI dg), .int (nI db), .int (nI df), .int (nI sp), .int tg, .int lf, .int mm, .ref m27, .int fo, .ref m29, .ref m30, .ref m31])), (m7, .inl (y7, 96, .inl f7))] s.heap := hP
  have hK : va_K (dC, dI) vwCl [(y7, .int)] s := hK
  have hl := lv_entry ([.ref mo, .int (nI tg9), .int 0]) (n := 6) (Nat.le_of_ble_eq_true rfl)
  rw [lg_entry_eq]
  generalize (lg_sl ([.ref mo, .int (nI tg9), .int 0]) ++ List.replicate (6 - (lg_sl ([.ref mo, .int (nI tg9), .int 0])).length) Slot.unset).toArray = ls at hl ⊢
  have hl : lv_has ls 6 [(0, .ref mo), (1, .int (nI tg9)), (2, .int 0)] := hl
  refine lv_iload_n hx hb dX8_goes_0 rfl (lv_at hl 2 rfl) ?_
  refine lv_if_ne (tgt := 10) hx hb dX8_goes_1 (by decide) (fun c => absurd (by decide) c) (fun _ => ?_)
  refine lv_aload_n hx hb dX8_goes_4 rfl (lv_at hl 0 rfl) ?_
  refine lv_iload_n hx hb dX8_goes_5 rfl (lv_at hl 1 rfl) ?_
  refine pt_cSi (va_runV (As := [.int (nI tg9)]) (rest := []) ⟨hx, hb, hml, hown, hts⟩ (m_isReached l dC dI mo m4 m5 m6 m7 m8 m9 m10 m11 m12 m16 m17 m18 m27 m29 m30 m31 th tm pw rn tg lf mm fo sr nc no bz dg db df sp y7 f7 tg9 (by omega)) (cwV 1 hts gX8_goes_X8_isReached rfl rfl rfl (by decide +kernel) ⟨Nat.le_of_ble_eq_true rfl, Nat.le_of_ble_eq_true rfl⟩) ⟨pt_blind, va_recv hK hP (ci := 6) (q0 := 0) rfl rfl, pt_pre (w := [(mo, .inr (6, [.int th, .int tm, .int (nI sr), .int (nI nc), .ref m4, .ref m5, .ref m6, .ref m7, .ref m8, .ref m9, .ref m10, .ref m11, .ref m12, .int pw, .int rn, .int (nI no), .ref m16, .ref m17, .ref m18, .int (nI bz), .int (nI dg), .int (nI db), .int (nI df), .int (nI sp), .int tg, .int lf, .int mm, .ref m27, .int fo, .ref m29, .ref m30, .ref m31])), (m7, .inl (y7, 96, .inl f7))]) (tys := [(y7, .int)]) (hP.sub [0, 1] rfl) (hK.sub [0] rfl) hN⟩ rfl rfl hl.1 rfl (lv_room (Nat.le_of_ble_eq_true rfl)) dX8_goes_6 ⟨Nat.le_of_ble_eq_true rfl, Nat.le_of_ble_eq_true rfl⟩) (fun r_1 hr_1 => ?_)
  rcases hr_1 with rfl | rfl
  · skip
    exact W.zret (v := 0) (ty := .boolean) hx hb hr rfl (fun t ht hW => ⟨0, rfl, Or.inl rfl, ht⟩) (fun q h => by cases h) dX8_goes_9
  · skip
    exact W.zret (v := 1) (ty := .boolean) hx hb hr rfl (fun t ht hW => ⟨1, rfl, Or.inr rfl, ht⟩) (fun q h => by cases h) dX8_goes_9
set_option maxHeartbeats 4000000 in
set_option maxRecDepth 100000 in
theorem m_goes1 (l : Launch) (dC : Nat → ClassId) (dI : Nat → Nat → Nat) (sz : Nat) (mo m4 m5 m6 m7 m8 m9 m10 m11 m12 m16 m17 m18 m27 m29 m30 m31 : Nat) (th tm pw rn tg lf mm fo : Int32) (sr nc no bz dg db df sp : Nat) (y7 y29 y30 y31 : ClassId) (f7 f29 f30 f31 : Nat → Int32) (tg9 : Nat) (htg : tg9 < 96) (hf : ∀ i, mC (f7 i)) (hdn : ∀ i, f31 i = 0) : Met l yX8_goes wsX8_goes ({ frames := 4, cells := 0, slots := 0, locals := 90 }) (va_Pc [.ref mo, .int (nI tg9), .int 1] (pt_BQ (dC, dI) [(mo, .inr (6, [.int th, .int tm, .int (nI sr), .int (nI nc), .ref m4, .ref m5, .ref m6, .ref m7, .ref m8, .ref m9, .ref m10, .ref m11, .ref m12, .int pw, .int rn, .int (nI no), .ref m16, .ref m17, .ref m18, .int (nI bz), .int (nI dg), .int (nI db), .int (nI df), .int (nI sp), .int tg, .int lf, .int mm, .ref m27, .int fo, .ref m29, .ref m30, .ref m31])), (m7, .inl (y7, 96, .inl f7)), (m29, .inl (y29, 8, .inl f29)), (m30, .inl (y30, 4, .inl f30)), (m31, .inl (y31, 4, .inl f31))] [(y7, .int), (y29, .int), (y30, .int), (y31, .boolean)] sz)) (va_Qi (fun (r : Int32) (u : (Nat → Int32) × (Nat → Nat) × (Nat → Nat → Int32)) => (r = 0 ∨ (r = 1 ∧ mch (u.2.2 0) (tg9 / 24) 0 1 f7)) ∧ (∀ i, (u.2.2 2) i = 0)) (fun u t => pt_at (dC, dI) (va_A [(mo, .inr (6, [.int th, .int tm, .int (nI sr), .int (nI nc), .ref m4, .ref m5, .ref m6, .ref m7, .ref m8, .ref m9, .ref m10, .ref m11, .ref m12, .int pw, .int rn, .int (nI no), .ref m16, .ref m17, .ref m18, .int (nI bz), .int (nI dg), .int (nI db), .int (nI df), .int (nI sp), .int tg, .int lf, .int mm, .ref m27, .int fo, .ref m29, .ref m30, .ref m31])), (m7, .inl (y7, 96, .inl f7)), (m29, .inl (y29, 8, .inl f29)), (m30, .inl (y30, 4, .inl f30)), (m31, .inl (y31, 4, .inl f31))] sz) [(mo, .inr (6, [.int th, .int tm, .int (nI sr), .int (nI nc), .ref m4, .ref m5, .ref m6, .ref m7, .ref m8, .ref m9, .ref m10, .ref m11, .ref m12, .int pw, .int rn, .int (nI no), .ref m16, .ref m17, .ref m18, .int (nI bz), .int (nI dg), .int (nI db), .int (nI df), .int (nI sp), .int tg, .int lf, .int mm, .ref m27, .int fo, .ref m29, .ref m30, .ref m31])), (m7, .inl (y7, 96, .inl f7)), (m29, .inl (y29, 8, .inl (u.2.2 0))), (m30, .inl (y30, 4, .inl (u.2.2 1))), (m31, .inl (y31, 4, .inl (u.2.2 2)))] [] t) (va_A [(mo, .inr (6, [.int th, .int tm, .int (nI sr), .int (nI nc), .ref m4, .ref m5, .ref m6, .ref m7, .ref m8, .ref m9, .ref m10, .ref m11, .ref m12, .int pw, .int rn, .int (nI no), .ref m16, .ref m17, .ref m18, .int (nI bz), .int (nI dg), .int (nI db), .int (nI df), .int (nI sp), .int tg, .int lf, .int mm, .ref m27, .int fo, .ref m29, .ref m30, .ref m31])), (m7, .inl (y7, 96, .inl f7)), (m29, .inl (y29, 8, .inl f29)), (m30, .inl (y30, 4, .inl f30)), (m31, .inl (y31, 4, .inl f31))] sz)) 0 0 (va_A [(mo, .inr (6, [.int th, .int tm, .int (nI sr), .int (nI nc), .ref m4, .ref m5, .ref m6, .ref m7, .ref m8, .ref m9, .ref m10, .ref m11, .ref m12, .int pw, .int rn, .int (nI no), .ref m16, .ref m17, .ref m18, .int (nI bz), .int (nI dg), .int (nI db), .int (nI df), .int (nI sp), .int tg, .int lf, .int mm, .ref m27, .int fo, .ref m29, .ref m30, .ref m31])), (m7, .inl (y7, 96, .inl f7)), (m29, .inl (y29, 8, .inl f29)), (m30, .inl (y30, 4, .inl f30)), (m31, .inl (y31, 4, .inl f31))] sz) := by
  refine Met.ofW (cc := cX8_goes) (maxL := 6) (ret := (some .boolean)) (by decide) rfl ?_
  intro p e s m args below meth c s₁ B hml hv
  obtain ⟨rfl, hsz, hP, hK, hD0, hN⟩ := hv
  have hx := B.exec
  have hb := B.bytes
  have hr := B.returns
  have hts := atoms_spec (ws := wsX8_goes) B.pre
  have hown : s.vm.findClass RX8 = some m.cls := findClass_of_methodNamed B.named
  have hlocks := B.notSynchronized
  have iX8 : ∀ w ∈ wsX80, w ∈ wsX8_goes := by decide +kernel
  subst hsz
  have hD := hD0.self (sz := s.heap.size)
  generalize hAe : va_A [(mo, .inr (6, [.int th, .int tm, .int (nI sr), .int (nI nc), .ref m4, .ref m5, .ref m6, .ref m7, .ref m8, .ref m9, .ref m10, .ref m11, .ref m12, .int pw, .int rn, .int (nI no), .ref m16, .ref m17, .ref m18, .int (nI bz), .int (nI dg), .int (nI db), .int (nI df), .int (nI sp), .int tg, .int lf, .int mm, .ref m27, .int fo, .ref m29, .ref m30, .ref m31])), (m7, .inl (y7, 96, .inl f7)), (m29, .inl (y29, 8, .inl f29)), (m30, .inl (y30, 4, .inl f30)), (m31, .inl (y31, 4, .inl f31))] s.heap.size = A at hD ⊢
  have hA : ∀ q : Nat, s.heap.size ≤ q → A q := fun q h => by rw [← hAe]; exact Or.inr h
  have hS : va_S A s.heap s.heap [] := va_S.rf
  have hP : va_P (dC, dI) vwCl [(mo, .inr (6, [.int th, .int tm, .int (nI sr), .int (nI nc), .ref m4, .ref m5, .ref m6, .ref m7, .ref m8, .ref m9, .ref m10, .ref m11, .ref m12, .int pw, .int rn, .int (nI no), .ref m16, .ref m17, .ref m18, .int (nI bz), .int (nI dg), .int (nI db), .int (nI df), .int (nI sp), .int tg, .int lf, .int mm, .ref m27, .int fo, .ref m29, .ref m30, .ref m31])), (m7, .inl (y7, 96, .inl f7)), (m29, .inl (y29, 8, .inl f29)), (m30, .inl (y30, 4, .inl f30)), (m31, .inl (y31, 4, .inl f31))] s.heap := hP
  have hK : va_K (dC, dI) vwCl [(y7, .int), (y29, .int), (y30, .int), (y31, .boolean)] s := hK
  have hl := lv_entry ([.ref mo, .int (nI tg9), .int 1]) (n := 6) (Nat.le_of_ble_eq_true rfl)
  rw [lg_entry_eq]
  generalize (lg_sl ([.ref mo, .int (nI tg9), .int 1]) ++ List.replicate (6 - (lg_sl ([.ref mo, .int (nI tg9), .int 1])).length) Slot.unset).toArray = ls at hl ⊢
  have hl : lv_has ls 6 [(0, .ref mo), (1, .int (nI tg9)), (2, .int 1)] := hl
  refine lv_iload_n hx hb dX8_goes_0 rfl (lv_at hl 2 rfl) ?_
  refine lv_if_ne (tgt := 10) hx hb dX8_goes_1 (by decide) (fun _ => ?_) (fun c => absurd c (by decide))
  refine lv_iconst (v := 0) hx hb dX8_goes_10 (by decide) ?_
  refine lv_istore_n (lv' := [(3, .int 0), (0, .ref mo), (1, .int (nI tg9)), (2, .int 1)]) hx hb dX8_goes_11 rfl hl (by decide) rfl (fun ls hl => ?_)
  refine lv_aload_n hx hb dX8_goes_12 rfl (lv_at hl 1 rfl) ?_
  refine va_get (D := (dC, dI)) (ci := 6) (v := .ref m30) (C := RX8) (T := TX8) (N := 32) hx hb hts iX8 hown hK hP 0 rfl rfl 30 (by decide) (hts (.fieldLink RX8 57 "ParkTowerModel" "pick" "[I") (by decide +kernel)) (fun _ h9 => h9) rfl dX8_goes_13 ?_
  refine lv_iconst (v := 0) hx hb dX8_goes_16 (by decide) ?_
  refine lv_iconst (v := (-1)) hx hb dX8_goes_17 (by decide) ?_
  refine va_iast hx hb hK hP hD hS 3 2 rfl rfl (vp_in_iff.mpr (by decide)) dX8_goes_18 (fun H locs hP hD hS => ?_)
  have hP : va_P (dC, dI) vwCl [(mo, .inr (6, [.int th, .int tm, .int (nI sr), .int (nI nc), .ref m4, .ref m5, .ref m6, .ref m7, .ref m8, .ref m9, .ref m10, .ref m11, .ref m12, .int pw, .int rn, .int (nI no), .ref m16, .ref m17, .ref m18, .int (nI bz), .int (nI dg), .int (nI db), .int (nI df), .int (nI sp), .int tg, .int lf, .int mm, .ref m27, .int fo, .ref m29, .ref m30, .ref m31])), (m7, .inl (y7, 96, .inl f7)), (m29, .inl (y29, 8, .inl f29)), (m30, .inl (y30, 4, .inl (upd f30 0 (-1)))), (m31, .inl (y31, 4, .inl f31))] H := hP
  have hD : va_D A [(mo, .inr (6, [.int th, .int tm, .int (nI sr), .int (nI nc), .ref m4, .ref m5, .ref m6, .ref m7, .ref m8, .ref m9, .ref m10, .ref m11, .ref m12, .int pw, .int rn, .int (nI no), .ref m16, .ref m17, .ref m18, .int (nI bz), .int (nI dg), .int (nI db), .int (nI df), .int (nI sp), .int tg, .int lf, .int mm, .ref m27, .int fo, .ref m29, .ref m30, .ref m31])), (m7, .inl (y7, 96, .inl f7)), (m29, .inl (y29, 8, .inl f29)), (m30, .inl (y30, 4, .inl (upd f30 0 (-1)))), (m31, .inl (y31, 4, .inl f31))] := hD
  refine lv_iconst (v := 0) hx hb dX8_goes_19 (by decide) ?_
  refine lv_istore (lv' := [(4, .int 0), (3, .int 0), (0, .ref mo), (1, .int (nI tg9)), (2, .int 1)]) hx hb dX8_goes_20 hl (by decide) rfl (fun ls hl => ?_)
  refine pt_loopM (fun mu H locs ls => ∃ (kk : Nat) (kx gd : Int32) (h7 h29 h30 h31 : Nat → Int32) (jj t0 t1 t2 : Nat), lv_has ls 6 [(4, .int gd), (3, .int kx), (0, .ref mo), (1, .int (nI tg9)), (2, .int 1)] ∧ (kk ≤ 1) ∧ (kx = pI kk) ∧ ((gd = 0 ∨ gd = 1)) ∧ (mdo h29 (tg9 / 24) f7 jj h7) ∧ (mD h31 jj) ∧ (t0 ≤ 576 ∧ t1 ≤ 576 ∧ t2 ≤ 576) ∧ ((1 ≤ kk → h30 0 = pI t0) ∧ (2 ≤ kk → h30 1 = pI t1) ∧ (3 ≤ kk → h30 2 = pI t2)) ∧ ((kk = 0 → jj = 0) ∧ (1 ≤ kk → jj + 1 = kk ∨ jj = kk)) ∧ ((gd = 1 → jj = 1)) ∧ ((kk = 0 → mu = 0) ∧ (kk = 1 → mu = (577 - t0) * 1000000) ∧ (kk = 2 → mu = (577 - t0) * 1000000 + (577 - t1) * 1000) ∧ (kk = 3 → mu = (577 - t0) * 1000000 + (577 - t1) * 1000 + (577 - t2))) ∧ ((∀ i, mC (h7 i))) ∧ va_P (dC, dI) vwCl [(mo, .inr (6, [.int th, .int tm, .int (nI sr), .int (nI nc), .ref m4, .ref m5, .ref m6, .ref m7, .ref m8, .ref m9, .ref m10, .ref m11, .ref m12, .int pw, .int rn, .int (nI no), .ref m16, .ref m17, .ref m18, .int (nI bz), .int (nI dg), .int (nI db), .int (nI df), .int (nI sp), .int tg, .int lf, .int mm, .ref m27, .int fo, .ref m29, .ref m30, .ref m31])), (m7, .inl (y7, 96, .inl h7)), (m29, .inl (y29, 8, .inl h29)), (m30, .inl (y30, 4, .inl h30)), (m31, .inl (y31, 4, .inl h31))] H ∧ va_D A [(mo, .inr (6, [.int th, .int tm, .int (nI sr), .int (nI nc), .ref m4, .ref m5, .ref m6, .ref m7, .ref m8, .ref m9, .ref m10, .ref m11, .ref m12, .int pw, .int rn, .int (nI no), .ref m16, .ref m17, .ref m18, .int (nI bz), .int (nI dg), .int (nI db), .int (nI df), .int (nI sp), .int tg, .int lf, .int mm, .ref m27, .int fo, .ref m29, .ref m30, .ref m31])), (m7, .inl (y7, 96, .inl h7)), (m29, .inl (y29, 8, .inl h29)), (m30, .inl (y30, 4, .inl h30)), (m31, .inl (y31, 4, .inl h31))] ∧ va_S A s.heap H locs) (fun mu H locs ls hI ih => ?_) (n := 577000000) ⟨1, 0, 0, f7, f29, upd f30 0 (-1), f31, 0, 0, 0, 0, lv_sub hl [0, 1, 2, 3, 4] rfl, by omega, rfl, Or.inl rfl, rfl, mD.z hdn, ⟨by omega, by omega, by omega⟩, ⟨fun _ => pk_us, fun q => absurd q (by decide), fun q => absurd q (by decide)⟩, ⟨fun q => absurd q (by decide), fun _ => Or.inl rfl⟩, fun q => absurd q (by decide), ⟨fun q => absurd q (by decide), fun _ => rfl, fun q => absurd q (by decide), fun q => absurd q (by decide)⟩, hf, hP.sub [0, 1, 2, 3, 4] rfl, hD.sub [0, 1, 2, 3, 4] (by decide) rfl, hS⟩
  obtain ⟨kk, kx, gd, h7, h29, h30, h31, jj, t0, t1, t2, hl, g0, gk, gg, gm, gD, gt, gp, gj, gG, gz, gC, hP, hD, hS⟩ := hI
  subst gk
  obtain ⟨gt0, gt1, gt2⟩ := gt
  rcases gg with rfl | rfl
  · skip
    rcases (show kk = 0 ∨ kk = 1 by omega) with rfl | rfl
    · skip
      obtain rfl := gj.1 rfl
      have hl : lv_has ls 6 [(4, .int 0), (3, .int (-1)), (0, .ref mo), (1, .int (nI tg9)), (2, .int 1)] := hl
      have hmu : mu = 0 := gz.1 rfl
      refine lv_iload_n hx hb dX8_goes_22 rfl (lv_at hl 1 rfl) ?_
      refine lv_if_lt (tgt := 90) hx hb dX8_goes_23 (by decide) (fun _ => ?_) (fun c => absurd (by decide) c)
      refine lv_iload_n hx hb dX8_goes_90 rfl (lv_at hl 4 rfl) ?_
      refine lv_iconst (v := 1) hx hb dX8_goes_91 (by decide) ?_
      refine lv_isub hx hb dX8_goes_92 ?_
      refine pt_topi 0 (by decide) ?_
      refine lv_istore (lv' := [(5, .int 0), (4, .int 0), (3, .int (-1)), (0, .ref mo), (1, .int (nI tg9)), (2, .int 1)]) hx hb dX8_goes_93 hl (by decide) rfl (fun ls hl => ?_)
      refine lv_iload hx hb dX8_goes_95 (lv_at hl 0 rfl) ?_
      refine lv_if_lt (tgt := 122) hx hb dX8_goes_97 (by decide) (fun c => absurd c (by decide)) (fun _ => ?_)
      refine lv_aload_n hx hb dX8_goes_100 rfl (lv_at hl 3 rfl) ?_
      refine va_get (D := (dC, dI)) (ci := 6) (v := .ref m31) (C := RX8) (T := TX8) (N := 32) hx hb hts iX8 hown hK hP 0 rfl rfl 31 (by decide) (hts (.fieldLink RX8 60 "ParkTowerModel" "isDone" "[Z") (by decide +kernel)) (fun _ h9 => h9) rfl dX8_goes_101 ?_
      refine lv_iload hx hb dX8_goes_104 (lv_at hl 0 rfl) ?_
      refine va_zald hx hb hK hP 4 3 rfl rfl (vp_in_iff.mpr (by decide)) dX8_goes_106 ?_
      refine lv_topi (fun a_1 ea_1 => ?_)
      have ea_1 : a_1 = h31 0 := ea_1
      obtain rfl : a_1 = 0 := ea_1.trans (gD.no (by decide))
      refine lv_if_eq (tgt := 116) hx hb dX8_goes_107 (by decide) (fun _ => ?_) (fun c => absurd (by decide) c)
      refine lv_iinc (v := (-1)) (lv' := [(5, .int (-1)), (4, .int 0), (3, .int (-1)), (0, .ref mo), (1, .int (nI tg9)), (2, .int 1)]) hx hb dX8_goes_116 hl (k := 0) rfl (by decide) (by decide) rfl (fun ls hl => ?_)
      refine lv_goto (tgt := 95) hx hb dX8_goes_119 (by decide) ?_
      refine lv_iload hx hb dX8_goes_95 (lv_at hl 0 rfl) ?_
      refine lv_if_lt (tgt := 122) hx hb dX8_goes_97 (by decide) (fun _ => ?_) (fun c => absurd (by decide) c)
      have e9 : h7 = f7 := gm
      rw [e9] at hP hD
      have hP : va_P (dC, dI) vwCl [(mo, .inr (6, [.int th, .int tm, .int (nI sr), .int (nI nc), .ref m4, .ref m5, .ref m6, .ref m7, .ref m8, .ref m9, .ref m10, .ref m11, .ref m12, .int pw, .int rn, .int (nI no), .ref m16, .ref m17, .ref m18, .int (nI bz), .int (nI dg), .int (nI db), .int (nI df), .int (nI sp), .int tg, .int lf, .int mm, .ref m27, .int fo, .ref m29, .ref m30, .ref m31])), (m7, .inl (y7, 96, .inl f7)), (m29, .inl (y29, 8, .inl h29)), (m30, .inl (y30, 4, .inl h30)), (m31, .inl (y31, 4, .inl h31))] H := hP
      have hD : va_D A [(mo, .inr (6, [.int th, .int tm, .int (nI sr), .int (nI nc), .ref m4, .ref m5, .ref m6, .ref m7, .ref m8, .ref m9, .ref m10, .ref m11, .ref m12, .int pw, .int rn, .int (nI no), .ref m16, .ref m17, .ref m18, .int (nI bz), .int (nI dg), .int (nI db), .int (nI df), .int (nI sp), .int tg, .int lf, .int mm, .ref m27, .int fo, .ref m29, .ref m30, .ref m31])), (m7, .inl (y7, 96, .inl f7)), (m29, .inl (y29, 8, .inl h29)), (m30, .inl (y30, 4, .inl h30)), (m31, .inl (y31, 4, .inl h31))] := hD
      refine lv_iload hx hb dX8_goes_122 (lv_at hl 1 rfl) ?_
      have hP9 := hP.sub (ws' := [(mo, .inr (6, [.int th, .int tm, .int (nI sr), .int (nI nc), .ref m4, .ref m5, .ref m6, .ref m7, .ref m8, .ref m9, .ref m10, .ref m11, .ref m12, .int pw, .int rn, .int (nI no), .ref m16, .ref m17, .ref m18, .int (nI bz), .int (nI dg), .int (nI db), .int (nI df), .int (nI sp), .int tg, .int lf, .int mm, .ref m27, .int fo, .ref m29, .ref m30, .ref m31])), (m7, .inl (y7, 96, .inl f7)), (m29, .inl (y29, 8, .inl h29)), (m30, .inl (y30, 4, .inl h30)), (m31, .inl (y31, 4, .inl h31))]) [0, 1, 2, 3, 4] rfl
      have hD9 := hD.sub (ws' := [(mo, .inr (6, [.int th, .int tm, .int (nI sr), .int (nI nc), .ref m4, .ref m5, .ref m6, .ref m7, .ref m8, .ref m9, .ref m10, .ref m11, .ref m12, .int pw, .int rn, .int (nI no), .ref m16, .ref m17, .ref m18, .int (nI bz), .int (nI dg), .int (nI db), .int (nI df), .int (nI sp), .int tg, .int lf, .int mm, .ref m27, .int fo, .ref m29, .ref m30, .ref m31])), (m7, .inl (y7, 96, .inl f7)), (m29, .inl (y29, 8, .inl h29)), (m30, .inl (y30, 4, .inl h30)), (m31, .inl (y31, 4, .inl h31))]) [0, 1, 2, 3, 4] (by decide) rfl
      have hK9 := hK.sub (tys' := []) [] rfl
      refine W.widen (k := 0) (n := 0) (by omega) (by omega) ?_
      exact W.zret (v := 0) (ty := .boolean) hx hb hr rfl (fun t ht hW => ⟨⟨0, (fun q_ => ([] : List Int32).getD q_ 0, fun q_ => ([] : List Nat).getD q_ 0, fun q_ => ([h29, h30, h31] : List (Nat → Int32)).getD q_ (fun _ => 0)), rfl, ⟨Or.inl rfl, mD.o gD⟩, by rw [ht]; exact hP9, va_K.moved hW.alike hK9, hD9⟩, hS.F ht⟩) hS.2.2 dX8_goes_124
    · skip
      rcases (show jj = 0 ∨ jj = 1 by have := gj.2 (by decide); omega) with rfl | rfl
      · skip
        have hl : lv_has ls 6 [(4, .int 0), (3, .int 0), (0, .ref mo), (1, .int (nI tg9)), (2, .int 1)] := hl
        have hmu : mu = (577 - t0) * 1000000 := gz.2.1 rfl
        have gp0 : h30 0 = pI t0 := gp.1 (by decide)
        refine lv_iload_n hx hb dX8_goes_22 rfl (lv_at hl 1 rfl) ?_
        refine lv_if_lt (tgt := 90) hx hb dX8_goes_23 (by decide) (fun c => absurd c (by decide)) (fun _ => ?_)
        refine lv_iload hx hb dX8_goes_26 (lv_at hl 0 rfl) ?_
        refine lv_if_ne (tgt := 90) hx hb dX8_goes_28 (by decide) (fun c => absurd (by decide) c) (fun _ => ?_)
        refine lv_aload_n hx hb dX8_goes_31 rfl (lv_at hl 2 rfl) ?_
        refine va_get (D := (dC, dI)) (ci := 6) (v := .ref m31) (C := RX8) (T := TX8) (N := 32) hx hb hts iX8 hown hK hP 0 rfl rfl 31 (by decide) (hts (.fieldLink RX8 60 "ParkTowerModel" "isDone" "[Z") (by decide +kernel)) (fun _ h9 => h9) rfl dX8_goes_32 ?_
        refine lv_iload_n hx hb dX8_goes_35 rfl (lv_at hl 1 rfl) ?_
        refine va_zald hx hb hK hP 4 3 rfl rfl (vp_in_iff.mpr (by decide)) dX8_goes_36 ?_
        refine lv_topi (fun a_2 ea_2 => ?_)
        have ea_2 : a_2 = h31 0 := ea_2
        obtain rfl : a_2 = 0 := ea_2.trans (gD.no (by decide))
        refine lv_if_eq (tgt := 45) hx hb dX8_goes_37 (by decide) (fun _ => ?_) (fun c => absurd (by decide) c)
        refine lv_aload_n hx hb dX8_goes_45 rfl (lv_at hl 2 rfl) ?_
        refine lv_iload_n hx hb dX8_goes_46 rfl (lv_at hl 3 rfl) ?_
        refine lv_iload_n hx hb dX8_goes_47 rfl (lv_at hl 1 rfl) ?_
        have hPc := hP.sub (ws' := [(mo, .inr (6, [.int th, .int tm, .int (nI sr), .int (nI nc), .ref m4, .ref m5, .ref m6, .ref m7, .ref m8, .ref m9, .ref m10, .ref m11, .ref m12, .int pw, .int rn, .int (nI no), .ref m16, .ref m17, .ref m18, .int (nI bz), .int (nI dg), .int (nI db), .int (nI df), .int (nI sp), .int tg, .int lf, .int mm, .ref m27, .int fo, .ref m29, .ref m30, .ref m31])), (m7, .inl (y7, 96, .inl h7)), (m29, .inl (y29, 8, .inl h29)), (m30, .inl (y30, 4, .inl h30)), (m31, .inl (y31, 4, .inl h31))]) [0, 1, 2, 3, 4] rfl
        have hDc := hD.sub (ws' := [(mo, .inr (6, [.int th, .int tm, .int (nI sr), .int (nI nc), .ref m4, .ref m5, .ref m6, .ref m7, .ref m8, .ref m9, .ref m10, .ref m11, .ref m12, .int pw, .int rn, .int (nI no), .ref m16, .ref m17, .ref m18, .int (nI bz), .int (nI dg), .int (nI db), .int (nI df), .int (nI sp), .int tg, .int lf, .int mm, .ref m27, .int fo, .ref m29, .ref m30, .ref m31])), (m7, .inl (y7, 96, .inl h7)), (m29, .inl (y29, 8, .inl h29)), (m30, .inl (y30, 4, .inl h30)), (m31, .inl (y31, 4, .inl h31))]) [0, 1, 2, 3, 4] (by decide) rfl
        have hKc := hK.sub (tys' := [(y7, .int), (y29, .int), (y30, .int), (y31, .boolean)]) [0, 1, 2, 3] rfl
        have hFc := va_free (wc := [(mo, .inr (6, [.int th, .int tm, .int (nI sr), .int (nI nc), .ref m4, .ref m5, .ref m6, .ref m7, .ref m8, .ref m9, .ref m10, .ref m11, .ref m12, .int pw, .int rn, .int (nI no), .ref m16, .ref m17, .ref m18, .int (nI bz), .int (nI dg), .int (nI db), .int (nI df), .int (nI sp), .int tg, .int lf, .int mm, .ref m27, .int fo, .ref m29, .ref m30, .ref m31])), (m7, .inl (y7, 96, .inl h7)), (m29, .inl (y29, 8, .inl h29)), (m30, .inl (y30, 4, .inl h30)), (m31, .inl (y31, 4, .inl h31))]) hD hS hA [0, 1, 2, 3, 4] rfl
        refine va_calli (va_runV (As := [.int (nI tg9), .int 0]) (rest := []) ⟨hx, hb, hml, hown, hts⟩ (m_turns l dC dI _ mo m4 m5 m6 m7 m8 m9 m10 m11 m12 m16 m17 m18 m27 m29 m30 m31 th tm pw rn tg lf mm fo sr nc no bz dg db df sp y7 y29 y30 y31 h7 h29 h30 h31 tg9 0 t0 htg (by decide) (by omega) gp0 gC) (cwV 2 hts gX8_goes_X8_turns rfl rfl rfl (by decide +kernel) ⟨Nat.le_of_ble_eq_true rfl, Nat.le_of_ble_eq_true rfl⟩) ⟨pt_blindQ, va_recv hK hP (ci := 6) (q0 := 0) rfl rfl, pt_preQ hPc hKc hDc hN⟩ rfl rfl hl.1 rfl (lv_room (Nat.le_of_ble_eq_true rfl)) dX8_goes_48 ⟨Nat.le_of_ble_eq_true rfl, Nat.le_of_ble_eq_true rfl⟩) hS (fun q _ h => hFc q h) hFc (fun r_3 u_3 t H1 locs ht hvm hw_3 hB hz1 hk1 hS => ?_)
        obtain ⟨v_3, n_3, F_3⟩ := u_3
        obtain ⟨hP1, hK1, hD1⟩ := hB
        try dsimp only at hw_3
        rw [ht] at hP1
        have hK1 := va_K.moved hvm.symm hK1
        obtain ⟨hP, hD⟩ := va_join (wr := []) (w1 := [(mo, .inr (6, [.int th, .int tm, .int (nI sr), .int (nI nc), .ref m4, .ref m5, .ref m6, .ref m7, .ref m8, .ref m9, .ref m10, .ref m11, .ref m12, .int pw, .int rn, .int (nI no), .ref m16, .ref m17, .ref m18, .int (nI bz), .int (nI dg), .int (nI db), .int (nI df), .int (nI sp), .int tg, .int lf, .int mm, .ref m27, .int fo, .ref m29, .ref m30, .ref m31])), (m7, .inl (y7, 96, .inl (F_3 0))), (m29, .inl (y29, 8, .inl (F_3 1))), (m30, .inl (y30, 4, .inl (F_3 2))), (m31, .inl (y31, 4, .inl (F_3 3)))]) hP hD [0, 1, 2, 3, 4] [] rfl rfl (by decide) (by decide) hk1 hFc hP1 hD1
        have hK := hK.app hK1
        generalize H1 = H at hP hS ⊢
        have hP : va_P (dC, dI) vwCl [(mo, .inr (6, [.int th, .int tm, .int (nI sr), .int (nI nc), .ref m4, .ref m5, .ref m6, .ref m7, .ref m8, .ref m9, .ref m10, .ref m11, .ref m12, .int pw, .int rn, .int (nI no), .ref m16, .ref m17, .ref m18, .int (nI bz), .int (nI dg), .int (nI db), .int (nI df), .int (nI sp), .int tg, .int lf, .int mm, .ref m27, .int fo, .ref m29, .ref m30, .ref m31])), (m7, .inl (y7, 96, .inl (F_3 0))), (m29, .inl (y29, 8, .inl (F_3 1))), (m30, .inl (y30, 4, .inl (F_3 2))), (m31, .inl (y31, 4, .inl (F_3 3)))] H := hP
        have hD : va_D A [(mo, .inr (6, [.int th, .int tm, .int (nI sr), .int (nI nc), .ref m4, .ref m5, .ref m6, .ref m7, .ref m8, .ref m9, .ref m10, .ref m11, .ref m12, .int pw, .int rn, .int (nI no), .ref m16, .ref m17, .ref m18, .int (nI bz), .int (nI dg), .int (nI db), .int (nI df), .int (nI sp), .int tg, .int lf, .int mm, .ref m27, .int fo, .ref m29, .ref m30, .ref m31])), (m7, .inl (y7, 96, .inl (F_3 0))), (m29, .inl (y29, 8, .inl (F_3 1))), (m30, .inl (y30, 4, .inl (F_3 2))), (m31, .inl (y31, 4, .inl (F_3 3)))] := hD
        have hK : va_K (dC, dI) vwCl [(y7, .int), (y29, .int), (y30, .int), (y31, .boolean)] s := hK
        rcases hw_3 with ⟨rfl, e1_3, e2_3, e3_3, e4_3, e5_3⟩ | ⟨rfl, a_3, b_3, x_3, t_3, e1_3, e2_3, e3_3, e4_3, e5_3, e6_3, e7_3, e8_3, e9_3, e10_3, e11_3, e12_3, e13_3, e14_3, e15_3, e16_3⟩
        · skip
          rw [e1_3, e2_3, e3_3] at hP hD
          have hP : va_P (dC, dI) vwCl [(mo, .inr (6, [.int th, .int tm, .int (nI sr), .int (nI nc), .ref m4, .ref m5, .ref m6, .ref m7, .ref m8, .ref m9, .ref m10, .ref m11, .ref m12, .int pw, .int rn, .int (nI no), .ref m16, .ref m17, .ref m18, .int (nI bz), .int (nI dg), .int (nI db), .int (nI df), .int (nI sp), .int tg, .int lf, .int mm, .ref m27, .int fo, .ref m29, .ref m30, .ref m31])), (m7, .inl (y7, 96, .inl h7)), (m29, .inl (y29, 8, .inl h29)), (m30, .inl (y30, 4, .inl (F_3 2))), (m31, .inl (y31, 4, .inl h31))] H := hP
          have hD : va_D A [(mo, .inr (6, [.int th, .int tm, .int (nI sr), .int (nI nc), .ref m4, .ref m5, .ref m6, .ref m7, .ref m8, .ref m9, .ref m10, .ref m11, .ref m12, .int pw, .int rn, .int (nI no), .ref m16, .ref m17, .ref m18, .int (nI bz), .int (nI dg), .int (nI db), .int (nI df), .int (nI sp), .int tg, .int lf, .int mm, .ref m27, .int fo, .ref m29, .ref m30, .ref m31])), (m7, .inl (y7, 96, .inl h7)), (m29, .inl (y29, 8, .inl h29)), (m30, .inl (y30, 4, .inl (F_3 2))), (m31, .inl (y31, 4, .inl h31))] := hD
          refine lv_if_ne (tgt := 60) hx hb dX8_goes_51 (by decide) (fun c => absurd (by decide) c) (fun _ => ?_)
          refine lv_iinc (v := (-1)) (lv' := [(3, .int (-1)), (4, .int 0), (0, .ref mo), (1, .int (nI tg9)), (2, .int 1)]) hx hb dX8_goes_54 hl (k := 1) rfl (by decide) (by decide) rfl (fun ls hl => ?_)
          refine lv_goto (tgt := 22) hx hb dX8_goes_57 (by decide) ?_
          exact ih (0) H locs ls (by omega) ⟨0, (-1), 0, h7, h29, F_3 2, h31, 0, t0, t1, t2, lv_sub hl [1, 0, 2, 3, 4] rfl, by omega, rfl, Or.inl rfl, gm, gD, ⟨by omega, by omega, by omega⟩, ⟨fun q => absurd q (by decide), fun q => absurd q (by decide), fun q => absurd q (by decide)⟩, ⟨fun _ => rfl, fun q => absurd q (by decide)⟩, fun q => absurd q (by decide), ⟨fun _ => rfl, fun q => absurd q (by decide), fun q => absurd q (by decide), fun q => absurd q (by decide)⟩, gC, hP.sub [0, 1, 2, 3, 4] rfl, hD.sub [0, 1, 2, 3, 4] (by decide) rfl, hS⟩
        · skip
          rw [e14_3, e15_3, e16_3] at hP hD
          have m_3 : mdo (upd h29 0 (nI (100 * a_3 + b_3))) (tg9 / 24) f7 1 (upd (upd h7 b_3 (nI x_3)) a_3 0) := ⟨_, a_3, b_3, x_3, mdo.upd 0 _ (Nat.le_refl _) gm, pk_us, e5_3, e6_3, e7_3, e8_3, e9_3, e10_3, e11_3, e12_3, e13_3, rfl⟩
          have hP : va_P (dC, dI) vwCl [(mo, .inr (6, [.int th, .int tm, .int (nI sr), .int (nI nc), .ref m4, .ref m5, .ref m6, .ref m7, .ref m8, .ref m9, .ref m10, .ref m11, .ref m12, .int pw, .int rn, .int (nI no), .ref m16, .ref m17, .ref m18, .int (nI bz), .int (nI dg), .int (nI db), .int (nI df), .int (nI sp), .int tg, .int lf, .int mm, .ref m27, .int fo, .ref m29, .ref m30, .ref m31])), (m7, .inl (y7, 96, .inl (upd (upd h7 b_3 (nI x_3)) a_3 0))), (m29, .inl (y29, 8, .inl (upd h29 0 (nI (100 * a_3 + b_3))))), (m30, .inl (y30, 4, .inl (F_3 2))), (m31, .inl (y31, 4, .inl (upd h31 0 1)))] H := hP
          have hD : va_D A [(mo, .inr (6, [.int th, .int tm, .int (nI sr), .int (nI nc), .ref m4, .ref m5, .ref m6, .ref m7, .ref m8, .ref m9, .ref m10, .ref m11, .ref m12, .int pw, .int rn, .int (nI no), .ref m16, .ref m17, .ref m18, .int (nI bz), .int (nI dg), .int (nI db), .int (nI df), .int (nI sp), .int tg, .int lf, .int mm, .ref m27, .int fo, .ref m29, .ref m30, .ref m31])), (m7, .inl (y7, 96, .inl (upd (upd h7 b_3 (nI x_3)) a_3 0))), (m29, .inl (y29, 8, .inl (upd h29 0 (nI (100 * a_3 + b_3))))), (m30, .inl (y30, 4, .inl (F_3 2))), (m31, .inl (y31, 4, .inl (upd h31 0 1)))] := hD
          refine lv_if_ne (tgt := 60) hx hb dX8_goes_51 (by decide) (fun _ => ?_) (fun c => absurd c (by decide))
          refine lv_iload_n hx hb dX8_goes_60 rfl (lv_at hl 1 rfl) ?_
          refine lv_iload_n hx hb dX8_goes_61 rfl (lv_at hl 4 rfl) ?_
          refine lv_iconst (v := 1) hx hb dX8_goes_62 (by decide) ?_
          refine lv_isub hx hb dX8_goes_63 ?_
          refine pt_topi 0 (by decide) ?_
          refine lv_icmp_ne (tgt := 77) hx hb dX8_goes_64 (by decide) (fun c => absurd (by decide) c) (fun _ => ?_)
          refine lv_aload_n hx hb dX8_goes_67 rfl (lv_at hl 2 rfl) ?_
          refine lv_iload_n hx hb dX8_goes_68 rfl (lv_at hl 3 rfl) ?_
          refine pt_cSi (va_runV (As := [.int (nI tg9)]) (rest := []) ⟨hx, hb, hml, hown, hts⟩ (m_isReached l dC dI mo m4 m5 m6 m7 m8 m9 m10 m11 m12 m16 m17 m18 m27 m29 m30 m31 th tm pw rn tg lf mm fo sr nc no bz dg db df sp y7 (upd (upd h7 b_3 (nI x_3)) a_3 0) tg9 (by omega)) (cwV 1 hts gX8_goes_X8_isReached rfl rfl rfl (by decide +kernel) ⟨Nat.le_of_ble_eq_true rfl, Nat.le_of_ble_eq_true rfl⟩) ⟨pt_blind, va_recv hK hP (ci := 6) (q0 := 0) rfl rfl, pt_pre (w := [(mo, .inr (6, [.int th, .int tm, .int (nI sr), .int (nI nc), .ref m4, .ref m5, .ref m6, .ref m7, .ref m8, .ref m9, .ref m10, .ref m11, .ref m12, .int pw, .int rn, .int (nI no), .ref m16, .ref m17, .ref m18, .int (nI bz), .int (nI dg), .int (nI db), .int (nI df), .int (nI sp), .int tg, .int lf, .int mm, .ref m27, .int fo, .ref m29, .ref m30, .ref m31])), (m7, .inl (y7, 96, .inl (upd (upd h7 b_3 (nI x_3)) a_3 0)))]) (tys := [(y7, .int)]) (hP.sub [0, 1] rfl) (hK.sub [0] rfl) hN⟩ rfl rfl hl.1 rfl (lv_room (Nat.le_of_ble_eq_true rfl)) dX8_goes_69 ⟨Nat.le_of_ble_eq_true rfl, Nat.le_of_ble_eq_true rfl⟩) (fun r_4 hr_4 => ?_)
          rcases hr_4 with rfl | rfl
          · skip
            refine lv_istore (lv' := [(4, .int 0), (3, .int 0), (0, .ref mo), (1, .int (nI tg9)), (2, .int 1)]) hx hb dX8_goes_72 hl (by decide) rfl (fun ls hl => ?_)
            refine lv_goto (tgt := 22) hx hb dX8_goes_74 (by decide) ?_
            exact ih ((577 - t_3) * 1000000) H locs ls (by omega) ⟨1, 0, 0, upd (upd h7 b_3 (nI x_3)) a_3 0, upd h29 0 (nI (100 * a_3 + b_3)), F_3 2, upd h31 0 1, 1, t_3, t1, t2, lv_sub hl [0, 1, 2, 3, 4] rfl, by omega, rfl, Or.inl rfl, m_3, mD.up gD, ⟨by omega, by omega, by omega⟩, ⟨fun _ => e3_3, fun q => absurd q (by decide), fun q => absurd q (by decide)⟩, ⟨fun q => absurd q (by decide), fun _ => Or.inr rfl⟩, fun q => absurd q (by decide), ⟨fun q => absurd q (by decide), fun _ => rfl, fun q => absurd q (by decide), fun q => absurd q (by decide)⟩, mC_moved gC e12_3, hP.sub [0, 1, 2, 3, 4] rfl, hD.sub [0, 1, 2, 3, 4] (by decide) rfl, hS⟩
          · skip
            refine lv_istore (lv' := [(4, .int 1), (3, .int 0), (0, .ref mo), (1, .int (nI tg9)), (2, .int 1)]) hx hb dX8_goes_72 hl (by decide) rfl (fun ls hl => ?_)
            refine lv_goto (tgt := 22) hx hb dX8_goes_74 (by decide) ?_
            exact ih ((577 - t_3) * 1000000) H locs ls (by omega) ⟨1, 0, 1, upd (upd h7 b_3 (nI x_3)) a_3 0, upd h29 0 (nI (100 * a_3 + b_3)), F_3 2, upd h31 0 1, 1, t_3, t1, t2, lv_sub hl [0, 1, 2, 3, 4] rfl, by omega, rfl, Or.inr rfl, m_3, mD.up gD, ⟨by omega, by omega, by omega⟩, ⟨fun _ => e3_3, fun q => absurd q (by decide), fun q => absurd q (by decide)⟩, ⟨fun q => absurd q (by decide), fun _ => Or.inr rfl⟩, fun _ => rfl, ⟨fun q => absurd q (by decide), fun _ => rfl, fun q => absurd q (by decide), fun q => absurd q (by decide)⟩, mC_moved gC e12_3, hP.sub [0, 1, 2, 3, 4] rfl, hD.sub [0, 1, 2, 3, 4] (by decide) rfl, hS⟩
      · skip
        have hl : lv_has ls 6 [(4, .int 0), (3, .int 0), (0, .ref mo), (1, .int (nI tg9)), (2, .int 1)] := hl
        have hmu : mu = (577 - t0) * 1000000 := gz.2.1 rfl
        have gp0 : h30 0 = pI t0 := gp.1 (by decide)
        refine lv_iload_n hx hb dX8_goes_22 rfl (lv_at hl 1 rfl) ?_
        refine lv_if_lt (tgt := 90) hx hb dX8_goes_23 (by decide) (fun c => absurd c (by decide)) (fun _ => ?_)
        refine lv_iload hx hb dX8_goes_26 (lv_at hl 0 rfl) ?_
        refine lv_if_ne (tgt := 90) hx hb dX8_goes_28 (by decide) (fun c => absurd (by decide) c) (fun _ => ?_)
        refine lv_aload_n hx hb dX8_goes_31 rfl (lv_at hl 2 rfl) ?_
        refine va_get (D := (dC, dI)) (ci := 6) (v := .ref m31) (C := RX8) (T := TX8) (N := 32) hx hb hts iX8 hown hK hP 0 rfl rfl 31 (by decide) (hts (.fieldLink RX8 60 "ParkTowerModel" "isDone" "[Z") (by decide +kernel)) (fun _ h9 => h9) rfl dX8_goes_32 ?_
        refine lv_iload_n hx hb dX8_goes_35 rfl (lv_at hl 1 rfl) ?_
        refine va_zald hx hb hK hP 4 3 rfl rfl (vp_in_iff.mpr (by decide)) dX8_goes_36 ?_
        refine lv_topi (fun a_5 ea_5 => ?_)
        have ea_5 : a_5 = h31 0 := ea_5
        obtain rfl : a_5 = 1 := ea_5.trans (gD.yes (by decide))
        refine lv_if_eq (tgt := 45) hx hb dX8_goes_37 (by decide) (fun c => absurd c (by decide)) (fun _ => ?_)
        refine lv_aload_n hx hb dX8_goes_40 rfl (lv_at hl 2 rfl) ?_
        refine lv_iload_n hx hb dX8_goes_41 rfl (lv_at hl 1 rfl) ?_
        obtain ⟨h_6, a_6, b_6, x_6, m_6, i1_6, i2_6, i3_6, i4_6, i5_6, i6_6, i7_6, i8_6, i9_6, i10_6, i11_6⟩ := gm
        have hPc := hP.sub (ws' := [(mo, .inr (6, [.int th, .int tm, .int (nI sr), .int (nI nc), .ref m4, .ref m5, .ref m6, .ref m7, .ref m8, .ref m9, .ref m10, .ref m11, .ref m12, .int pw, .int rn, .int (nI no), .ref m16, .ref m17, .ref m18, .int (nI bz), .int (nI dg), .int (nI db), .int (nI df), .int (nI sp), .int tg, .int lf, .int mm, .ref m27, .int fo, .ref m29, .ref m30, .ref m31])), (m7, .inl (y7, 96, .inl h7)), (m29, .inl (y29, 8, .inl h29)), (m31, .inl (y31, 4, .inl h31))]) [0, 1, 2, 4] rfl
        have hDc := hD.sub (ws' := [(mo, .inr (6, [.int th, .int tm, .int (nI sr), .int (nI nc), .ref m4, .ref m5, .ref m6, .ref m7, .ref m8, .ref m9, .ref m10, .ref m11, .ref m12, .int pw, .int rn, .int (nI no), .ref m16, .ref m17, .ref m18, .int (nI bz), .int (nI dg), .int (nI db), .int (nI df), .int (nI sp), .int tg, .int lf, .int mm, .ref m27, .int fo, .ref m29, .ref m30, .ref m31])), (m7, .inl (y7, 96, .inl h7)), (m29, .inl (y29, 8, .inl h29)), (m31, .inl (y31, 4, .inl h31))]) [0, 1, 2, 4] (by decide) rfl
        have hKc := hK.sub (tys' := [(y7, .int), (y29, .int), (y31, .boolean)]) [0, 1, 3] rfl
        have hFc := va_free (wc := [(mo, .inr (6, [.int th, .int tm, .int (nI sr), .int (nI nc), .ref m4, .ref m5, .ref m6, .ref m7, .ref m8, .ref m9, .ref m10, .ref m11, .ref m12, .int pw, .int rn, .int (nI no), .ref m16, .ref m17, .ref m18, .int (nI bz), .int (nI dg), .int (nI db), .int (nI df), .int (nI sp), .int tg, .int lf, .int mm, .ref m27, .int fo, .ref m29, .ref m30, .ref m31])), (m7, .inl (y7, 96, .inl h7)), (m29, .inl (y29, 8, .inl h29)), (m31, .inl (y31, 4, .inl h31))]) hD hS hA [0, 1, 2, 4] rfl
        refine va_callv (va_runV (As := [.int 0]) (rest := []) ⟨hx, hb, hml, hown, hts⟩ (m_undo l dC dI _ mo m4 m5 m6 m7 m8 m9 m10 m11 m12 m16 m17 m18 m27 m29 m30 m31 th tm pw rn tg lf mm fo sr nc no bz dg db df sp y7 y29 y31 h7 h29 h31 0 a_6 b_6 (by omega) i2_6 i3_6 i1_6) (cwV 1 hts gX8_goes_X8_undo rfl rfl rfl (by decide +kernel) ⟨Nat.le_of_ble_eq_true rfl, Nat.le_of_ble_eq_true rfl⟩) ⟨pt_blindQ, va_recv hK hP (ci := 6) (q0 := 0) rfl rfl, pt_preQ hPc hKc hDc hN⟩ rfl rfl hl.1 rfl (lv_room (Nat.le_of_ble_eq_true rfl)) dX8_goes_42 ⟨Nat.le_of_ble_eq_true rfl, Nat.le_of_ble_eq_true rfl⟩) hS (fun q _ h => hFc q h) hFc (fun u_7 t H1 locs ht hvm hw_7 hB hz1 hk1 hS => ?_)
        obtain ⟨v_7, n_7, F_7⟩ := u_7
        obtain ⟨hP1, hK1, hD1⟩ := hB
        try dsimp only at hw_7
        rw [ht] at hP1
        have hK1 := va_K.moved hvm.symm hK1
        obtain ⟨hP, hD⟩ := va_join (wr := [(m30, .inl (y30, 4, .inl h30))]) (w1 := [(mo, .inr (6, [.int th, .int tm, .int (nI sr), .int (nI nc), .ref m4, .ref m5, .ref m6, .ref m7, .ref m8, .ref m9, .ref m10, .ref m11, .ref m12, .int pw, .int rn, .int (nI no), .ref m16, .ref m17, .ref m18, .int (nI bz), .int (nI dg), .int (nI db), .int (nI df), .int (nI sp), .int tg, .int lf, .int mm, .ref m27, .int fo, .ref m29, .ref m30, .ref m31])), (m7, .inl (y7, 96, .inl (upd (upd h7 a_6 (h7 b_6)) b_6 0))), (m29, .inl (y29, 8, .inl h29)), (m31, .inl (y31, 4, .inl (upd h31 0 0)))]) hP hD [0, 1, 2, 4] [3] rfl rfl (by decide) (by decide) hk1 hFc hP1 hD1
        have hK := hK.app hK1
        generalize H1 = H at hP hS ⊢
        have hP : va_P (dC, dI) vwCl [(m30, .inl (y30, 4, .inl h30)), (mo, .inr (6, [.int th, .int tm, .int (nI sr), .int (nI nc), .ref m4, .ref m5, .ref m6, .ref m7, .ref m8, .ref m9, .ref m10, .ref m11, .ref m12, .int pw, .int rn, .int (nI no), .ref m16, .ref m17, .ref m18, .int (nI bz), .int (nI dg), .int (nI db), .int (nI df), .int (nI sp), .int tg, .int lf, .int mm, .ref m27, .int fo, .ref m29, .ref m30, .ref m31])), (m7, .inl (y7, 96, .inl (upd (upd h7 a_6 (h7 b_6)) b_6 0))), (m29, .inl (y29, 8, .inl h29)), (m31, .inl (y31, 4, .inl (upd h31 0 0)))] H := hP
        have hD : va_D A [(m30, .inl (y30, 4, .inl h30)), (mo, .inr (6, [.int th, .int tm, .int (nI sr), .int (nI nc), .ref m4, .ref m5, .ref m6, .ref m7, .ref m8, .ref m9, .ref m10, .ref m11, .ref m12, .int pw, .int rn, .int (nI no), .ref m16, .ref m17, .ref m18, .int (nI bz), .int (nI dg), .int (nI db), .int (nI df), .int (nI sp), .int tg, .int lf, .int mm, .ref m27, .int fo, .ref m29, .ref m30, .ref m31])), (m7, .inl (y7, 96, .inl (upd (upd h7 a_6 (h7 b_6)) b_6 0))), (m29, .inl (y29, 8, .inl h29)), (m31, .inl (y31, 4, .inl (upd h31 0 0)))] := hD
        have hK : va_K (dC, dI) vwCl [(y7, .int), (y29, .int), (y30, .int), (y31, .boolean)] s := hK
        rw [mundo' i6_6 i7_6 i10_6 i11_6] at hP hD
        have hP : va_P (dC, dI) vwCl [(m30, .inl (y30, 4, .inl h30)), (mo, .inr (6, [.int th, .int tm, .int (nI sr), .int (nI nc), .ref m4, .ref m5, .ref m6, .ref m7, .ref m8, .ref m9, .ref m10, .ref m11, .ref m12, .int pw, .int rn, .int (nI no), .ref m16, .ref m17, .ref m18, .int (nI bz), .int (nI dg), .int (nI db), .int (nI df), .int (nI sp), .int tg, .int lf, .int mm, .ref m27, .int fo, .ref m29, .ref m30, .ref m31])), (m7, .inl (y7, 96, .inl h_6)), (m29, .inl (y29, 8, .inl h29)), (m31, .inl (y31, 4, .inl (upd h31 0 0)))] H := hP
        have hD : va_D A [(m30, .inl (y30, 4, .inl h30)), (mo, .inr (6, [.int th, .int tm, .int (nI sr), .int (nI nc), .ref m4, .ref m5, .ref m6, .ref m7, .ref m8, .ref m9, .ref m10, .ref m11, .ref m12, .int pw, .int rn, .int (nI no), .ref m16, .ref m17, .ref m18, .int (nI bz), .int (nI dg), .int (nI db), .int (nI df), .int (nI sp), .int tg, .int lf, .int mm, .ref m27, .int fo, .ref m29, .ref m30, .ref m31])), (m7, .inl (y7, 96, .inl h_6)), (m29, .inl (y29, 8, .inl h29)), (m31, .inl (y31, 4, .inl (upd h31 0 0)))] := hD
        have C_6 : ∀ i, mC (h_6 i) := fun i => by rw [← mundo' i6_6 i7_6 i10_6 i11_6]; exact s_upd (fun i => s_upd gC (gC _) i) (Or.inr ⟨0, by omega, rfl⟩) i
        refine lv_aload_n hx hb dX8_goes_45 rfl (lv_at hl 2 rfl) ?_
        refine lv_iload_n hx hb dX8_goes_46 rfl (lv_at hl 3 rfl) ?_
        refine lv_iload_n hx hb dX8_goes_47 rfl (lv_at hl 1 rfl) ?_
        have hPc := hP.sub (ws' := [(mo, .inr (6, [.int th, .int tm, .int (nI sr), .int (nI nc), .ref m4, .ref m5, .ref m6, .ref m7, .ref m8, .ref m9, .ref m10, .ref m11, .ref m12, .int pw, .int rn, .int (nI no), .ref m16, .ref m17, .ref m18, .int (nI bz), .int (nI dg), .int (nI db), .int (nI df), .int (nI sp), .int tg, .int lf, .int mm, .ref m27, .int fo, .ref m29, .ref m30, .ref m31])), (m7, .inl (y7, 96, .inl h_6)), (m29, .inl (y29, 8, .inl h29)), (m30, .inl (y30, 4, .inl h30)), (m31, .inl (y31, 4, .inl (upd h31 0 0)))]) [1, 2, 3, 0, 4] rfl
        have hDc := hD.sub (ws' := [(mo, .inr (6, [.int th, .int tm, .int (nI sr), .int (nI nc), .ref m4, .ref m5, .ref m6, .ref m7, .ref m8, .ref m9, .ref m10, .ref m11, .ref m12, .int pw, .int rn, .int (nI no), .ref m16, .ref m17, .ref m18, .int (nI bz), .int (nI dg), .int (nI db), .int (nI df), .int (nI sp), .int tg, .int lf, .int mm, .ref m27, .int fo, .ref m29, .ref m30, .ref m31])), (m7, .inl (y7, 96, .inl h_6)), (m29, .inl (y29, 8, .inl h29)), (m30, .inl (y30, 4, .inl h30)), (m31, .inl (y31, 4, .inl (upd h31 0 0)))]) [1, 2, 3, 0, 4] (by decide) rfl
        have hKc := hK.sub (tys' := [(y7, .int), (y29, .int), (y30, .int), (y31, .boolean)]) [0, 1, 2, 3] rfl
        have hFc := va_free (wc := [(mo, .inr (6, [.int th, .int tm, .int (nI sr), .int (nI nc), .ref m4, .ref m5, .ref m6, .ref m7, .ref m8, .ref m9, .ref m10, .ref m11, .ref m12, .int pw, .int rn, .int (nI no), .ref m16, .ref m17, .ref m18, .int (nI bz), .int (nI dg), .int (nI db), .int (nI df), .int (nI sp), .int tg, .int lf, .int mm, .ref m27, .int fo, .ref m29, .ref m30, .ref m31])), (m7, .inl (y7, 96, .inl h_6)), (m29, .inl (y29, 8, .inl h29)), (m30, .inl (y30, 4, .inl h30)), (m31, .inl (y31, 4, .inl (upd h31 0 0)))]) hD hS hA [1, 2, 3, 0, 4] rfl
        refine va_calli (va_runV (As := [.int (nI tg9), .int 0]) (rest := []) ⟨hx, hb, hml, hown, hts⟩ (m_turns l dC dI _ mo m4 m5 m6 m7 m8 m9 m10 m11 m12 m16 m17 m18 m27 m29 m30 m31 th tm pw rn tg lf mm fo sr nc no bz dg db df sp y7 y29 y30 y31 h_6 h29 h30 (upd h31 0 0) tg9 0 t0 htg (by decide) (by omega) gp0 C_6) (cwV 2 hts gX8_goes_X8_turns rfl rfl rfl (by decide +kernel) ⟨Nat.le_of_ble_eq_true rfl, Nat.le_of_ble_eq_true rfl⟩) ⟨pt_blindQ, va_recv hK hP (ci := 6) (q0 := 1) rfl rfl, pt_preQ hPc hKc hDc hN⟩ rfl rfl hl.1 rfl (lv_room (Nat.le_of_ble_eq_true rfl)) dX8_goes_48 ⟨Nat.le_of_ble_eq_true rfl, Nat.le_of_ble_eq_true rfl⟩) hS (fun q _ h => hFc q h) hFc (fun r_8 u_8 t H1 locs ht hvm hw_8 hB hz1 hk1 hS => ?_)
        obtain ⟨v_8, n_8, F_8⟩ := u_8
        obtain ⟨hP1, hK1, hD1⟩ := hB
        try dsimp only at hw_8
        rw [ht] at hP1
        have hK1 := va_K.moved hvm.symm hK1
        obtain ⟨hP, hD⟩ := va_join (wr := []) (w1 := [(mo, .inr (6, [.int th, .int tm, .int (nI sr), .int (nI nc), .ref m4, .ref m5, .ref m6, .ref m7, .ref m8, .ref m9, .ref m10, .ref m11, .ref m12, .int pw, .int rn, .int (nI no), .ref m16, .ref m17, .ref m18, .int (nI bz), .int (nI dg), .int (nI db), .int (nI df), .int (nI sp), .int tg, .int lf, .int mm, .ref m27, .int fo, .ref m29, .ref m30, .ref m31])), (m7, .inl (y7, 96, .inl (F_8 0))), (m29, .inl (y29, 8, .inl (F_8 1))), (m30, .inl (y30, 4, .inl (F_8 2))), (m31, .inl (y31, 4, .inl (F_8 3)))]) hP hD [1, 2, 3, 0, 4] [] rfl rfl (by decide) (by decide) hk1 hFc hP1 hD1
        have hK := hK.app hK1
        generalize H1 = H at hP hS ⊢
        have hP : va_P (dC, dI) vwCl [(mo, .inr (6, [.int th, .int tm, .int (nI sr), .int (nI nc), .ref m4, .ref m5, .ref m6, .ref m7, .ref m8, .ref m9, .ref m10, .ref m11, .ref m12, .int pw, .int rn, .int (nI no), .ref m16, .ref m17, .ref m18, .int (nI bz), .int (nI dg), .int (nI db), .int (nI df), .int (nI sp), .int tg, .int lf, .int mm, .ref m27, .int fo, .ref m29, .ref m30, .ref m31])), (m7, .inl (y7, 96, .inl (F_8 0))), (m29, .inl (y29, 8, .inl (F_8 1))), (m30, .inl (y30, 4, .inl (F_8 2))), (m31, .inl (y31, 4, .inl (F_8 3)))] H := hP
        have hD : va_D A [(mo, .inr (6, [.int th, .int tm, .int (nI sr), .int (nI nc), .ref m4, .ref m5, .ref m6, .ref m7, .ref m8, .ref m9, .ref m10, .ref m11, .ref m12, .int pw, .int rn, .int (nI no), .ref m16, .ref m17, .ref m18, .int (nI bz), .int (nI dg), .int (nI db), .int (nI df), .int (nI sp), .int tg, .int lf, .int mm, .ref m27, .int fo, .ref m29, .ref m30, .ref m31])), (m7, .inl (y7, 96, .inl (F_8 0))), (m29, .inl (y29, 8, .inl (F_8 1))), (m30, .inl (y30, 4, .inl (F_8 2))), (m31, .inl (y31, 4, .inl (F_8 3)))] := hD
        have hK : va_K (dC, dI) vwCl [(y7, .int), (y29, .int), (y30, .int), (y31, .boolean)] s := hK
        rcases hw_8 with ⟨rfl, e1_8, e2_8, e3_8, e4_8, e5_8⟩ | ⟨rfl, a_8, b_8, x_8, t_8, e1_8, e2_8, e3_8, e4_8, e5_8, e6_8, e7_8, e8_8, e9_8, e10_8, e11_8, e12_8, e13_8, e14_8, e15_8, e16_8⟩
        · skip
          rw [e1_8, e2_8, e3_8] at hP hD
          have hP : va_P (dC, dI) vwCl [(mo, .inr (6, [.int th, .int tm, .int (nI sr), .int (nI nc), .ref m4, .ref m5, .ref m6, .ref m7, .ref m8, .ref m9, .ref m10, .ref m11, .ref m12, .int pw, .int rn, .int (nI no), .ref m16, .ref m17, .ref m18, .int (nI bz), .int (nI dg), .int (nI db), .int (nI df), .int (nI sp), .int tg, .int lf, .int mm, .ref m27, .int fo, .ref m29, .ref m30, .ref m31])), (m7, .inl (y7, 96, .inl h_6)), (m29, .inl (y29, 8, .inl h29)), (m30, .inl (y30, 4, .inl (F_8 2))), (m31, .inl (y31, 4, .inl (upd h31 0 0)))] H := hP
          have hD : va_D A [(mo, .inr (6, [.int th, .int tm, .int (nI sr), .int (nI nc), .ref m4, .ref m5, .ref m6, .ref m7, .ref m8, .ref m9, .ref m10, .ref m11, .ref m12, .int pw, .int rn, .int (nI no), .ref m16, .ref m17, .ref m18, .int (nI bz), .int (nI dg), .int (nI db), .int (nI df), .int (nI sp), .int tg, .int lf, .int mm, .ref m27, .int fo, .ref m29, .ref m30, .ref m31])), (m7, .inl (y7, 96, .inl h_6)), (m29, .inl (y29, 8, .inl h29)), (m30, .inl (y30, 4, .inl (F_8 2))), (m31, .inl (y31, 4, .inl (upd h31 0 0)))] := hD
          refine lv_if_ne (tgt := 60) hx hb dX8_goes_51 (by decide) (fun c => absurd (by decide) c) (fun _ => ?_)
          refine lv_iinc (v := (-1)) (lv' := [(3, .int (-1)), (4, .int 0), (0, .ref mo), (1, .int (nI tg9)), (2, .int 1)]) hx hb dX8_goes_54 hl (k := 1) rfl (by decide) (by decide) rfl (fun ls hl => ?_)
          refine lv_goto (tgt := 22) hx hb dX8_goes_57 (by decide) ?_
          exact ih (0) H locs ls (by omega) ⟨0, (-1), 0, h_6, h29, F_8 2, upd h31 0 0, 0, t0, t1, t2, lv_sub hl [1, 0, 2, 3, 4] rfl, by omega, rfl, Or.inl rfl, m_6, mD.down gD, ⟨by omega, by omega, by omega⟩, ⟨fun q => absurd q (by decide), fun q => absurd q (by decide), fun q => absurd q (by decide)⟩, ⟨fun _ => rfl, fun q => absurd q (by decide)⟩, fun q => absurd q (by decide), ⟨fun _ => rfl, fun q => absurd q (by decide), fun q => absurd q (by decide), fun q => absurd q (by decide)⟩, C_6, hP.sub [0, 1, 2, 3, 4] rfl, hD.sub [0, 1, 2, 3, 4] (by decide) rfl, hS⟩
        · skip
          rw [e14_8, e15_8, e16_8] at hP hD
          have m_8 : mdo (upd h29 0 (nI (100 * a_8 + b_8))) (tg9 / 24) f7 1 (upd (upd h_6 b_8 (nI x_8)) a_8 0) := ⟨_, a_8, b_8, x_8, mdo.upd 0 _ (Nat.le_refl _) m_6, pk_us, e5_8, e6_8, e7_8, e8_8, e9_8, e10_8, e11_8, e12_8, e13_8, rfl⟩
          have hP : va_P (dC, dI) vwCl [(mo, .inr (6, [.int th, .int tm, .int (nI sr), .int (nI nc), .ref m4, .ref m5, .ref m6, .ref m7, .ref m8, .ref m9, .ref m10, .ref m11, .ref m12, .int pw, .int rn, .int (nI no), .ref m16, .ref m17, .ref m18, .int (nI bz), .int (nI dg), .int (nI db), .int (nI df), .int (nI sp), .int tg, .int lf, .int mm, .ref m27, .int fo, .ref m29, .ref m30, .ref m31])), (m7, .inl (y7, 96, .inl (upd (upd h_6 b_8 (nI x_8)) a_8 0))), (m29, .inl (y29, 8, .inl (upd h29 0 (nI (100 * a_8 + b_8))))), (m30, .inl (y30, 4, .inl (F_8 2))), (m31, .inl (y31, 4, .inl (upd (upd h31 0 0) 0 1)))] H := hP
          have hD : va_D A [(mo, .inr (6, [.int th, .int tm, .int (nI sr), .int (nI nc), .ref m4, .ref m5, .ref m6, .ref m7, .ref m8, .ref m9, .ref m10, .ref m11, .ref m12, .int pw, .int rn, .int (nI no), .ref m16, .ref m17, .ref m18, .int (nI bz), .int (nI dg), .int (nI db), .int (nI df), .int (nI sp), .int tg, .int lf, .int mm, .ref m27, .int fo, .ref m29, .ref m30, .ref m31])), (m7, .inl (y7, 96, .inl (upd (upd h_6 b_8 (nI x_8)) a_8 0))), (m29, .inl (y29, 8, .inl (upd h29 0 (nI (100 * a_8 + b_8))))), (m30, .inl (y30, 4, .inl (F_8 2))), (m31, .inl (y31, 4, .inl (upd (upd h31 0 0) 0 1)))] := hD
          refine lv_if_ne (tgt := 60) hx hb dX8_goes_51 (by decide) (fun _ => ?_) (fun c => absurd c (by decide))
          refine lv_iload_n hx hb dX8_goes_60 rfl (lv_at hl 1 rfl) ?_
          refine lv_iload_n hx hb dX8_goes_61 rfl (lv_at hl 4 rfl) ?_
          refine lv_iconst (v := 1) hx hb dX8_goes_62 (by decide) ?_
          refine lv_isub hx hb dX8_goes_63 ?_
          refine pt_topi 0 (by decide) ?_
          refine lv_icmp_ne (tgt := 77) hx hb dX8_goes_64 (by decide) (fun c => absurd (by decide) c) (fun _ => ?_)
          refine lv_aload_n hx hb dX8_goes_67 rfl (lv_at hl 2 rfl) ?_
          refine lv_iload_n hx hb dX8_goes_68 rfl (lv_at hl 3 rfl) ?_
          refine pt_cSi (va_runV (As := [.int (nI tg9)]) (rest := []) ⟨hx, hb, hml, hown, hts⟩ (m_isReached l dC dI mo m4 m5 m6 m7 m8 m9 m10 m11 m12 m16 m17 m18 m27 m29 m30 m31 th tm pw rn tg lf mm fo sr nc no bz dg db df sp y7 (upd (upd h_6 b_8 (nI x_8)) a_8 0) tg9 (by omega)) (cwV 1 hts gX8_goes_X8_isReached rfl rfl rfl (by decide +kernel) ⟨Nat.le_of_ble_eq_true rfl, Nat.le_of_ble_eq_true rfl⟩) ⟨pt_blind, va_recv hK hP (ci := 6) (q0 := 0) rfl rfl, pt_pre (w := [(mo, .inr (6, [.int th, .int tm, .int (nI sr), .int (nI nc), .ref m4, .ref m5, .ref m6, .ref m7, .ref m8, .ref m9, .ref m10, .ref m11, .ref m12, .int pw, .int rn, .int (nI no), .ref m16, .ref m17, .ref m18, .int (nI bz), .int (nI dg), .int (nI db), .int (nI df), .int (nI sp), .int tg, .int lf, .int mm, .ref m27, .int fo, .ref m29, .ref m30, .ref m31])), (m7, .inl (y7, 96, .inl (upd (upd h_6 b_8 (nI x_8)) a_8 0)))]) (tys := [(y7, .int)]) (hP.sub [0, 1] rfl) (hK.sub [0] rfl) hN⟩ rfl rfl hl.1 rfl (lv_room (Nat.le_of_ble_eq_true rfl)) dX8_goes_69 ⟨Nat.le_of_ble_eq_true rfl, Nat.le_of_ble_eq_true rfl⟩) (fun r_9 hr_9 => ?_)
          rcases hr_9 with rfl | rfl
          · skip
            refine lv_istore (lv' := [(4, .int 0), (3, .int 0), (0, .ref mo), (1, .int (nI tg9)), (2, .int 1)]) hx hb dX8_goes_72 hl (by decide) rfl (fun ls hl => ?_)
            refine lv_goto (tgt := 22) hx hb dX8_goes_74 (by decide) ?_
            exact ih ((577 - t_8) * 1000000) H locs ls (by omega) ⟨1, 0, 0, upd (upd h_6 b_8 (nI x_8)) a_8 0, upd h29 0 (nI (100 * a_8 + b_8)), F_8 2, upd (upd h31 0 0) 0 1, 1, t_8, t1, t2, lv_sub hl [0, 1, 2, 3, 4] rfl, by omega, rfl, Or.inl rfl, m_8, mD.up (mD.down gD), ⟨by omega, by omega, by omega⟩, ⟨fun _ => e3_8, fun q => absurd q (by decide), fun q => absurd q (by decide)⟩, ⟨fun q => absurd q (by decide), fun _ => Or.inr rfl⟩, fun q => absurd q (by decide), ⟨fun q => absurd q (by decide), fun _ => rfl, fun q => absurd q (by decide), fun q => absurd q (by decide)⟩, mC_moved C_6 e12_8, hP.sub [0, 1, 2, 3, 4] rfl, hD.sub [0, 1, 2, 3, 4] (by decide) rfl, hS⟩
          · skip
            refine lv_istore (lv' := [(4, .int 1), (3, .int 0), (0, .ref mo), (1, .int (nI tg9)), (2, .int 1)]) hx hb dX8_goes_72 hl (by decide) rfl (fun ls hl => ?_)
            refine lv_goto (tgt := 22) hx hb dX8_goes_74 (by decide) ?_
            exact ih ((577 - t_8) * 1000000) H locs ls (by omega) ⟨1, 0, 1, upd (upd h_6 b_8 (nI x_8)) a_8 0, upd h29 0 (nI (100 * a_8 + b_8)), F_8 2, upd (upd h31 0 0) 0 1, 1, t_8, t1, t2, lv_sub hl [0, 1, 2, 3, 4] rfl, by omega, rfl, Or.inr rfl, m_8, mD.up (mD.down gD), ⟨by omega, by omega, by omega⟩, ⟨fun _ => e3_8, fun q => absurd q (by decide), fun q => absurd q (by decide)⟩, ⟨fun q => absurd q (by decide), fun _ => Or.inr rfl⟩, fun _ => rfl, ⟨fun q => absurd q (by decide), fun _ => rfl, fun q => absurd q (by decide), fun q => absurd q (by decide)⟩, mC_moved C_6 e12_8, hP.sub [0, 1, 2, 3, 4] rfl, hD.sub [0, 1, 2, 3, 4] (by decide) rfl, hS⟩
  · skip
    rcases (show kk = 0 ∨ kk = 1 by omega) with rfl | rfl
    · skip
      obtain rfl := gG rfl
      have hall := mdo.all gm
      have hl : lv_has ls 6 [(4, .int 1), (3, .int (-1)), (0, .ref mo), (1, .int (nI tg9)), (2, .int 1)] := hl
      have hmu : mu = 0 := gz.1 rfl
      refine lv_iload_n hx hb dX8_goes_22 rfl (lv_at hl 1 rfl) ?_
      refine lv_if_lt (tgt := 90) hx hb dX8_goes_23 (by decide) (fun _ => ?_) (fun c => absurd (by decide) c)
      refine lv_iload_n hx hb dX8_goes_90 rfl (lv_at hl 4 rfl) ?_
      refine lv_iconst (v := 1) hx hb dX8_goes_91 (by decide) ?_
      refine lv_isub hx hb dX8_goes_92 ?_
      refine pt_topi 0 (by decide) ?_
      refine lv_istore (lv' := [(5, .int 0), (4, .int 1), (3, .int (-1)), (0, .ref mo), (1, .int (nI tg9)), (2, .int 1)]) hx hb dX8_goes_93 hl (by decide) rfl (fun ls hl => ?_)
      refine lv_iload hx hb dX8_goes_95 (lv_at hl 0 rfl) ?_
      refine lv_if_lt (tgt := 122) hx hb dX8_goes_97 (by decide) (fun c => absurd c (by decide)) (fun _ => ?_)
      refine lv_aload_n hx hb dX8_goes_100 rfl (lv_at hl 3 rfl) ?_
      refine va_get (D := (dC, dI)) (ci := 6) (v := .ref m31) (C := RX8) (T := TX8) (N := 32) hx hb hts iX8 hown hK hP 0 rfl rfl 31 (by decide) (hts (.fieldLink RX8 60 "ParkTowerModel" "isDone" "[Z") (by decide +kernel)) (fun _ h9 => h9) rfl dX8_goes_101 ?_
      refine lv_iload hx hb dX8_goes_104 (lv_at hl 0 rfl) ?_
      refine va_zald hx hb hK hP 4 3 rfl rfl (vp_in_iff.mpr (by decide)) dX8_goes_106 ?_
      refine lv_topi (fun a_10 ea_10 => ?_)
      have ea_10 : a_10 = h31 0 := ea_10
      obtain rfl : a_10 = 1 := ea_10.trans (gD.yes (by decide))
      refine lv_if_eq (tgt := 116) hx hb dX8_goes_107 (by decide) (fun c => absurd c (by decide)) (fun _ => ?_)
      refine lv_aload_n hx hb dX8_goes_110 rfl (lv_at hl 3 rfl) ?_
      refine lv_iload hx hb dX8_goes_111 (lv_at hl 0 rfl) ?_
      obtain ⟨h_11, a_11, b_11, x_11, m_11, i1_11, i2_11, i3_11, i4_11, i5_11, i6_11, i7_11, i8_11, i9_11, i10_11, i11_11⟩ := gm
      have hPc := hP.sub (ws' := [(mo, .inr (6, [.int th, .int tm, .int (nI sr), .int (nI nc), .ref m4, .ref m5, .ref m6, .ref m7, .ref m8, .ref m9, .ref m10, .ref m11, .ref m12, .int pw, .int rn, .int (nI no), .ref m16, .ref m17, .ref m18, .int (nI bz), .int (nI dg), .int (nI db), .int (nI df), .int (nI sp), .int tg, .int lf, .int mm, .ref m27, .int fo, .ref m29, .ref m30, .ref m31])), (m7, .inl (y7, 96, .inl h7)), (m29, .inl (y29, 8, .inl h29)), (m31, .inl (y31, 4, .inl h31))]) [0, 1, 2, 4] rfl
      have hDc := hD.sub (ws' := [(mo, .inr (6, [.int th, .int tm, .int (nI sr), .int (nI nc), .ref m4, .ref m5, .ref m6, .ref m7, .ref m8, .ref m9, .ref m10, .ref m11, .ref m12, .int pw, .int rn, .int (nI no), .ref m16, .ref m17, .ref m18, .int (nI bz), .int (nI dg), .int (nI db), .int (nI df), .int (nI sp), .int tg, .int lf, .int mm, .ref m27, .int fo, .ref m29, .ref m30, .ref m31])), (m7, .inl (y7, 96, .inl h7)), (m29, .inl (y29, 8, .inl h29)), (m31, .inl (y31, 4, .inl h31))]) [0, 1, 2, 4] (by decide) rfl
      have hKc := hK.sub (tys' := [(y7, .int), (y29, .int), (y31, .boolean)]) [0, 1, 3] rfl
      have hFc := va_free (wc := [(mo, .inr (6, [.int th, .int tm, .int (nI sr), .int (nI nc), .ref m4, .ref m5, .ref m6, .ref m7, .ref m8, .ref m9, .ref m10, .ref m11, .ref m12, .int pw, .int rn, .int (nI no), .ref m16, .ref m17, .ref m18, .int (nI bz), .int (nI dg), .int (nI db), .int (nI df), .int (nI sp), .int tg, .int lf, .int mm, .ref m27, .int fo, .ref m29, .ref m30, .ref m31])), (m7, .inl (y7, 96, .inl h7)), (m29, .inl (y29, 8, .inl h29)), (m31, .inl (y31, 4, .inl h31))]) hD hS hA [0, 1, 2, 4] rfl
      refine va_callv (va_runV (As := [.int 0]) (rest := []) ⟨hx, hb, hml, hown, hts⟩ (m_undo l dC dI _ mo m4 m5 m6 m7 m8 m9 m10 m11 m12 m16 m17 m18 m27 m29 m30 m31 th tm pw rn tg lf mm fo sr nc no bz dg db df sp y7 y29 y31 h7 h29 h31 0 a_11 b_11 (by omega) i2_11 i3_11 i1_11) (cwV 1 hts gX8_goes_X8_undo rfl rfl rfl (by decide +kernel) ⟨Nat.le_of_ble_eq_true rfl, Nat.le_of_ble_eq_true rfl⟩) ⟨pt_blindQ, va_recv hK hP (ci := 6) (q0 := 0) rfl rfl, pt_preQ hPc hKc hDc hN⟩ rfl rfl hl.1 rfl (lv_room (Nat.le_of_ble_eq_true rfl)) dX8_goes_113 ⟨Nat.le_of_ble_eq_true rfl, Nat.le_of_ble_eq_true rfl⟩) hS (fun q _ h => hFc q h) hFc (fun u_12 t H1 locs ht hvm hw_12 hB hz1 hk1 hS => ?_)
      obtain ⟨v_12, n_12, F_12⟩ := u_12
      obtain ⟨hP1, hK1, hD1⟩ := hB
      try dsimp only at hw_12
      rw [ht] at hP1
      have hK1 := va_K.moved hvm.symm hK1
      obtain ⟨hP, hD⟩ := va_join (wr := [(m30, .inl (y30, 4, .inl h30))]) (w1 := [(mo, .inr (6, [.int th, .int tm, .int (nI sr), .int (nI nc), .ref m4, .ref m5, .ref m6, .ref m7, .ref m8, .ref m9, .ref m10, .ref m11, .ref m12, .int pw, .int rn, .int (nI no), .ref m16, .ref m17, .ref m18, .int (nI bz), .int (nI dg), .int (nI db), .int (nI df), .int (nI sp), .int tg, .int lf, .int mm, .ref m27, .int fo, .ref m29, .ref m30, .ref m31])), (m7, .inl (y7, 96, .inl (upd (upd h7 a_11 (h7 b_11)) b_11 0))), (m29, .inl (y29, 8, .inl h29)), (m31, .inl (y31, 4, .inl (upd h31 0 0)))]) hP hD [0, 1, 2, 4] [3] rfl rfl (by decide) (by decide) hk1 hFc hP1 hD1
      have hK := hK.app hK1
      generalize H1 = H at hP hS ⊢
      have hP : va_P (dC, dI) vwCl [(m30, .inl (y30, 4, .inl h30)), (mo, .inr (6, [.int th, .int tm, .int (nI sr), .int (nI nc), .ref m4, .ref m5, .ref m6, .ref m7, .ref m8, .ref m9, .ref m10, .ref m11, .ref m12, .int pw, .int rn, .int (nI no), .ref m16, .ref m17, .ref m18, .int (nI bz), .int (nI dg), .int (nI db), .int (nI df), .int (nI sp), .int tg, .int lf, .int mm, .ref m27, .int fo, .ref m29, .ref m30, .ref m31])), (m7, .inl (y7, 96, .inl (upd (upd h7 a_11 (h7 b_11)) b_11 0))), (m29, .inl (y29, 8, .inl h29)), (m31, .inl (y31, 4, .inl (upd h31 0 0)))] H := hP
      have hD : va_D A [(m30, .inl (y30, 4, .inl h30)), (mo, .inr (6, [.int th, .int tm, .int (nI sr), .int (nI nc), .ref m4, .ref m5, .ref m6, .ref m7, .ref m8, .ref m9, .ref m10, .ref m11, .ref m12, .int pw, .int rn, .int (nI no), .ref m16, .ref m17, .ref m18, .int (nI bz), .int (nI dg), .int (nI db), .int (nI df), .int (nI sp), .int tg, .int lf, .int mm, .ref m27, .int fo, .ref m29, .ref m30, .ref m31])), (m7, .inl (y7, 96, .inl (upd (upd h7 a_11 (h7 b_11)) b_11 0))), (m29, .inl (y29, 8, .inl h29)), (m31, .inl (y31, 4, .inl (upd h31 0 0)))] := hD
      have hK : va_K (dC, dI) vwCl [(y7, .int), (y29, .int), (y30, .int), (y31, .boolean)] s := hK
      rw [mundo' i6_11 i7_11 i10_11 i11_11] at hP hD
      have hP : va_P (dC, dI) vwCl [(m30, .inl (y30, 4, .inl h30)), (mo, .inr (6, [.int th, .int tm, .int (nI sr), .int (nI nc), .ref m4, .ref m5, .ref m6, .ref m7, .ref m8, .ref m9, .ref m10, .ref m11, .ref m12, .int pw, .int rn, .int (nI no), .ref m16, .ref m17, .ref m18, .int (nI bz), .int (nI dg), .int (nI db), .int (nI df), .int (nI sp), .int tg, .int lf, .int mm, .ref m27, .int fo, .ref m29, .ref m30, .ref m31])), (m7, .inl (y7, 96, .inl h_11)), (m29, .inl (y29, 8, .inl h29)), (m31, .inl (y31, 4, .inl (upd h31 0 0)))] H := hP
      have hD : va_D A [(m30, .inl (y30, 4, .inl h30)), (mo, .inr (6, [.int th, .int tm, .int (nI sr), .int (nI nc), .ref m4, .ref m5, .ref m6, .ref m7, .ref m8, .ref m9, .ref m10, .ref m11, .ref m12, .int pw, .int rn, .int (nI no), .ref m16, .ref m17, .ref m18, .int (nI bz), .int (nI dg), .int (nI db), .int (nI df), .int (nI sp), .int tg, .int lf, .int mm, .ref m27, .int fo, .ref m29, .ref m30, .ref m31])), (m7, .inl (y7, 96, .inl h_11)), (m29, .inl (y29, 8, .inl h29)), (m31, .inl (y31, 4, .inl (upd h31 0 0)))] := hD
      have C_11 : ∀ i, mC (h_11 i) := fun i => by rw [← mundo' i6_11 i7_11 i10_11 i11_11]; exact s_upd (fun i => s_upd gC (gC _) i) (Or.inr ⟨0, by omega, rfl⟩) i
      refine lv_iinc (v := (-1)) (lv' := [(5, .int (-1)), (4, .int 1), (3, .int (-1)), (0, .ref mo), (1, .int (nI tg9)), (2, .int 1)]) hx hb dX8_goes_116 hl (k := 0) rfl (by decide) (by decide) rfl (fun ls hl => ?_)
      refine lv_goto (tgt := 95) hx hb dX8_goes_119 (by decide) ?_
      refine lv_iload hx hb dX8_goes_95 (lv_at hl 0 rfl) ?_
      refine lv_if_lt (tgt := 122) hx hb dX8_goes_97 (by decide) (fun _ => ?_) (fun c => absurd (by decide) c)
      have e9 : h_11 = f7 := m_11
      rw [e9] at hP hD
      have hP : va_P (dC, dI) vwCl [(m30, .inl (y30, 4, .inl h30)), (mo, .inr (6, [.int th, .int tm, .int (nI sr), .int (nI nc), .ref m4, .ref m5, .ref m6, .ref m7, .ref m8, .ref m9, .ref m10, .ref m11, .ref m12, .int pw, .int rn, .int (nI no), .ref m16, .ref m17, .ref m18, .int (nI bz), .int (nI dg), .int (nI db), .int (nI df), .int (nI sp), .int tg, .int lf, .int mm, .ref m27, .int fo, .ref m29, .ref m30, .ref m31])), (m7, .inl (y7, 96, .inl f7)), (m29, .inl (y29, 8, .inl h29)), (m31, .inl (y31, 4, .inl (upd h31 0 0)))] H := hP
      have hD : va_D A [(m30, .inl (y30, 4, .inl h30)), (mo, .inr (6, [.int th, .int tm, .int (nI sr), .int (nI nc), .ref m4, .ref m5, .ref m6, .ref m7, .ref m8, .ref m9, .ref m10, .ref m11, .ref m12, .int pw, .int rn, .int (nI no), .ref m16, .ref m17, .ref m18, .int (nI bz), .int (nI dg), .int (nI db), .int (nI df), .int (nI sp), .int tg, .int lf, .int mm, .ref m27, .int fo, .ref m29, .ref m30, .ref m31])), (m7, .inl (y7, 96, .inl f7)), (m29, .inl (y29, 8, .inl h29)), (m31, .inl (y31, 4, .inl (upd h31 0 0)))] := hD
      refine lv_iload hx hb dX8_goes_122 (lv_at hl 1 rfl) ?_
      have hP9 := hP.sub (ws' := [(mo, .inr (6, [.int th, .int tm, .int (nI sr), .int (nI nc), .ref m4, .ref m5, .ref m6, .ref m7, .ref m8, .ref m9, .ref m10, .ref m11, .ref m12, .int pw, .int rn, .int (nI no), .ref m16, .ref m17, .ref m18, .int (nI bz), .int (nI dg), .int (nI db), .int (nI df), .int (nI sp), .int tg, .int lf, .int mm, .ref m27, .int fo, .ref m29, .ref m30, .ref m31])), (m7, .inl (y7, 96, .inl f7)), (m29, .inl (y29, 8, .inl h29)), (m30, .inl (y30, 4, .inl h30)), (m31, .inl (y31, 4, .inl (upd h31 0 0)))]) [1, 2, 3, 0, 4] rfl
      have hD9 := hD.sub (ws' := [(mo, .inr (6, [.int th, .int tm, .int (nI sr), .int (nI nc), .ref m4, .ref m5, .ref m6, .ref m7, .ref m8, .ref m9, .ref m10, .ref m11, .ref m12, .int pw, .int rn, .int (nI no), .ref m16, .ref m17, .ref m18, .int (nI bz), .int (nI dg), .int (nI db), .int (nI df), .int (nI sp), .int tg, .int lf, .int mm, .ref m27, .int fo, .ref m29, .ref m30, .ref m31])), (m7, .inl (y7, 96, .inl f7)), (m29, .inl (y29, 8, .inl h29)), (m30, .inl (y30, 4, .inl h30)), (m31, .inl (y31, 4, .inl (upd h31 0 0)))]) [1, 2, 3, 0, 4] (by decide) rfl
      have hK9 := hK.sub (tys' := []) [] rfl
      refine W.widen (k := 0) (n := 0) (by omega) (by omega) ?_
      exact W.zret (v := 1) (ty := .boolean) hx hb hr rfl (fun t ht hW => ⟨⟨1, (fun q_ => ([] : List Int32).getD q_ 0, fun q_ => ([] : List Nat).getD q_ 0, fun q_ => ([h29, h30, upd h31 0 0] : List (Nat → Int32)).getD q_ (fun _ => 0)), rfl, ⟨Or.inr ⟨rfl, hall⟩, mD.o (mD.down gD)⟩, by rw [ht]; exact hP9, va_K.moved hW.alike hK9, hD9⟩, hS.F ht⟩) hS.2.2 dX8_goes_124
    · skip
      obtain rfl := gG rfl
      have hall := mdo.all gm
      have hl : lv_has ls 6 [(4, .int 1), (3, .int 0), (0, .ref mo), (1, .int (nI tg9)), (2, .int 1)] := hl
      have hmu : mu = (577 - t0) * 1000000 := gz.2.1 rfl
      have gp0 : h30 0 = pI t0 := gp.1 (by decide)
      refine lv_iload_n hx hb dX8_goes_22 rfl (lv_at hl 1 rfl) ?_
      refine lv_if_lt (tgt := 90) hx hb dX8_goes_23 (by decide) (fun c => absurd c (by decide)) (fun _ => ?_)
      refine lv_iload hx hb dX8_goes_26 (lv_at hl 0 rfl) ?_
      refine lv_if_ne (tgt := 90) hx hb dX8_goes_28 (by decide) (fun _ => ?_) (fun c => absurd c (by decide))
      refine lv_iload_n hx hb dX8_goes_90 rfl (lv_at hl 4 rfl) ?_
      refine lv_iconst (v := 1) hx hb dX8_goes_91 (by decide) ?_
      refine lv_isub hx hb dX8_goes_92 ?_
      refine pt_topi 0 (by decide) ?_
      refine lv_istore (lv' := [(5, .int 0), (4, .int 1), (3, .int 0), (0, .ref mo), (1, .int (nI tg9)), (2, .int 1)]) hx hb dX8_goes_93 hl (by decide) rfl (fun ls hl => ?_)
      refine lv_iload hx hb dX8_goes_95 (lv_at hl 0 rfl) ?_
      refine lv_if_lt (tgt := 122) hx hb dX8_goes_97 (by decide) (fun c => absurd c (by decide)) (fun _ => ?_)
      refine lv_aload_n hx hb dX8_goes_100 rfl (lv_at hl 3 rfl) ?_
      refine va_get (D := (dC, dI)) (ci := 6) (v := .ref m31) (C := RX8) (T := TX8) (N := 32) hx hb hts iX8 hown hK hP 0 rfl rfl 31 (by decide) (hts (.fieldLink RX8 60 "ParkTowerModel" "isDone" "[Z") (by decide +kernel)) (fun _ h9 => h9) rfl dX8_goes_101 ?_
      refine lv_iload hx hb dX8_goes_104 (lv_at hl 0 rfl) ?_
      refine va_zald hx hb hK hP 4 3 rfl rfl (vp_in_iff.mpr (by decide)) dX8_goes_106 ?_
      refine lv_topi (fun a_13 ea_13 => ?_)
      have ea_13 : a_13 = h31 0 := ea_13
      obtain rfl : a_13 = 1 := ea_13.trans (gD.yes (by decide))
      refine lv_if_eq (tgt := 116) hx hb dX8_goes_107 (by decide) (fun c => absurd c (by decide)) (fun _ => ?_)
      refine lv_aload_n hx hb dX8_goes_110 rfl (lv_at hl 3 rfl) ?_
      refine lv_iload hx hb dX8_goes_111 (lv_at hl 0 rfl) ?_
      obtain ⟨h_14, a_14, b_14, x_14, m_14, i1_14, i2_14, i3_14, i4_14, i5_14, i6_14, i7_14, i8_14, i9_14, i10_14, i11_14⟩ := gm
      have hPc := hP.sub (ws' := [(mo, .inr (6, [.int th, .int tm, .int (nI sr), .int (nI nc), .ref m4, .ref m5, .ref m6, .ref m7, .ref m8, .ref m9, .ref m10, .ref m11, .ref m12, .int pw, .int rn, .int (nI no), .ref m16, .ref m17, .ref m18, .int (nI bz), .int (nI dg), .int (nI db), .int (nI df), .int (nI sp), .int tg, .int lf, .int mm, .ref m27, .int fo, .ref m29, .ref m30, .ref m31])), (m7, .inl (y7, 96, .inl h7)), (m29, .inl (y29, 8, .inl h29)), (m31, .inl (y31, 4, .inl h31))]) [0, 1, 2, 4] rfl
      have hDc := hD.sub (ws' := [(mo, .inr (6, [.int th, .int tm, .int (nI sr), .int (nI nc), .ref m4, .ref m5, .ref m6, .ref m7, .ref m8, .ref m9, .ref m10, .ref m11, .ref m12, .int pw, .int rn, .int (nI no), .ref m16, .ref m17, .ref m18, .int (nI bz), .int (nI dg), .int (nI db), .int (nI df), .int (nI sp), .int tg, .int lf, .int mm, .ref m27, .int fo, .ref m29, .ref m30, .ref m31])), (m7, .inl (y7, 96, .inl h7)), (m29, .inl (y29, 8, .inl h29)), (m31, .inl (y31, 4, .inl h31))]) [0, 1, 2, 4] (by decide) rfl
      have hKc := hK.sub (tys' := [(y7, .int), (y29, .int), (y31, .boolean)]) [0, 1, 3] rfl
      have hFc := va_free (wc := [(mo, .inr (6, [.int th, .int tm, .int (nI sr), .int (nI nc), .ref m4, .ref m5, .ref m6, .ref m7, .ref m8, .ref m9, .ref m10, .ref m11, .ref m12, .int pw, .int rn, .int (nI no), .ref m16, .ref m17, .ref m18, .int (nI bz), .int (nI dg), .int (nI db), .int (nI df), .int (nI sp), .int tg, .int lf, .int mm, .ref m27, .int fo, .ref m29, .ref m30, .ref m31])), (m7, .inl (y7, 96, .inl h7)), (m29, .inl (y29, 8, .inl h29)), (m31, .inl (y31, 4, .inl h31))]) hD hS hA [0, 1, 2, 4] rfl
      refine va_callv (va_runV (As := [.int 0]) (rest := []) ⟨hx, hb, hml, hown, hts⟩ (m_undo l dC dI _ mo m4 m5 m6 m7 m8 m9 m10 m11 m12 m16 m17 m18 m27 m29 m30 m31 th tm pw rn tg lf mm fo sr nc no bz dg db df sp y7 y29 y31 h7 h29 h31 0 a_14 b_14 (by omega) i2_14 i3_14 i1_14) (cwV 1 hts gX8_goes_X8_undo rfl rfl rfl (by decide +kernel) ⟨Nat.le_of_ble_eq_true rfl, Nat.le_of_ble_eq_true rfl⟩) ⟨pt_blindQ, va_recv hK hP (ci := 6) (q0 := 0) rfl rfl, pt_preQ hPc hKc hDc hN⟩ rfl rfl hl.1 rfl (lv_room (Nat.le_of_ble_eq_true rfl)) dX8_goes_113 ⟨Nat.le_of_ble_eq_true rfl, Nat.le_of_ble_eq_true rfl⟩) hS (fun q _ h => hFc q h) hFc (fun u_15 t H1 locs ht hvm hw_15 hB hz1 hk1 hS => ?_)
      obtain ⟨v_15, n_15, F_15⟩ := u_15
      obtain ⟨hP1, hK1, hD1⟩ := hB
      try dsimp only at hw_15
      rw [ht] at hP1
      have hK1 := va_K.moved hvm.symm hK1
      obtain ⟨hP, hD⟩ := va_join (wr := [(m30, .inl (y30, 4, .inl h30))]) (w1 := [(mo, .inr (6, [.int th, .int tm, .int (nI sr), .int (nI nc), .ref m4, .ref m5, .ref m6, .ref m7, .ref m8, .ref m9, .ref m10, .ref m11, .ref m12, .int pw, .int rn, .int (nI no), .ref m16, .ref m17, .ref m18, .int (nI bz), .int (nI dg), .int (nI db), .int (nI df), .int (nI sp), .int tg, .int lf, .int mm, .ref m27, .int fo, .ref m29, .ref m30, .ref m31])), (m7, .inl (y7, 96, .inl (upd (upd h7 a_14 (h7 b_14)) b_14 0))), (m29, .inl (y29, 8, .inl h29)), (m31, .inl (y31, 4, .inl (upd h31 0 0)))]) hP hD [0, 1, 2, 4] [3] rfl rfl (by decide) (by decide) hk1 hFc hP1 hD1
      have hK := hK.app hK1
      generalize H1 = H at hP hS ⊢
      have hP : va_P (dC, dI) vwCl [(m30, .inl (y30, 4, .inl h30)), (mo, .inr (6, [.int th, .int tm, .int (nI sr), .int (nI nc), .ref m4, .ref m5, .ref m6, .ref m7, .ref m8, .ref m9, .ref m10, .ref m11, .ref m12, .int pw, .int rn, .int (nI no), .ref m16, .ref m17, .ref m18, .int (nI bz), .int (nI dg), .int (nI db), .int (nI df), .int (nI sp), .int tg, .int lf, .int mm, .ref m27, .int fo, .ref m29, .ref m30, .ref m31])), (m7, .inl (y7, 96, .inl (upd (upd h7 a_14 (h7 b_14)) b_14 0))), (m29, .inl (y29, 8, .inl h29)), (m31, .inl (y31, 4, .inl (upd h31 0 0)))] H := hP
      have hD : va_D A [(m30, .inl (y30, 4, .inl h30)), (mo, .inr (6, [.int th, .int tm, .int (nI sr), .int (nI nc), .ref m4, .ref m5, .ref m6, .ref m7, .ref m8, .ref m9, .ref m10, .ref m11, .ref m12, .int pw, .int rn, .int (nI no), .ref m16, .ref m17, .ref m18, .int (nI bz), .int (nI dg), .int (nI db), .int (nI df), .int (nI sp), .int tg, .int lf, .int mm, .ref m27, .int fo, .ref m29, .ref m30, .ref m31])), (m7, .inl (y7, 96, .inl (upd (upd h7 a_14 (h7 b_14)) b_14 0))), (m29, .inl (y29, 8, .inl h29)), (m31, .inl (y31, 4, .inl (upd h31 0 0)))] := hD
      have hK : va_K (dC, dI) vwCl [(y7, .int), (y29, .int), (y30, .int), (y31, .boolean)] s := hK
      rw [mundo' i6_14 i7_14 i10_14 i11_14] at hP hD
      have hP : va_P (dC, dI) vwCl [(m30, .inl (y30, 4, .inl h30)), (mo, .inr (6, [.int th, .int tm, .int (nI sr), .int (nI nc), .ref m4, .ref m5, .ref m6, .ref m7, .ref m8, .ref m9, .ref m10, .ref m11, .ref m12, .int pw, .int rn, .int (nI no), .ref m16, .ref m17, .ref m18, .int (nI bz), .int (nI dg), .int (nI db), .int (nI df), .int (nI sp), .int tg, .int lf, .int mm, .ref m27, .int fo, .ref m29, .ref m30, .ref m31])), (m7, .inl (y7, 96, .inl h_14)), (m29, .inl (y29, 8, .inl h29)), (m31, .inl (y31, 4, .inl (upd h31 0 0)))] H := hP
      have hD : va_D A [(m30, .inl (y30, 4, .inl h30)), (mo, .inr (6, [.int th, .int tm, .int (nI sr), .int (nI nc), .ref m4, .ref m5, .ref m6, .ref m7, .ref m8, .ref m9, .ref m10, .ref m11, .ref m12, .int pw, .int rn, .int (nI no), .ref m16, .ref m17, .ref m18, .int (nI bz), .int (nI dg), .int (nI db), .int (nI df), .int (nI sp), .int tg, .int lf, .int mm, .ref m27, .int fo, .ref m29, .ref m30, .ref m31])), (m7, .inl (y7, 96, .inl h_14)), (m29, .inl (y29, 8, .inl h29)), (m31, .inl (y31, 4, .inl (upd h31 0 0)))] := hD
      have C_14 : ∀ i, mC (h_14 i) := fun i => by rw [← mundo' i6_14 i7_14 i10_14 i11_14]; exact s_upd (fun i => s_upd gC (gC _) i) (Or.inr ⟨0, by omega, rfl⟩) i
      refine lv_iinc (v := (-1)) (lv' := [(5, .int (-1)), (4, .int 1), (3, .int 0), (0, .ref mo), (1, .int (nI tg9)), (2, .int 1)]) hx hb dX8_goes_116 hl (k := 0) rfl (by decide) (by decide) rfl (fun ls hl => ?_)
      refine lv_goto (tgt := 95) hx hb dX8_goes_119 (by decide) ?_
      refine lv_iload hx hb dX8_goes_95 (lv_at hl 0 rfl) ?_
      refine lv_if_lt (tgt := 122) hx hb dX8_goes_97 (by decide) (fun _ => ?_) (fun c => absurd (by decide) c)
      have e9 : h_14 = f7 := m_14
      rw [e9] at hP hD
      have hP : va_P (dC, dI) vwCl [(m30, .inl (y30, 4, .inl h30)), (mo, .inr (6, [.int th, .int tm, .int (nI sr), .int (nI nc), .ref m4, .ref m5, .ref m6, .ref m7, .ref m8, .ref m9, .ref m10, .ref m11, .ref m12, .int pw, .int rn, .int (nI no), .ref m16, .ref m17, .ref m18, .int (nI bz), .int (nI dg), .int (nI db), .int (nI df), .int (nI sp), .int tg, .int lf, .int mm, .ref m27, .int fo, .ref m29, .ref m30, .ref m31])), (m7, .inl (y7, 96, .inl f7)), (m29, .inl (y29, 8, .inl h29)), (m31, .inl (y31, 4, .inl (upd h31 0 0)))] H := hP
      have hD : va_D A [(m30, .inl (y30, 4, .inl h30)), (mo, .inr (6, [.int th, .int tm, .int (nI sr), .int (nI nc), .ref m4, .ref m5, .ref m6, .ref m7, .ref m8, .ref m9, .ref m10, .ref m11, .ref m12, .int pw, .int rn, .int (nI no), .ref m16, .ref m17, .ref m18, .int (nI bz), .int (nI dg), .int (nI db), .int (nI df), .int (nI sp), .int tg, .int lf, .int mm, .ref m27, .int fo, .ref m29, .ref m30, .ref m31])), (m7, .inl (y7, 96, .inl f7)), (m29, .inl (y29, 8, .inl h29)), (m31, .inl (y31, 4, .inl (upd h31 0 0)))] := hD
      refine lv_iload hx hb dX8_goes_122 (lv_at hl 1 rfl) ?_
      have hP9 := hP.sub (ws' := [(mo, .inr (6, [.int th, .int tm, .int (nI sr), .int (nI nc), .ref m4, .ref m5, .ref m6, .ref m7, .ref m8, .ref m9, .ref m10, .ref m11, .ref m12, .int pw, .int rn, .int (nI no), .ref m16, .ref m17, .ref m18, .int (nI bz), .int (nI dg), .int (nI db), .int (nI df), .int (nI sp), .int tg, .int lf, .int mm, .ref m27, .int fo, .ref m29, .ref m30, .ref m31])), (m7, .inl (y7, 96, .inl f7)), (m29, .inl (y29, 8, .inl h29)), (m30, .inl (y30, 4, .inl h30)), (m31, .inl (y31, 4, .inl (upd h31 0 0)))]) [1, 2, 3, 0, 4] rfl
      have hD9 := hD.sub (ws' := [(mo, .inr (6, [.int th, .int tm, .int (nI sr), .int (nI nc), .ref m4, .ref m5, .ref m6, .ref m7, .ref m8, .ref m9, .ref m10, .ref m11, .ref m12, .int pw, .int rn, .int (nI no), .ref m16, .ref m17, .ref m18, .int (nI bz), .int (nI dg), .int (nI db), .int (nI df), .int (nI sp), .int tg, .int lf, .int mm, .ref m27, .int fo, .ref m29, .ref m30, .ref m31])), (m7, .inl (y7, 96, .inl f7)), (m29, .inl (y29, 8, .inl h29)), (m30, .inl (y30, 4, .inl h30)), (m31, .inl (y31, 4, .inl (upd h31 0 0)))]) [1, 2, 3, 0, 4] (by decide) rfl
      have hK9 := hK.sub (tys' := []) [] rfl
      refine W.widen (k := 0) (n := 0) (by omega) (by omega) ?_
      exact W.zret (v := 1) (ty := .boolean) hx hb hr rfl (fun t ht hW => ⟨⟨1, (fun q_ => ([] : List Int32).getD q_ 0, fun q_ => ([] : List Nat).getD q_ 0, fun q_ => ([h29, h30, upd h31 0 0] : List (Nat → Int32)).getD q_ (fun _ => 0)), rfl, ⟨Or.inr ⟨rfl, hall⟩, mD.o (mD.down gD)⟩, by rw [ht]; exact hP9, va_K.moved hW.alike hK9, hD9⟩, hS.F ht⟩) hS.2.2 dX8_goes_124
set_option maxHeartbeats 4000000 in
set_option maxRecDepth 100000 in
theorem m_goes2 (l : Launch) (dC : Nat → ClassId) (dI : Nat → Nat → Nat) (sz : Nat) (mo m4 m5 m6 m7 m8 m9 m10 m11 m12 m16 m17 m18 m27 m29 m30 m31 : Nat) (th tm pw rn tg lf mm fo : Int32) (sr nc no bz dg db df sp : Nat) (y7 y29 y30 y31 : ClassId) (f7 f29 f30 f31 : Nat → Int32) (tg9 : Nat) (htg : tg9 < 96) (hf : ∀ i, mC (f7 i)) (hdn : ∀ i, f31 i = 0) : Met l yX8_goes wsX8_goes ({ frames := 4, cells := 0, slots := 0, locals := 90 }) (va_Pc [.ref mo, .int (nI tg9), .int 2] (pt_BQ (dC, dI) [(mo, .inr (6, [.int th, .int tm, .int (nI sr), .int (nI nc), .ref m4, .ref m5, .ref m6, .ref m7, .ref m8, .ref m9, .ref m10, .ref m11, .ref m12, .int pw, .int rn, .int (nI no), .ref m16, .ref m17, .ref m18, .int (nI bz), .int (nI dg), .int (nI db), .int (nI df), .int (nI sp), .int tg, .int lf, .int mm, .ref m27, .int fo, .ref m29, .ref m30, .ref m31])), (m7, .inl (y7, 96, .inl f7)), (m29, .inl (y29, 8, .inl f29)), (m30, .inl (y30, 4, .inl f30)), (m31, .inl (y31, 4, .inl f31))] [(y7, .int), (y29, .int), (y30, .int), (y31, .boolean)] sz)) (va_Qi (fun (r : Int32) (u : (Nat → Int32) × (Nat → Nat) × (Nat → Nat → Int32)) => (r = 0 ∨ (r = 1 ∧ mch (u.2.2 0) (tg9 / 24) 0 2 f7)) ∧ (∀ i, (u.2.2 2) i = 0)) (fun u t => pt_at (dC, dI) (va_A [(mo, .inr (6, [.int th, .int tm, .int (nI sr), .int (nI nc), .ref m4, .ref m5, .ref m6, .ref m7, .ref m8, .ref m9, .ref m10, .ref m11, .ref m12, .int pw, .int rn, .int (nI no), .ref m16, .ref m17, .ref m18, .int (nI bz), .int (nI dg), .int (nI db), .int (nI df), .int (nI sp), .int tg, .int lf, .int mm, .ref m27, .int fo, .ref m29, .ref m30, .ref m31])), (m7, .inl (y7, 96, .inl f7)), (m29, .inl (y29, 8, .inl f29)), (m30, .inl (y30, 4, .inl f30)), (m31, .inl (y31, 4, .inl f31))] sz) [(mo, .inr (6, [.int th, .int tm, .int (nI sr), .int (nI nc), .ref m4, .ref m5, .ref m6, .ref m7, .ref m8, .ref m9, .ref m10, .ref m11, .ref m12, .int pw, .int rn, .int (nI no), .ref m16, .ref m17, .ref m18, .int (nI bz), .int (nI dg), .int (nI db), .int (nI df), .int (nI sp), .int tg, .int lf, .int mm, .ref m27, .int fo, .ref m29, .ref m30, .ref m31])), (m7, .inl (y7, 96, .inl f7)), (m29, .inl (y29, 8, .inl (u.2.2 0))), (m30, .inl (y30, 4, .inl (u.2.2 1))), (m31, .inl (y31, 4, .inl (u.2.2 2)))] [] t) (va_A [(mo, .inr (6, [.int th, .int tm, .int (nI sr), .int (nI nc), .ref m4, .ref m5, .ref m6, .ref m7, .ref m8, .ref m9, .ref m10, .ref m11, .ref m12, .int pw, .int rn, .int (nI no), .ref m16, .ref m17, .ref m18, .int (nI bz), .int (nI dg), .int (nI db), .int (nI df), .int (nI sp), .int tg, .int lf, .int mm, .ref m27, .int fo, .ref m29, .ref m30, .ref m31])), (m7, .inl (y7, 96, .inl f7)), (m29, .inl (y29, 8, .inl f29)), (m30, .inl (y30, 4, .inl f30)), (m31, .inl (y31, 4, .inl f31))] sz)) 0 0 (va_A [(mo, .inr (6, [.int th, .int tm, .int (nI sr), .int (nI nc), .ref m4, .ref m5, .ref m6, .ref m7, .ref m8, .ref m9, .ref m10, .ref m11, .ref m12, .int pw, .int rn, .int (nI no), .ref m16, .ref m17, .ref m18, .int (nI bz), .int (nI dg), .int (nI db), .int (nI df), .int (nI sp), .int tg, .int lf, .int mm, .ref m27, .int fo, .ref m29, .ref m30, .ref m31])), (m7, .inl (y7, 96, .inl f7)), (m29, .inl (y29, 8, .inl f29)), (m30, .inl (y30, 4, .inl f30)), (m31, .inl (y31, 4, .inl f31))] sz) := by
  refine Met.ofW (cc := cX8_goes) (maxL := 6) (ret := (some .boolean)) (by decide) rfl ?_
  intro p e s m args below meth c s₁ B hml hv
  obtain ⟨rfl, hsz, hP, hK, hD0, hN⟩ := hv
  have hx := B.exec
  have hb := B.bytes
  have hr := B.returns
  have hts := atoms_spec (ws := wsX8_goes) B.pre
  have hown : s.vm.findClass RX8 = some m.cls := findClass_of_methodNamed B.named
  have hlocks := B.notSynchronized
  have iX8 : ∀ w ∈ wsX80, w ∈ wsX8_goes := by decide +kernel
  subst hsz
  have hD := hD0.self (sz := s.heap.size)
  generalize hAe : va_A [(mo, .inr (6, [.int th, .int tm, .int (nI sr), .int (nI nc), .ref m4, .ref m5, .ref m6, .ref m7, .ref m8, .ref m9, .ref m10, .ref m11, .ref m12, .int pw, .int rn, .int (nI no), .ref m16, .ref m17, .ref m18, .int (nI bz), .int (nI dg), .int (nI db), .int (nI df), .int (nI sp), .int tg, .int lf, .int mm, .ref m27, .int fo, .ref m29, .ref m30, .ref m31])), (m7, .inl (y7, 96, .inl f7)), (m29, .inl (y29, 8, .inl f29)), (m30, .inl (y30, 4, .inl f30)), (m31, .inl (y31, 4, .inl f31))] s.heap.size = A at hD ⊢
  have hA : ∀ q : Nat, s.heap.size ≤ q → A q := fun q h => by rw [← hAe]; exact Or.inr h
  have hS : va_S A s.heap s.heap [] := va_S.rf
  have hP : va_P (dC, dI) vwCl [(mo, .inr (6, [.int th, .int tm, .int (nI sr), .int (nI nc), .ref m4, .ref m5, .ref m6, .ref m7, .ref m8, .ref m9, .ref m10, .ref m11, .ref m12, .int pw, .int rn, .int (nI no), .ref m16, .ref m17, .ref m18, .int (nI bz), .int (nI dg), .int (nI db), .int (nI df), .int (nI sp), .int tg, .int lf, .int mm, .ref m27, .int fo, .ref m29, .ref m30, .ref m31])), (m7, .inl (y7, 96, .inl f7)), (m29, .inl (y29, 8, .inl f29)), (m30, .inl (y30, 4, .inl f30)), (m31, .inl (y31, 4, .inl f31))] s.heap := hP
  have hK : va_K (dC, dI) vwCl [(y7, .int), (y29, .int), (y30, .int), (y31, .boolean)] s := hK
  have hl := lv_entry ([.ref mo, .int (nI tg9), .int 2]) (n := 6) (Nat.le_of_ble_eq_true rfl)
  rw [lg_entry_eq]
  generalize (lg_sl ([.ref mo, .int (nI tg9), .int 2]) ++ List.replicate (6 - (lg_sl ([.ref mo, .int (nI tg9), .int 2])).length) Slot.unset).toArray = ls at hl ⊢
  have hl : lv_has ls 6 [(0, .ref mo), (1, .int (nI tg9)), (2, .int 2)] := hl
  refine lv_iload_n hx hb dX8_goes_0 rfl (lv_at hl 2 rfl) ?_
  refine lv_if_ne (tgt := 10) hx hb dX8_goes_1 (by decide) (fun _ => ?_) (fun c => absurd c (by decide))
  refine lv_iconst (v := 0) hx hb dX8_goes_10 (by decide) ?_
  refine lv_istore_n (lv' := [(3, .int 0), (0, .ref mo), (1, .int (nI tg9)), (2, .int 2)]) hx hb dX8_goes_11 rfl hl (by decide) rfl (fun ls hl => ?_)
  refine lv_aload_n hx hb dX8_goes_12 rfl (lv_at hl 1 rfl) ?_
  refine va_get (D := (dC, dI)) (ci := 6) (v := .ref m30) (C := RX8) (T := TX8) (N := 32) hx hb hts iX8 hown hK hP 0 rfl rfl 30 (by decide) (hts (.fieldLink RX8 57 "ParkTowerModel" "pick" "[I") (by decide +kernel)) (fun _ h9 => h9) rfl dX8_goes_13 ?_
  refine lv_iconst (v := 0) hx hb dX8_goes_16 (by decide) ?_
  refine lv_iconst (v := (-1)) hx hb dX8_goes_17 (by decide) ?_
  refine va_iast hx hb hK hP hD hS 3 2 rfl rfl (vp_in_iff.mpr (by decide)) dX8_goes_18 (fun H locs hP hD hS => ?_)
  have hP : va_P (dC, dI) vwCl [(mo, .inr (6, [.int th, .int tm, .int (nI sr), .int (nI nc), .ref m4, .ref m5, .ref m6, .ref m7, .ref m8, .ref m9, .ref m10, .ref m11, .ref m12, .int pw, .int rn, .int (nI no), .ref m16, .ref m17, .ref m18, .int (nI bz), .int (nI dg), .int (nI db), .int (nI df), .int (nI sp), .int tg, .int lf, .int mm, .ref m27, .int fo, .ref m29, .ref m30, .ref m31])), (m7, .inl (y7, 96, .inl f7)), (m29, .inl (y29, 8, .inl f29)), (m30, .inl (y30, 4, .inl (upd f30 0 (-1)))), (m31, .inl (y31, 4, .inl f31))] H := hP
  have hD : va_D A [(mo, .inr (6, [.int th, .int tm, .int (nI sr), .int (nI nc), .ref m4, .ref m5, .ref m6, .ref m7, .ref m8, .ref m9, .ref m10, .ref m11, .ref m12, .int pw, .int rn, .int (nI no), .ref m16, .ref m17, .ref m18, .int (nI bz), .int (nI dg), .int (nI db), .int (nI df), .int (nI sp), .int tg, .int lf, .int mm, .ref m27, .int fo, .ref m29, .ref m30, .ref m31])), (m7, .inl (y7, 96, .inl f7)), (m29, .inl (y29, 8, .inl f29)), (m30, .inl (y30, 4, .inl (upd f30 0 (-1)))), (m31, .inl (y31, 4, .inl f31))] := hD
  refine lv_iconst (v := 0) hx hb dX8_goes_19 (by decide) ?_
  refine lv_istore (lv' := [(4, .int 0), (3, .int 0), (0, .ref mo), (1, .int (nI tg9)), (2, .int 2)]) hx hb dX8_goes_20 hl (by decide) rfl (fun ls hl => ?_)
  refine pt_loopM (fun mu H locs ls => ∃ (kk : Nat) (kx gd : Int32) (h7 h29 h30 h31 : Nat → Int32) (jj t0 t1 t2 : Nat), lv_has ls 6 [(4, .int gd), (3, .int kx), (0, .ref mo), (1, .int (nI tg9)), (2, .int 2)] ∧ (kk ≤ 2) ∧ (kx = pI kk) ∧ ((gd = 0 ∨ gd = 1)) ∧ (mdo h29 (tg9 / 24) f7 jj h7) ∧ (mD h31 jj) ∧ (t0 ≤ 576 ∧ t1 ≤ 576 ∧ t2 ≤ 576) ∧ ((1 ≤ kk → h30 0 = pI t0) ∧ (2 ≤ kk → h30 1 = pI t1) ∧ (3 ≤ kk → h30 2 = pI t2)) ∧ ((kk = 0 → jj = 0) ∧ (1 ≤ kk → jj + 1 = kk ∨ jj = kk)) ∧ ((gd = 1 → jj = 2)) ∧ ((kk = 0 → mu = 0) ∧ (kk = 1 → mu = (577 - t0) * 1000000) ∧ (kk = 2 → mu = (577 - t0) * 1000000 + (577 - t1) * 1000) ∧ (kk = 3 → mu = (577 - t0) * 1000000 + (577 - t1) * 1000 + (577 - t2))) ∧ ((∀ i, mC (h7 i))) ∧ va_P (dC, dI) vwCl [(mo, .inr (6, [.int th, .int tm, .int (nI sr), .int (nI nc), .ref m4, .ref m5, .ref m6, .ref m7, .ref m8, .ref m9, .ref m10, .ref m11, .ref m12, .int pw, .int rn, .int (nI no), .ref m16, .ref m17, .ref m18, .int (nI bz), .int (nI dg), .int (nI db), .int (nI df), .int (nI sp), .int tg, .int lf, .int mm, .ref m27, .int fo, .ref m29, .ref m30, .ref m31])), (m7, .inl (y7, 96, .inl h7)), (m29, .inl (y29, 8, .inl h29)), (m30, .inl (y30, 4, .inl h30)), (m31, .inl (y31, 4, .inl h31))] H ∧ va_D A [(mo, .inr (6, [.int th, .int tm, .int (nI sr), .int (nI nc), .ref m4, .ref m5, .ref m6, .ref m7, .ref m8, .ref m9, .ref m10, .ref m11, .ref m12, .int pw, .int rn, .int (nI no), .ref m16, .ref m17, .ref m18, .int (nI bz), .int (nI dg), .int (nI db), .int (nI df), .int (nI sp), .int tg, .int lf, .int mm, .ref m27, .int fo, .ref m29, .ref m30, .ref m31])), (m7, .inl (y7, 96, .inl h7)), (m29, .inl (y29, 8, .inl h29)), (m30, .inl (y30, 4, .inl h30)), (m31, .inl (y31, 4, .inl h31))] ∧ va_S A s.heap H locs) (fun mu H locs ls hI ih => ?_) (n := 577000000) ⟨1, 0, 0, f7, f29, upd f30 0 (-1), f31, 0, 0, 0, 0, lv_sub hl [0, 1, 2, 3, 4] rfl, by omega, rfl, Or.inl rfl, rfl, mD.z hdn, ⟨by omega, by omega, by omega⟩, ⟨fun _ => pk_us, fun q => absurd q (by decide), fun q => absurd q (by decide)⟩, ⟨fun q => absurd q (by decide), fun _ => Or.inl rfl⟩, fun q => absurd q (by decide), ⟨fun q => absurd q (by decide), fun _ => rfl, fun q => absurd q (by decide), fun q => absurd q (by decide)⟩, hf, hP.sub [0, 1, 2, 3, 4] rfl, hD.sub [0, 1, 2, 3, 4] (by decide) rfl, hS⟩
  obtain ⟨kk, kx, gd, h7, h29, h30, h31, jj, t0, t1, t2, hl, g0, gk, gg, gm, gD, gt, gp, gj, gG, gz, gC, hP, hD, hS⟩ := hI
  subst gk
  obtain ⟨gt0, gt1, gt2⟩ := gt
  rcases gg with rfl | rfl
  · skip
    rcases (show kk = 0 ∨ kk = 1 ∨ kk = 2 by omega) with rfl | rfl | rfl
    · skip
      obtain rfl := gj.1 rfl
      have hl : lv_has ls 6 [(4, .int 0), (3, .int (-1)), (0, .ref mo), (1, .int (nI tg9)), (2, .int 2)] := hl
      have hmu : mu = 0 := gz.1 rfl
      refine lv_iload_n hx hb dX8_goes_22 rfl (lv_at hl 1 rfl) ?_
      refine lv_if_lt (tgt := 90) hx hb dX8_goes_23 (by decide) (fun _ => ?_) (fun c => absurd (by decide) c)
      refine lv_iload_n hx hb dX8_goes_90 rfl (lv_at hl 4 rfl) ?_
      refine lv_iconst (v := 1) hx hb dX8_goes_91 (by decide) ?_
      refine lv_isub hx hb dX8_goes_92 ?_
      refine pt_topi 1 (by decide) ?_
      refine lv_istore (lv' := [(5, .int 1), (4, .int 0), (3, .int (-1)), (0, .ref mo), (1, .int (nI tg9)), (2, .int 2)]) hx hb dX8_goes_93 hl (by decide) rfl (fun ls hl => ?_)
      refine lv_iload hx hb dX8_goes_95 (lv_at hl 0 rfl) ?_
      refine lv_if_lt (tgt := 122) hx hb dX8_goes_97 (by decide) (fun c => absurd c (by decide)) (fun _ => ?_)
      refine lv_aload_n hx hb dX8_goes_100 rfl (lv_at hl 3 rfl) ?_
      refine va_get (D := (dC, dI)) (ci := 6) (v := .ref m31) (C := RX8) (T := TX8) (N := 32) hx hb hts iX8 hown hK hP 0 rfl rfl 31 (by decide) (hts (.fieldLink RX8 60 "ParkTowerModel" "isDone" "[Z") (by decide +kernel)) (fun _ h9 => h9) rfl dX8_goes_101 ?_
      refine lv_iload hx hb dX8_goes_104 (lv_at hl 0 rfl) ?_
      refine va_zald hx hb hK hP 4 3 rfl rfl (vp_in_iff.mpr (by decide)) dX8_goes_106 ?_
      refine lv_topi (fun a_1 ea_1 => ?_)
      have ea_1 : a_1 = h31 1 := ea_1
      obtain rfl : a_1 = 0 := ea_1.trans (gD.no (by decide))
      refine lv_if_eq (tgt := 116) hx hb dX8_goes_107 (by decide) (fun _ => ?_) (fun c => absurd (by decide) c)
      refine lv_iinc (v := 0) (lv' := [(5, .int 0), (4, .int 0), (3, .int (-1)), (0, .ref mo), (1, .int (nI tg9)), (2, .int 2)]) hx hb dX8_goes_116 hl (k := 0) rfl (by decide) (by decide) rfl (fun ls hl => ?_)
      refine lv_goto (tgt := 95) hx hb dX8_goes_119 (by decide) ?_
      refine lv_iload hx hb dX8_goes_95 (lv_at hl 0 rfl) ?_
      refine lv_if_lt (tgt := 122) hx hb dX8_goes_97 (by decide) (fun c => absurd c (by decide)) (fun _ => ?_)
      refine lv_aload_n hx hb dX8_goes_100 rfl (lv_at hl 3 rfl) ?_
      refine va_get (D := (dC, dI)) (ci := 6) (v := .ref m31) (C := RX8) (T := TX8) (N := 32) hx hb hts iX8 hown hK hP 0 rfl rfl 31 (by decide) (hts (.fieldLink RX8 60 "ParkTowerModel" "isDone" "[Z") (by decide +kernel)) (fun _ h9 => h9) rfl dX8_goes_101 ?_
      refine lv_iload hx hb dX8_goes_104 (lv_at hl 0 rfl) ?_
      refine va_zald hx hb hK hP 4 3 rfl rfl (vp_in_iff.mpr (by decide)) dX8_goes_106 ?_
      refine lv_topi (fun a_2 ea_2 => ?_)
      have ea_2 : a_2 = h31 0 := ea_2
      obtain rfl : a_2 = 0 := ea_2.trans (gD.no (by decide))
      refine lv_if_eq (tgt := 116) hx hb dX8_goes_107 (by decide) (fun _ => ?_) (fun c => absurd (by decide) c)
      refine lv_iinc (v := (-1)) (lv' := [(5, .int (-1)), (4, .int 0), (3, .int (-1)), (0, .ref mo), (1, .int (nI tg9)), (2, .int 2)]) hx hb dX8_goes_116 hl (k := 0) rfl (by decide) (by decide) rfl (fun ls hl => ?_)
      refine lv_goto (tgt := 95) hx hb dX8_goes_119 (by decide) ?_
      refine lv_iload hx hb dX8_goes_95 (lv_at hl 0 rfl) ?_
      refine lv_if_lt (tgt := 122) hx hb dX8_goes_97 (by decide) (fun _ => ?_) (fun c => absurd (by decide) c)
      have e9 : h7 = f7 := gm
      rw [e9] at hP hD
      have hP : va_P (dC, dI) vwCl [(mo, .inr (6, [.int th, .int tm, .int (nI sr), .int (nI nc), .ref m4, .ref m5, .ref m6, .ref m7, .ref m8, .ref m9, .ref m10, .ref m11, .ref m12, .int pw, .int rn, .int (nI no), .ref m16, .ref m17, .ref m18, .int (nI bz), .int (nI dg), .int (nI db), .int (nI df), .int (nI sp), .int tg, .int lf, .int mm, .ref m27, .int fo, .ref m29, .ref m30, .ref m31])), (m7, .inl (y7, 96, .inl f7)), (m29, .inl (y29, 8, .inl h29)), (m30, .inl (y30, 4, .inl h30)), (m31, .inl (y31, 4, .inl h31))] H := hP
      have hD : va_D A [(mo, .inr (6, [.int th, .int tm, .int (nI sr), .int (nI nc), .ref m4, .ref m5, .ref m6, .ref m7, .ref m8, .ref m9, .ref m10, .ref m11, .ref m12, .int pw, .int rn, .int (nI no), .ref m16, .ref m17, .ref m18, .int (nI bz), .int (nI dg), .int (nI db), .int (nI df), .int (nI sp), .int tg, .int lf, .int mm, .ref m27, .int fo, .ref m29, .ref m30, .ref m31])), (m7, .inl (y7, 96, .inl f7)), (m29, .inl (y29, 8, .inl h29)), (m30, .inl (y30, 4, .inl h30)), (m31, .inl (y31, 4, .inl h31))] := hD
      refine lv_iload hx hb dX8_goes_122 (lv_at hl 1 rfl) ?_
      have hP9 := hP.sub (ws' := [(mo, .inr (6, [.int th, .int tm, .int (nI sr), .int (nI nc), .ref m4, .ref m5, .ref m6, .ref m7, .ref m8, .ref m9, .ref m10, .ref m11, .ref m12, .int pw, .int rn, .int (nI no), .ref m16, .ref m17, .ref m18, .int (nI bz), .int (nI dg), .int (nI db), .int (nI df), .int (nI sp), .int tg, .int lf, .int mm, .ref m27, .int fo, .ref m29, .ref m30, .ref m31])), (m7, .inl (y7, 96, .inl f7)), (m29, .inl (y29, 8, .inl h29)), (m30, .inl (y30, 4, .inl h30)), (m31, .inl (y31, 4, .inl h31))]) [0, 1, 2, 3, 4] rfl
      have hD9 := hD.sub (ws' := [(mo, .inr (6, [.int th, .int tm, .int (nI sr), .int (nI nc), .ref m4, .ref m5, .ref m6, .ref m7, .ref m8, .ref m9, .ref m10, .ref m11, .ref m12, .int pw, .int rn, .int (nI no), .ref m16, .ref m17, .ref m18, .int (nI bz), .int (nI dg), .int (nI db), .int (nI df), .int (nI sp), .int tg, .int lf, .int mm, .ref m27, .int fo, .ref m29, .ref m30, .ref m31])), (m7, .inl (y7, 96, .inl f7)), (m29, .inl (y29, 8, .inl h29)), (m30, .inl (y30, 4, .inl h30)), (m31, .inl (y31, 4, .inl h31))]) [0, 1, 2, 3, 4] (by decide) rfl
      have hK9 := hK.sub (tys' := []) [] rfl
      refine W.widen (k := 0) (n := 0) (by omega) (by omega) ?_
      exact W.zret (v := 0) (ty := .boolean) hx hb hr rfl (fun t ht hW => ⟨⟨0, (fun q_ => ([] : List Int32).getD q_ 0, fun q_ => ([] : List Nat).getD q_ 0, fun q_ => ([h29, h30, h31] : List (Nat → Int32)).getD q_ (fun _ => 0)), rfl, ⟨Or.inl rfl, mD.o gD⟩, by rw [ht]; exact hP9, va_K.moved hW.alike hK9, hD9⟩, hS.F ht⟩) hS.2.2 dX8_goes_124
    · skip
      rcases (show jj = 0 ∨ jj = 1 by have := gj.2 (by decide); omega) with rfl | rfl
      · skip
        have hl : lv_has ls 6 [(4, .int 0), (3, .int 0), (0, .ref mo), (1, .int (nI tg9)), (2, .int 2)] := hl
        have hmu : mu = (577 - t0) * 1000000 := gz.2.1 rfl
        have gp0 : h30 0 = pI t0 := gp.1 (by decide)
        refine lv_iload_n hx hb dX8_goes_22 rfl (lv_at hl 1 rfl) ?_
        refine lv_if_lt (tgt := 90) hx hb dX8_goes_23 (by decide) (fun c => absurd c (by decide)) (fun _ => ?_)
        refine lv_iload hx hb dX8_goes_26 (lv_at hl 0 rfl) ?_
        refine lv_if_ne (tgt := 90) hx hb dX8_goes_28 (by decide) (fun c => absurd (by decide) c) (fun _ => ?_)
        refine lv_aload_n hx hb dX8_goes_31 rfl (lv_at hl 2 rfl) ?_
        refine va_get (D := (dC, dI)) (ci := 6) (v := .ref m31) (C := RX8) (T := TX8) (N := 32) hx hb hts iX8 hown hK hP 0 rfl rfl 31 (by decide) (hts (.fieldLink RX8 60 "ParkTowerModel" "isDone" "[Z") (by decide +kernel)) (fun _ h9 => h9) rfl dX8_goes_32 ?_
        refine lv_iload_n hx hb dX8_goes_35 rfl (lv_at hl 1 rfl) ?_
        refine va_zald hx hb hK hP 4 3 rfl rfl (vp_in_iff.mpr (by decide)) dX8_goes_36 ?_
        refine lv_topi (fun a_3 ea_3 => ?_)
        have ea_3 : a_3 = h31 0 := ea_3
        obtain rfl : a_3 = 0 := ea_3.trans (gD.no (by decide))
        refine lv_if_eq (tgt := 45) hx hb dX8_goes_37 (by decide) (fun _ => ?_) (fun c => absurd (by decide) c)
        refine lv_aload_n hx hb dX8_goes_45 rfl (lv_at hl 2 rfl) ?_
        refine lv_iload_n hx hb dX8_goes_46 rfl (lv_at hl 3 rfl) ?_
        refine lv_iload_n hx hb dX8_goes_47 rfl (lv_at hl 1 rfl) ?_
        have hPc := hP.sub (ws' := [(mo, .inr (6, [.int th, .int tm, .int (nI sr), .int (nI nc), .ref m4, .ref m5, .ref m6, .ref m7, .ref m8, .ref m9, .ref m10, .ref m11, .ref m12, .int pw, .int rn, .int (nI no), .ref m16, .ref m17, .ref m18, .int (nI bz), .int (nI dg), .int (nI db), .int (nI df), .int (nI sp), .int tg, .int lf, .int mm, .ref m27, .int fo, .ref m29, .ref m30, .ref m31])), (m7, .inl (y7, 96, .inl h7)), (m29, .inl (y29, 8, .inl h29)), (m30, .inl (y30, 4, .inl h30)), (m31, .inl (y31, 4, .inl h31))]) [0, 1, 2, 3, 4] rfl
        have hDc := hD.sub (ws' := [(mo, .inr (6, [.int th, .int tm, .int (nI sr), .int (nI nc), .ref m4, .ref m5, .ref m6, .ref m7, .ref m8, .ref m9, .ref m10, .ref m11, .ref m12, .int pw, .int rn, .int (nI no), .ref m16, .ref m17, .ref m18, .int (nI bz), .int (nI dg), .int (nI db), .int (nI df), .int (nI sp), .int tg, .int lf, .int mm, .ref m27, .int fo, .ref m29, .ref m30, .ref m31])), (m7, .inl (y7, 96, .inl h7)), (m29, .inl (y29, 8, .inl h29)), (m30, .inl (y30, 4, .inl h30)), (m31, .inl (y31, 4, .inl h31))]) [0, 1, 2, 3, 4] (by decide) rfl
        have hKc := hK.sub (tys' := [(y7, .int), (y29, .int), (y30, .int), (y31, .boolean)]) [0, 1, 2, 3] rfl
        have hFc := va_free (wc := [(mo, .inr (6, [.int th, .int tm, .int (nI sr), .int (nI nc), .ref m4, .ref m5, .ref m6, .ref m7, .ref m8, .ref m9, .ref m10, .ref m11, .ref m12, .int pw, .int rn, .int (nI no), .ref m16, .ref m17, .ref m18, .int (nI bz), .int (nI dg), .int (nI db), .int (nI df), .int (nI sp), .int tg, .int lf, .int mm, .ref m27, .int fo, .ref m29, .ref m30, .ref m31])), (m7, .inl (y7, 96, .inl h7)), (m29, .inl (y29, 8, .inl h29)), (m30, .inl (y30, 4, .inl h30)), (m31, .inl (y31, 4, .inl h31))]) hD hS hA [0, 1, 2, 3, 4] rfl
        refine va_calli (va_runV (As := [.int (nI tg9), .int 0]) (rest := []) ⟨hx, hb, hml, hown, hts⟩ (m_turns l dC dI _ mo m4 m5 m6 m7 m8 m9 m10 m11 m12 m16 m17 m18 m27 m29 m30 m31 th tm pw rn tg lf mm fo sr nc no bz dg db df sp y7 y29 y30 y31 h7 h29 h30 h31 tg9 0 t0 htg (by decide) (by omega) gp0 gC) (cwV 2 hts gX8_goes_X8_turns rfl rfl rfl (by decide +kernel) ⟨Nat.le_of_ble_eq_true rfl, Nat.le_of_ble_eq_true rfl⟩) ⟨pt_blindQ, va_recv hK hP (ci := 6) (q0 := 0) rfl rfl, pt_preQ hPc hKc hDc hN⟩ rfl rfl hl.1 rfl (lv_room (Nat.le_of_ble_eq_true rfl)) dX8_goes_48 ⟨Nat.le_of_ble_eq_true rfl, Nat.le_of_ble_eq_true rfl⟩) hS (fun q _ h => hFc q h) hFc (fun r_4 u_4 t H1 locs ht hvm hw_4 hB hz1 hk1 hS => ?_)
        obtain ⟨v_4, n_4, F_4⟩ := u_4
        obtain ⟨hP1, hK1, hD1⟩ := hB
        try dsimp only at hw_4
        rw [ht] at hP1
        have hK1 := va_K.moved hvm.symm hK1
        obtain ⟨hP, hD⟩ := va_join (wr := []) (w1 := [(mo, .inr (6, [.int th, .int tm, .int (nI sr), .int (nI nc), .ref m4, .ref m5, .ref m6, .ref m7, .ref m8, .ref m9, .ref m10, .ref m11, .ref m12, .int pw, .int rn, .int (nI no), .ref m16, .ref m17, .ref m18, .int (nI bz), .int (nI dg), .int (nI db), .int (nI df), .int (nI sp), .int tg, .int lf, .int mm, .ref m27, .int fo, .ref m29, .ref m30, .ref m31])), (m7, .inl (y7, 96, .inl (F_4 0))), (m29, .inl (y29, 8, .inl (F_4 1))), (m30, .inl (y30, 4, .inl (F_4 2))), (m31, .inl (y31, 4, .inl (F_4 3)))]) hP hD [0, 1, 2, 3, 4] [] rfl rfl (by decide) (by decide) hk1 hFc hP1 hD1
        have hK := hK.app hK1
        generalize H1 = H at hP hS ⊢
        have hP : va_P (dC, dI) vwCl [(mo, .inr (6, [.int th, .int tm, .int (nI sr), .int (nI nc), .ref m4, .ref m5, .ref m6, .ref m7, .ref m8, .ref m9, .ref m10, .ref m11, .ref m12, .int pw, .int rn, .int (nI no), .ref m16, .ref m17, .ref m18, .int (nI bz), .int (nI dg), .int (nI db), .int (nI df), .int (nI sp), .int tg, .int lf, .int mm, .ref m27, .int fo, .ref m29, .ref m30, .ref m31])), (m7, .inl (y7, 96, .inl (F_4 0))), (m29, .inl (y29, 8, .inl (F_4 1))), (m30, .inl (y30, 4, .inl (F_4 2))), (m31, .inl (y31, 4, .inl (F_4 3)))] H := hP
        have hD : va_D A [(mo, .inr (6, [.int th, .int tm, .int (nI sr), .int (nI nc), .ref m4, .ref m5, .ref m6, .ref m7, .ref m8, .ref m9, .ref m10, .ref m11, .ref m12, .int pw, .int rn, .int (nI no), .ref m16, .ref m17, .ref m18, .int (nI bz), .int (nI dg), .int (nI db), .int (nI df), .int (nI sp), .int tg, .int lf, .int mm, .ref m27, .int fo, .ref m29, .ref m30, .ref m31])), (m7, .inl (y7, 96, .inl (F_4 0))), (m29, .inl (y29, 8, .inl (F_4 1))), (m30, .inl (y30, 4, .inl (F_4 2))), (m31, .inl (y31, 4, .inl (F_4 3)))] := hD
        have hK : va_K (dC, dI) vwCl [(y7, .int), (y29, .int), (y30, .int), (y31, .boolean)] s := hK
        rcases hw_4 with ⟨rfl, e1_4, e2_4, e3_4, e4_4, e5_4⟩ | ⟨rfl, a_4, b_4, x_4, t_4, e1_4, e2_4, e3_4, e4_4, e5_4, e6_4, e7_4, e8_4, e9_4, e10_4, e11_4, e12_4, e13_4, e14_4, e15_4, e16_4⟩
        · skip
          rw [e1_4, e2_4, e3_4] at hP hD
          have hP : va_P (dC, dI) vwCl [(mo, .inr (6, [.int th, .int tm, .int (nI sr), .int (nI nc), .ref m4, .ref m5, .ref m6, .ref m7, .ref m8, .ref m9, .ref m10, .ref m11, .ref m12, .int pw, .int rn, .int (nI no), .ref m16, .ref m17, .ref m18, .int (nI bz), .int (nI dg), .int (nI db), .int (nI df), .int (nI sp), .int tg, .int lf, .int mm, .ref m27, .int fo, .ref m29, .ref m30, .ref m31])), (m7, .inl (y7, 96, .inl h7)), (m29, .inl (y29, 8, .inl h29)), (m30, .inl (y30, 4, .inl (F_4 2))), (m31, .inl (y31, 4, .inl h31))] H := hP
          have hD : va_D A [(mo, .inr (6, [.int th, .int tm, .int (nI sr), .int (nI nc), .ref m4, .ref m5, .ref m6, .ref m7, .ref m8, .ref m9, .ref m10, .ref m11, .ref m12, .int pw, .int rn, .int (nI no), .ref m16, .ref m17, .ref m18, .int (nI bz), .int (nI dg), .int (nI db), .int (nI df), .int (nI sp), .int tg, .int lf, .int mm, .ref m27, .int fo, .ref m29, .ref m30, .ref m31])), (m7, .inl (y7, 96, .inl h7)), (m29, .inl (y29, 8, .inl h29)), (m30, .inl (y30, 4, .inl (F_4 2))), (m31, .inl (y31, 4, .inl h31))] := hD
          refine lv_if_ne (tgt := 60) hx hb dX8_goes_51 (by decide) (fun c => absurd (by decide) c) (fun _ => ?_)
          refine lv_iinc (v := (-1)) (lv' := [(3, .int (-1)), (4, .int 0), (0, .ref mo), (1, .int (nI tg9)), (2, .int 2)]) hx hb dX8_goes_54 hl (k := 1) rfl (by decide) (by decide) rfl (fun ls hl => ?_)
          refine lv_goto (tgt := 22) hx hb dX8_goes_57 (by decide) ?_
          exact ih (0) H locs ls (by omega) ⟨0, (-1), 0, h7, h29, F_4 2, h31, 0, t0, t1, t2, lv_sub hl [1, 0, 2, 3, 4] rfl, by omega, rfl, Or.inl rfl, gm, gD, ⟨by omega, by omega, by omega⟩, ⟨fun q => absurd q (by decide), fun q => absurd q (by decide), fun q => absurd q (by decide)⟩, ⟨fun _ => rfl, fun q => absurd q (by decide)⟩, fun q => absurd q (by decide), ⟨fun _ => rfl, fun q => absurd q (by decide), fun q => absurd q (by decide), fun q => absurd q (by decide)⟩, gC, hP.sub [0, 1, 2, 3, 4] rfl, hD.sub [0, 1, 2, 3, 4] (by decide) rfl, hS⟩
        · skip
          rw [e14_4, e15_4, e16_4] at hP hD
          have m_4 : mdo (upd h29 0 (nI (100 * a_4 + b_4))) (tg9 / 24) f7 1 (upd (upd h7 b_4 (nI x_4)) a_4 0) := ⟨_, a_4, b_4, x_4, mdo.upd 0 _ (Nat.le_refl _) gm, pk_us, e5_4, e6_4, e7_4, e8_4, e9_4, e10_4, e11_4, e12_4, e13_4, rfl⟩
          have hP : va_P (dC, dI) vwCl [(mo, .inr (6, [.int th, .int tm, .int (nI sr), .int (nI nc), .ref m4, .ref m5, .ref m6, .ref m7, .ref m8, .ref m9, .ref m10, .ref m11, .ref m12, .int pw, .int rn, .int (nI no), .ref m16, .ref m17, .ref m18, .int (nI bz), .int (nI dg), .int (nI db), .int (nI df), .int (nI sp), .int tg, .int lf, .int mm, .ref m27, .int fo, .ref m29, .ref m30, .ref m31])), (m7, .inl (y7, 96, .inl (upd (upd h7 b_4 (nI x_4)) a_4 0))), (m29, .inl (y29, 8, .inl (upd h29 0 (nI (100 * a_4 + b_4))))), (m30, .inl (y30, 4, .inl (F_4 2))), (m31, .inl (y31, 4, .inl (upd h31 0 1)))] H := hP
          have hD : va_D A [(mo, .inr (6, [.int th, .int tm, .int (nI sr), .int (nI nc), .ref m4, .ref m5, .ref m6, .ref m7, .ref m8, .ref m9, .ref m10, .ref m11, .ref m12, .int pw, .int rn, .int (nI no), .ref m16, .ref m17, .ref m18, .int (nI bz), .int (nI dg), .int (nI db), .int (nI df), .int (nI sp), .int tg, .int lf, .int mm, .ref m27, .int fo, .ref m29, .ref m30, .ref m31])), (m7, .inl (y7, 96, .inl (upd (upd h7 b_4 (nI x_4)) a_4 0))), (m29, .inl (y29, 8, .inl (upd h29 0 (nI (100 * a_4 + b_4))))), (m30, .inl (y30, 4, .inl (F_4 2))), (m31, .inl (y31, 4, .inl (upd h31 0 1)))] := hD
          refine lv_if_ne (tgt := 60) hx hb dX8_goes_51 (by decide) (fun _ => ?_) (fun c => absurd c (by decide))
          refine lv_iload_n hx hb dX8_goes_60 rfl (lv_at hl 1 rfl) ?_
          refine lv_iload_n hx hb dX8_goes_61 rfl (lv_at hl 4 rfl) ?_
          refine lv_iconst (v := 1) hx hb dX8_goes_62 (by decide) ?_
          refine lv_isub hx hb dX8_goes_63 ?_
          refine pt_topi 1 (by decide) ?_
          refine lv_icmp_ne (tgt := 77) hx hb dX8_goes_64 (by decide) (fun _ => ?_) (fun c => absurd c (by decide))
          refine lv_iinc (v := 1) (lv' := [(3, .int 1), (4, .int 0), (0, .ref mo), (1, .int (nI tg9)), (2, .int 2)]) hx hb dX8_goes_77 hl (k := 1) rfl (by decide) (by decide) rfl (fun ls hl => ?_)
          refine lv_aload_n hx hb dX8_goes_80 rfl (lv_at hl 2 rfl) ?_
          refine va_get (D := (dC, dI)) (ci := 6) (v := .ref m30) (C := RX8) (T := TX8) (N := 32) hx hb hts iX8 hown hK hP 0 rfl rfl 30 (by decide) (hts (.fieldLink RX8 57 "ParkTowerModel" "pick" "[I") (by decide +kernel)) (fun _ h9 => h9) rfl dX8_goes_81 ?_
          refine lv_iload_n hx hb dX8_goes_84 rfl (lv_at hl 0 rfl) ?_
          refine lv_iconst (v := (-1)) hx hb dX8_goes_85 (by decide) ?_
          refine va_iast hx hb hK hP hD hS 3 2 rfl rfl (vp_in_iff.mpr (by decide)) dX8_goes_86 (fun H locs hP hD hS => ?_)
          have hP : va_P (dC, dI) vwCl [(mo, .inr (6, [.int th, .int tm, .int (nI sr), .int (nI nc), .ref m4, .ref m5, .ref m6, .ref m7, .ref m8, .ref m9, .ref m10, .ref m11, .ref m12, .int pw, .int rn, .int (nI no), .ref m16, .ref m17, .ref m18, .int (nI bz), .int (nI dg), .int (nI db), .int (nI df), .int (nI sp), .int tg, .int lf, .int mm, .ref m27, .int fo, .ref m29, .ref m30, .ref m31])), (m7, .inl (y7, 96, .inl (upd (upd h7 b_4 (nI x_4)) a_4 0))), (m29, .inl (y29, 8, .inl (upd h29 0 (nI (100 * a_4 + b_4))))), (m30, .inl (y30, 4, .inl (upd (F_4 2) 1 (-1)))), (m31, .inl (y31, 4, .inl (upd h31 0 1)))] H := hP
          have hD : va_D A [(mo, .inr (6, [.int th, .int tm, .int (nI sr), .int (nI nc), .ref m4, .ref m5, .ref m6, .ref m7, .ref m8, .ref m9, .ref m10, .ref m11, .ref m12, .int pw, .int rn, .int (nI no), .ref m16, .ref m17, .ref m18, .int (nI bz), .int (nI dg), .int (nI db), .int (nI df), .int (nI sp), .int tg, .int lf, .int mm, .ref m27, .int fo, .ref m29, .ref m30, .ref m31])), (m7, .inl (y7, 96, .inl (upd (upd h7 b_4 (nI x_4)) a_4 0))), (m29, .inl (y29, 8, .inl (upd h29 0 (nI (100 * a_4 + b_4))))), (m30, .inl (y30, 4, .inl (upd (F_4 2) 1 (-1)))), (m31, .inl (y31, 4, .inl (upd h31 0 1)))] := hD
          refine lv_goto (tgt := 22) hx hb dX8_goes_87 (by decide) ?_
          exact ih ((577 - t_4) * 1000000 + (577 - 0) * 1000) H locs ls (by omega) ⟨2, 1, 0, upd (upd h7 b_4 (nI x_4)) a_4 0, upd h29 0 (nI (100 * a_4 + b_4)), upd (F_4 2) 1 (-1), upd h31 0 1, 1, t_4, 0, t2, lv_sub hl [1, 0, 2, 3, 4] rfl, by omega, rfl, Or.inl rfl, m_4, mD.up gD, ⟨by omega, by omega, by omega⟩, ⟨fun _ => (pk_un (by decide)).trans (e3_4), fun _ => pk_us, fun q => absurd q (by decide)⟩, ⟨fun q => absurd q (by decide), fun _ => Or.inl rfl⟩, fun q => absurd q (by decide), ⟨fun q => absurd q (by decide), fun q => absurd q (by decide), fun _ => rfl, fun q => absurd q (by decide)⟩, mC_moved gC e12_4, hP.sub [0, 1, 2, 3, 4] rfl, hD.sub [0, 1, 2, 3, 4] (by decide) rfl, hS⟩
      · skip
        have hl : lv_has ls 6 [(4, .int 0), (3, .int 0), (0, .ref mo), (1, .int (nI tg9)), (2, .int 2)] := hl
        have hmu : mu = (577 - t0) * 1000000 := gz.2.1 rfl
        have gp0 : h30 0 = pI t0 := gp.1 (by decide)
        refine lv_iload_n hx hb dX8_goes_22 rfl (lv_at hl 1 rfl) ?_
        refine lv_if_lt (tgt := 90) hx hb dX8_goes_23 (by decide) (fun c => absurd c (by decide)) (fun _ => ?_)
        refine lv_iload hx hb dX8_goes_26 (lv_at hl 0 rfl) ?_
        refine lv_if_ne (tgt := 90) hx hb dX8_goes_28 (by decide) (fun c => absurd (by decide) c) (fun _ => ?_)
        refine lv_aload_n hx hb dX8_goes_31 rfl (lv_at hl 2 rfl) ?_
        refine va_get (D := (dC, dI)) (ci := 6) (v := .ref m31) (C := RX8) (T := TX8) (N := 32) hx hb hts iX8 hown hK hP 0 rfl rfl 31 (by decide) (hts (.fieldLink RX8 60 "ParkTowerModel" "isDone" "[Z") (by decide +kernel)) (fun _ h9 => h9) rfl dX8_goes_32 ?_
        refine lv_iload_n hx hb dX8_goes_35 rfl (lv_at hl 1 rfl) ?_
        refine va_zald hx hb hK hP 4 3 rfl rfl (vp_in_iff.mpr (by decide)) dX8_goes_36 ?_
        refine lv_topi (fun a_5 ea_5 => ?_)
        have ea_5 : a_5 = h31 0 := ea_5
        obtain rfl : a_5 = 1 := ea_5.trans (gD.yes (by decide))
        refine lv_if_eq (tgt := 45) hx hb dX8_goes_37 (by decide) (fun c => absurd c (by decide)) (fun _ => ?_)
        refine lv_aload_n hx hb dX8_goes_40 rfl (lv_at hl 2 rfl) ?_
        refine lv_iload_n hx hb dX8_goes_41 rfl (lv_at hl 1 rfl) ?_
        obtain ⟨h_6, a_6, b_6, x_6, m_6, i1_6, i2_6, i3_6, i4_6, i5_6, i6_6, i7_6, i8_6, i9_6, i10_6, i11_6⟩ := gm
        have hPc := hP.sub (ws' := [(mo, .inr (6, [.int th, .int tm, .int (nI sr), .int (nI nc), .ref m4, .ref m5, .ref m6, .ref m7, .ref m8, .ref m9, .ref m10, .ref m11, .ref m12, .int pw, .int rn, .int (nI no), .ref m16, .ref m17, .ref m18, .int (nI bz), .int (nI dg), .int (nI db), .int (nI df), .int (nI sp), .int tg, .int lf, .int mm, .ref m27, .int fo, .ref m29, .ref m30, .ref m31])), (m7, .inl (y7, 96, .inl h7)), (m29, .inl (y29, 8, .inl h29)), (m31, .inl (y31, 4, .inl h31))]) [0, 1, 2, 4] rfl
        have hDc := hD.sub (ws' := [(mo, .inr (6, [.int th, .int tm, .int (nI sr), .int (nI nc), .ref m4, .ref m5, .ref m6, .ref m7, .ref m8, .ref m9, .ref m10, .ref m11, .ref m12, .int pw, .int rn, .int (nI no), .ref m16, .ref m17, .ref m18, .int (nI bz), .int (nI dg), .int (nI db), .int (nI df), .int (nI sp), .int tg, .int lf, .int mm, .ref m27, .int fo, .ref m29, .ref m30, .ref m31])), (m7, .inl (y7, 96, .inl h7)), (m29, .inl (y29, 8, .inl h29)), (m31, .inl (y31, 4, .inl h31))]) [0, 1, 2, 4] (by decide) rfl
        have hKc := hK.sub (tys' := [(y7, .int), (y29, .int), (y31, .boolean)]) [0, 1, 3] rfl
        have hFc := va_free (wc := [(mo, .inr (6, [.int th, .int tm, .int (nI sr), .int (nI nc), .ref m4, .ref m5, .ref m6, .ref m7, .ref m8, .ref m9, .ref m10, .ref m11, .ref m12, .int pw, .int rn, .int (nI no), .ref m16, .ref m17, .ref m18, .int (nI bz), .int (nI dg), .int (nI db), .int (nI df), .int (nI sp), .int tg, .int lf, .int mm, .ref m27, .int fo, .ref m29, .ref m30, .ref m31])), (m7, .inl (y7, 96, .inl h7)), (m29, .inl (y29, 8, .inl h29)), (m31, .inl (y31, 4, .inl h31))]) hD hS hA [0, 1, 2, 4] rfl
        refine va_callv (va_runV (As := [.int 0]) (rest := []) ⟨hx, hb, hml, hown, hts⟩ (m_undo l dC dI _ mo m4 m5 m6 m7 m8 m9 m10 m11 m12 m16 m17 m18 m27 m29 m30 m31 th tm pw rn tg lf mm fo sr nc no bz dg db df sp y7 y29 y31 h7 h29 h31 0 a_6 b_6 (by omega) i2_6 i3_6 i1_6) (cwV 1 hts gX8_goes_X8_undo rfl rfl rfl (by decide +kernel) ⟨Nat.le_of_ble_eq_true rfl, Nat.le_of_ble_eq_true rfl⟩) ⟨pt_blindQ, va_recv hK hP (ci := 6) (q0 := 0) rfl rfl, pt_preQ hPc hKc hDc hN⟩ rfl rfl hl.1 rfl (lv_room (Nat.le_of_ble_eq_true rfl)) dX8_goes_42 ⟨Nat.le_of_ble_eq_true rfl, Nat.le_of_ble_eq_true rfl⟩) hS (fun q _ h => hFc q h) hFc (fun u_7 t H1 locs ht hvm hw_7 hB hz1 hk1 hS => ?_)
        obtain ⟨v_7, n_7, F_7⟩ := u_7
        obtain ⟨hP1, hK1, hD1⟩ := hB
        try dsimp only at hw_7
        rw [ht] at hP1
        have hK1 := va_K.moved hvm.symm hK1
        obtain ⟨hP, hD⟩ := va_join (wr := [(m30, .inl (y30, 4, .inl h30))]) (w1 := [(mo, .inr (6, [.int th, .int tm, .int (nI sr), .int (nI nc), .ref m4, .ref m5, .ref m6, .ref m7, .ref m8, .ref m9, .ref m10, .ref m11, .ref m12, .int pw, .int rn, .int (nI no), .ref m16, .ref m17, .ref m18, .int (nI bz), .int (nI dg), .int (nI db), .int (nI df), .int (nI sp), .int tg, .int lf, .int mm, .ref m27, .int fo, .ref m29, .ref m30, .ref m31])), (m7, .inl (y7, 96, .inl (upd (upd h7 a_6 (h7 b_6)) b_6 0))), (m29, .inl (y29, 8, .inl h29)), (m31, .inl (y31, 4, .inl (upd h31 0 0)))]) hP hD [0, 1, 2, 4] [3] rfl rfl (by decide) (by decide) hk1 hFc hP1 hD1
        have hK := hK.app hK1
        generalize H1 = H at hP hS ⊢
        have hP : va_P (dC, dI) vwCl [(m30, .inl (y30, 4, .inl h30)), (mo, .inr (6, [.int th, .int tm, .int (nI sr), .int (nI nc), .ref m4, .ref m5, .ref m6, .ref m7, .ref m8, .ref m9, .ref m10, .ref m11, .ref m12, .int pw, .int rn, .int (nI no), .ref m16, .ref m17, .ref m18, .int (nI bz), .int (nI dg), .int (nI db), .int (nI df), .int (nI sp), .int tg, .int lf, .int mm, .ref m27, .int fo, .ref m29, .ref m30, .ref m31])), (m7, .inl (y7, 96, .inl (upd (upd h7 a_6 (h7 b_6)) b_6 0))), (m29, .inl (y29, 8, .inl h29)), (m31, .inl (y31, 4, .inl (upd h31 0 0)))] H := hP
        have hD : va_D A [(m30, .inl (y30, 4, .inl h30)), (mo, .inr (6, [.int th, .int tm, .int (nI sr), .int (nI nc), .ref m4, .ref m5, .ref m6, .ref m7, .ref m8, .ref m9, .ref m10, .ref m11, .ref m12, .int pw, .int rn, .int (nI no), .ref m16, .ref m17, .ref m18, .int (nI bz), .int (nI dg), .int (nI db), .int (nI df), .int (nI sp), .int tg, .int lf, .int mm, .ref m27, .int fo, .ref m29, .ref m30, .ref m31])), (m7, .inl (y7, 96, .inl (upd (upd h7 a_6 (h7 b_6)) b_6 0))), (m29, .inl (y29, 8, .inl h29)), (m31, .inl (y31, 4, .inl (upd h31 0 0)))] := hD
        have hK : va_K (dC, dI) vwCl [(y7, .int), (y29, .int), (y30, .int), (y31, .boolean)] s := hK
        rw [mundo' i6_6 i7_6 i10_6 i11_6] at hP hD
        have hP : va_P (dC, dI) vwCl [(m30, .inl (y30, 4, .inl h30)), (mo, .inr (6, [.int th, .int tm, .int (nI sr), .int (nI nc), .ref m4, .ref m5, .ref m6, .ref m7, .ref m8, .ref m9, .ref m10, .ref m11, .ref m12, .int pw, .int rn, .int (nI no), .ref m16, .ref m17, .ref m18, .int (nI bz), .int (nI dg), .int (nI db), .int (nI df), .int (nI sp), .int tg, .int lf, .int mm, .ref m27, .int fo, .ref m29, .ref m30, .ref m31])), (m7, .inl (y7, 96, .inl h_6)), (m29, .inl (y29, 8, .inl h29)), (m31, .inl (y31, 4, .inl (upd h31 0 0)))] H := hP
        have hD : va_D A [(m30, .inl (y30, 4, .inl h30)), (mo, .inr (6, [.int th, .int tm, .int (nI sr), .int (nI nc), .ref m4, .ref m5, .ref m6, .ref m7, .ref m8, .ref m9, .ref m10, .ref m11, .ref m12, .int pw, .int rn, .int (nI no), .ref m16, .ref m17, .ref m18, .int (nI bz), .int (nI dg), .int (nI db), .int (nI df), .int (nI sp), .int tg, .int lf, .int mm, .ref m27, .int fo, .ref m29, .ref m30, .ref m31])), (m7, .inl (y7, 96, .inl h_6)), (m29, .inl (y29, 8, .inl h29)), (m31, .inl (y31, 4, .inl (upd h31 0 0)))] := hD
        have C_6 : ∀ i, mC (h_6 i) := fun i => by rw [← mundo' i6_6 i7_6 i10_6 i11_6]; exact s_upd (fun i => s_upd gC (gC _) i) (Or.inr ⟨0, by omega, rfl⟩) i
        refine lv_aload_n hx hb dX8_goes_45 rfl (lv_at hl 2 rfl) ?_
        refine lv_iload_n hx hb dX8_goes_46 rfl (lv_at hl 3 rfl) ?_
        refine lv_iload_n hx hb dX8_goes_47 rfl (lv_at hl 1 rfl) ?_
        have hPc := hP.sub (ws' := [(mo, .inr (6, [.int th, .int tm, .int (nI sr), .int (nI nc), .ref m4, .ref m5, .ref m6, .ref m7, .ref m8, .ref m9, .ref m10, .ref m11, .ref m12, .int pw, .int rn, .int (nI no), .ref m16, .ref m17, .ref m18, .int (nI bz), .int (nI dg), .int (nI db), .int (nI df), .int (nI sp), .int tg, .int lf, .int mm, .ref m27, .int fo, .ref m29, .ref m30, .ref m31])), (m7, .inl (y7, 96, .inl h_6)), (m29, .inl (y29, 8, .inl h29)), (m30, .inl (y30, 4, .inl h30)), (m31, .inl (y31, 4, .inl (upd h31 0 0)))]) [1, 2, 3, 0, 4] rfl
        have hDc := hD.sub (ws' := [(mo, .inr (6, [.int th, .int tm, .int (nI sr), .int (nI nc), .ref m4, .ref m5, .ref m6, .ref m7, .ref m8, .ref m9, .ref m10, .ref m11, .ref m12, .int pw, .int rn, .int (nI no), .ref m16, .ref m17, .ref m18, .int (nI bz), .int (nI dg), .int (nI db), .int (nI df), .int (nI sp), .int tg, .int lf, .int mm, .ref m27, .int fo, .ref m29, .ref m30, .ref m31])), (m7, .inl (y7, 96, .inl h_6)), (m29, .inl (y29, 8, .inl h29)), (m30, .inl (y30, 4, .inl h30)), (m31, .inl (y31, 4, .inl (upd h31 0 0)))]) [1, 2, 3, 0, 4] (by decide) rfl
        have hKc := hK.sub (tys' := [(y7, .int), (y29, .int), (y30, .int), (y31, .boolean)]) [0, 1, 2, 3] rfl
        have hFc := va_free (wc := [(mo, .inr (6, [.int th, .int tm, .int (nI sr), .int (nI nc), .ref m4, .ref m5, .ref m6, .ref m7, .ref m8, .ref m9, .ref m10, .ref m11, .ref m12, .int pw, .int rn, .int (nI no), .ref m16, .ref m17, .ref m18, .int (nI bz), .int (nI dg), .int (nI db), .int (nI df), .int (nI sp), .int tg, .int lf, .int mm, .ref m27, .int fo, .ref m29, .ref m30, .ref m31])), (m7, .inl (y7, 96, .inl h_6)), (m29, .inl (y29, 8, .inl h29)), (m30, .inl (y30, 4, .inl h30)), (m31, .inl (y31, 4, .inl (upd h31 0 0)))]) hD hS hA [1, 2, 3, 0, 4] rfl
        refine va_calli (va_runV (As := [.int (nI tg9), .int 0]) (rest := []) ⟨hx, hb, hml, hown, hts⟩ (m_turns l dC dI _ mo m4 m5 m6 m7 m8 m9 m10 m11 m12 m16 m17 m18 m27 m29 m30 m31 th tm pw rn tg lf mm fo sr nc no bz dg db df sp y7 y29 y30 y31 h_6 h29 h30 (upd h31 0 0) tg9 0 t0 htg (by decide) (by omega) gp0 C_6) (cwV 2 hts gX8_goes_X8_turns rfl rfl rfl (by decide +kernel) ⟨Nat.le_of_ble_eq_true rfl, Nat.le_of_ble_eq_true rfl⟩) ⟨pt_blindQ, va_recv hK hP (ci := 6) (q0 := 1) rfl rfl, pt_preQ hPc hKc hDc hN⟩ rfl rfl hl.1 rfl (lv_room (Nat.le_of_ble_eq_true rfl)) dX8_goes_48 ⟨Nat.le_of_ble_eq_true rfl, Nat.le_of_ble_eq_true rfl⟩) hS (fun q _ h => hFc q h) hFc (fun r_8 u_8 t H1 locs ht hvm hw_8 hB hz1 hk1 hS => ?_)
        obtain ⟨v_8, n_8, F_8⟩ := u_8
        obtain ⟨hP1, hK1, hD1⟩ := hB
        try dsimp only at hw_8
        rw [ht] at hP1
        have hK1 := va_K.moved hvm.symm hK1
        obtain ⟨hP, hD⟩ := va_join (wr := []) (w1 := [(mo, .inr (6, [.int th, .int tm, .int (nI sr), .int (nI nc), .ref m4, .ref m5, .ref m6, .ref m7, .ref m8, .ref m9, .ref m10, .ref m11, .ref m12, .int pw, .int rn, .int (nI no), .ref m16, .ref m17, .ref m18, .int (nI bz), .int (nI dg), .int (nI db), .int (nI df), .int (nI sp), .int tg, .int lf, .int mm, .ref m27, .int fo, .ref m29, .ref m30, .ref m31])), (m7, .inl (y7, 96, .inl (F_8 0))), (m29, .inl (y29, 8, .inl (F_8 1))), (m30, .inl (y30, 4, .inl (F_8 2))), (m31, .inl (y31, 4, .inl (F_8 3)))]) hP hD [1, 2, 3, 0, 4] [] rfl rfl (by decide) (by decide) hk1 hFc hP1 hD1
        have hK := hK.app hK1
        generalize H1 = H at hP hS ⊢
        have hP : va_P (dC, dI) vwCl [(mo, .inr (6, [.int th, .int tm, .int (nI sr), .int (nI nc), .ref m4, .ref m5, .ref m6, .ref m7, .ref m8, .ref m9, .ref m10, .ref m11, .ref m12, .int pw, .int rn, .int (nI no), .ref m16, .ref m17, .ref m18, .int (nI bz), .int (nI dg), .int (nI db), .int (nI df), .int (nI sp), .int tg, .int lf, .int mm, .ref m27, .int fo, .ref m29, .ref m30, .ref m31])), (m7, .inl (y7, 96, .inl (F_8 0))), (m29, .inl (y29, 8, .inl (F_8 1))), (m30, .inl (y30, 4, .inl (F_8 2))), (m31, .inl (y31, 4, .inl (F_8 3)))] H := hP
        have hD : va_D A [(mo, .inr (6, [.int th, .int tm, .int (nI sr), .int (nI nc), .ref m4, .ref m5, .ref m6, .ref m7, .ref m8, .ref m9, .ref m10, .ref m11, .ref m12, .int pw, .int rn, .int (nI no), .ref m16, .ref m17, .ref m18, .int (nI bz), .int (nI dg), .int (nI db), .int (nI df), .int (nI sp), .int tg, .int lf, .int mm, .ref m27, .int fo, .ref m29, .ref m30, .ref m31])), (m7, .inl (y7, 96, .inl (F_8 0))), (m29, .inl (y29, 8, .inl (F_8 1))), (m30, .inl (y30, 4, .inl (F_8 2))), (m31, .inl (y31, 4, .inl (F_8 3)))] := hD
        have hK : va_K (dC, dI) vwCl [(y7, .int), (y29, .int), (y30, .int), (y31, .boolean)] s := hK
        rcases hw_8 with ⟨rfl, e1_8, e2_8, e3_8, e4_8, e5_8⟩ | ⟨rfl, a_8, b_8, x_8, t_8, e1_8, e2_8, e3_8, e4_8, e5_8, e6_8, e7_8, e8_8, e9_8, e10_8, e11_8, e12_8, e13_8, e14_8, e15_8, e16_8⟩
        · skip
          rw [e1_8, e2_8, e3_8] at hP hD
          have hP : va_P (dC, dI) vwCl [(mo, .inr (6, [.int th, .int tm, .int (nI sr), .int (nI nc), .ref m4, .ref m5, .ref m6, .ref m7, .ref m8, .ref m9, .ref m10, .ref m11, .ref m12, .int pw, .int rn, .int (nI no), .ref m16, .ref m17, .ref m18, .int (nI bz), .int (nI dg), .int (nI db), .int (nI df), .int (nI sp), .int tg, .int lf, .int mm, .ref m27, .int fo, .ref m29, .ref m30, .ref m31])), (m7, .inl (y7, 96, .inl h_6)), (m29, .inl (y29, 8, .inl h29)), (m30, .inl (y30, 4, .inl (F_8 2))), (m31, .inl (y31, 4, .inl (upd h31 0 0)))] H := hP
          have hD : va_D A [(mo, .inr (6, [.int th, .int tm, .int (nI sr), .int (nI nc), .ref m4, .ref m5, .ref m6, .ref m7, .ref m8, .ref m9, .ref m10, .ref m11, .ref m12, .int pw, .int rn, .int (nI no), .ref m16, .ref m17, .ref m18, .int (nI bz), .int (nI dg), .int (nI db), .int (nI df), .int (nI sp), .int tg, .int lf, .int mm, .ref m27, .int fo, .ref m29, .ref m30, .ref m31])), (m7, .inl (y7, 96, .inl h_6)), (m29, .inl (y29, 8, .inl h29)), (m30, .inl (y30, 4, .inl (F_8 2))), (m31, .inl (y31, 4, .inl (upd h31 0 0)))] := hD
          refine lv_if_ne (tgt := 60) hx hb dX8_goes_51 (by decide) (fun c => absurd (by decide) c) (fun _ => ?_)
          refine lv_iinc (v := (-1)) (lv' := [(3, .int (-1)), (4, .int 0), (0, .ref mo), (1, .int (nI tg9)), (2, .int 2)]) hx hb dX8_goes_54 hl (k := 1) rfl (by decide) (by decide) rfl (fun ls hl => ?_)
          refine lv_goto (tgt := 22) hx hb dX8_goes_57 (by decide) ?_
          exact ih (0) H locs ls (by omega) ⟨0, (-1), 0, h_6, h29, F_8 2, upd h31 0 0, 0, t0, t1, t2, lv_sub hl [1, 0, 2, 3, 4] rfl, by omega, rfl, Or.inl rfl, m_6, mD.down gD, ⟨by omega, by omega, by omega⟩, ⟨fun q => absurd q (by decide), fun q => absurd q (by decide), fun q => absurd q (by decide)⟩, ⟨fun _ => rfl, fun q => absurd q (by decide)⟩, fun q => absurd q (by decide), ⟨fun _ => rfl, fun q => absurd q (by decide), fun q => absurd q (by decide), fun q => absurd q (by decide)⟩, C_6, hP.sub [0, 1, 2, 3, 4] rfl, hD.sub [0, 1, 2, 3, 4] (by decide) rfl, hS⟩
        · skip
          rw [e14_8, e15_8, e16_8] at hP hD
          have m_8 : mdo (upd h29 0 (nI (100 * a_8 + b_8))) (tg9 / 24) f7 1 (upd (upd h_6 b_8 (nI x_8)) a_8 0) := ⟨_, a_8, b_8, x_8, mdo.upd 0 _ (Nat.le_refl _) m_6, pk_us, e5_8, e6_8, e7_8, e8_8, e9_8, e10_8, e11_8, e12_8, e13_8, rfl⟩
          have hP : va_P (dC, dI) vwCl [(mo, .inr (6, [.int th, .int tm, .int (nI sr), .int (nI nc), .ref m4, .ref m5, .ref m6, .ref m7, .ref m8, .ref m9, .ref m10, .ref m11, .ref m12, .int pw, .int rn, .int (nI no), .ref m16, .ref m17, .ref m18, .int (nI bz), .int (nI dg), .int (nI db), .int (nI df), .int (nI sp), .int tg, .int lf, .int mm, .ref m27, .int fo, .ref m29, .ref m30, .ref m31])), (m7, .inl (y7, 96, .inl (upd (upd h_6 b_8 (nI x_8)) a_8 0))), (m29, .inl (y29, 8, .inl (upd h29 0 (nI (100 * a_8 + b_8))))), (m30, .inl (y30, 4, .inl (F_8 2))), (m31, .inl (y31, 4, .inl (upd (upd h31 0 0) 0 1)))] H := hP
          have hD : va_D A [(mo, .inr (6, [.int th, .int tm, .int (nI sr), .int (nI nc), .ref m4, .ref m5, .ref m6, .ref m7, .ref m8, .ref m9, .ref m10, .ref m11, .ref m12, .int pw, .int rn, .int (nI no), .ref m16, .ref m17, .ref m18, .int (nI bz), .int (nI dg), .int (nI db), .int (nI df), .int (nI sp), .int tg, .int lf, .int mm, .ref m27, .int fo, .ref m29, .ref m30, .ref m31])), (m7, .inl (y7, 96, .inl (upd (upd h_6 b_8 (nI x_8)) a_8 0))), (m29, .inl (y29, 8, .inl (upd h29 0 (nI (100 * a_8 + b_8))))), (m30, .inl (y30, 4, .inl (F_8 2))), (m31, .inl (y31, 4, .inl (upd (upd h31 0 0) 0 1)))] := hD
          refine lv_if_ne (tgt := 60) hx hb dX8_goes_51 (by decide) (fun _ => ?_) (fun c => absurd c (by decide))
          refine lv_iload_n hx hb dX8_goes_60 rfl (lv_at hl 1 rfl) ?_
          refine lv_iload_n hx hb dX8_goes_61 rfl (lv_at hl 4 rfl) ?_
          refine lv_iconst (v := 1) hx hb dX8_goes_62 (by decide) ?_
          refine lv_isub hx hb dX8_goes_63 ?_
          refine pt_topi 1 (by decide) ?_
          refine lv_icmp_ne (tgt := 77) hx hb dX8_goes_64 (by decide) (fun _ => ?_) (fun c => absurd c (by decide))
          refine lv_iinc (v := 1) (lv' := [(3, .int 1), (4, .int 0), (0, .ref mo), (1, .int (nI tg9)), (2, .int 2)]) hx hb dX8_goes_77 hl (k := 1) rfl (by decide) (by decide) rfl (fun ls hl => ?_)
          refine lv_aload_n hx hb dX8_goes_80 rfl (lv_at hl 2 rfl) ?_
          refine va_get (D := (dC, dI)) (ci := 6) (v := .ref m30) (C := RX8) (T := TX8) (N := 32) hx hb hts iX8 hown hK hP 0 rfl rfl 30 (by decide) (hts (.fieldLink RX8 57 "ParkTowerModel" "pick" "[I") (by decide +kernel)) (fun _ h9 => h9) rfl dX8_goes_81 ?_
          refine lv_iload_n hx hb dX8_goes_84 rfl (lv_at hl 0 rfl) ?_
          refine lv_iconst (v := (-1)) hx hb dX8_goes_85 (by decide) ?_
          refine va_iast hx hb hK hP hD hS 3 2 rfl rfl (vp_in_iff.mpr (by decide)) dX8_goes_86 (fun H locs hP hD hS => ?_)
          have hP : va_P (dC, dI) vwCl [(mo, .inr (6, [.int th, .int tm, .int (nI sr), .int (nI nc), .ref m4, .ref m5, .ref m6, .ref m7, .ref m8, .ref m9, .ref m10, .ref m11, .ref m12, .int pw, .int rn, .int (nI no), .ref m16, .ref m17, .ref m18, .int (nI bz), .int (nI dg), .int (nI db), .int (nI df), .int (nI sp), .int tg, .int lf, .int mm, .ref m27, .int fo, .ref m29, .ref m30, .ref m31])), (m7, .inl (y7, 96, .inl (upd (upd h_6 b_8 (nI x_8)) a_8 0))), (m29, .inl (y29, 8, .inl (upd h29 0 (nI (100 * a_8 + b_8))))), (m30, .inl (y30, 4, .inl (upd (F_8 2) 1 (-1)))), (m31, .inl (y31, 4, .inl (upd (upd h31 0 0) 0 1)))] H := hP
          have hD : va_D A [(mo, .inr (6, [.int th, .int tm, .int (nI sr), .int (nI nc), .ref m4, .ref m5, .ref m6, .ref m7, .ref m8, .ref m9, .ref m10, .ref m11, .ref m12, .int pw, .int rn, .int (nI no), .ref m16, .ref m17, .ref m18, .int (nI bz), .int (nI dg), .int (nI db), .int (nI df), .int (nI sp), .int tg, .int lf, .int mm, .ref m27, .int fo, .ref m29, .ref m30, .ref m31])), (m7, .inl (y7, 96, .inl (upd (upd h_6 b_8 (nI x_8)) a_8 0))), (m29, .inl (y29, 8, .inl (upd h29 0 (nI (100 * a_8 + b_8))))), (m30, .inl (y30, 4, .inl (upd (F_8 2) 1 (-1)))), (m31, .inl (y31, 4, .inl (upd (upd h31 0 0) 0 1)))] := hD
          refine lv_goto (tgt := 22) hx hb dX8_goes_87 (by decide) ?_
          exact ih ((577 - t_8) * 1000000 + (577 - 0) * 1000) H locs ls (by omega) ⟨2, 1, 0, upd (upd h_6 b_8 (nI x_8)) a_8 0, upd h29 0 (nI (100 * a_8 + b_8)), upd (F_8 2) 1 (-1), upd (upd h31 0 0) 0 1, 1, t_8, 0, t2, lv_sub hl [1, 0, 2, 3, 4] rfl, by omega, rfl, Or.inl rfl, m_8, mD.up (mD.down gD), ⟨by omega, by omega, by omega⟩, ⟨fun _ => (pk_un (by decide)).trans (e3_8), fun _ => pk_us, fun q => absurd q (by decide)⟩, ⟨fun q => absurd q (by decide), fun _ => Or.inl rfl⟩, fun q => absurd q (by decide), ⟨fun q => absurd q (by decide), fun q => absurd q (by decide), fun _ => rfl, fun q => absurd q (by decide)⟩, mC_moved C_6 e12_8, hP.sub [0, 1, 2, 3, 4] rfl, hD.sub [0, 1, 2, 3, 4] (by decide) rfl, hS⟩
    · skip
      rcases (show jj = 1 ∨ jj = 2 by have := gj.2 (by decide); omega) with rfl | rfl
      · skip
        have hl : lv_has ls 6 [(4, .int 0), (3, .int 1), (0, .ref mo), (1, .int (nI tg9)), (2, .int 2)] := hl
        have hmu : mu = (577 - t0) * 1000000 + (577 - t1) * 1000 := gz.2.2.1 rfl
        have gp0 : h30 0 = pI t0 := gp.1 (by decide)
        have gp1 : h30 1 = pI t1 := gp.2.1 (by decide)
        refine lv_iload_n hx hb dX8_goes_22 rfl (lv_at hl 1 rfl) ?_
        refine lv_if_lt (tgt := 90) hx hb dX8_goes_23 (by decide) (fun c => absurd c (by decide)) (fun _ => ?_)
        refine lv_iload hx hb dX8_goes_26 (lv_at hl 0 rfl) ?_
        refine lv_if_ne (tgt := 90) hx hb dX8_goes_28 (by decide) (fun c => absurd (by decide) c) (fun _ => ?_)
        refine lv_aload_n hx hb dX8_goes_31 rfl (lv_at hl 2 rfl) ?_
        refine va_get (D := (dC, dI)) (ci := 6) (v := .ref m31) (C := RX8) (T := TX8) (N := 32) hx hb hts iX8 hown hK hP 0 rfl rfl 31 (by decide) (hts (.fieldLink RX8 60 "ParkTowerModel" "isDone" "[Z") (by decide +kernel)) (fun _ h9 => h9) rfl dX8_goes_32 ?_
        refine lv_iload_n hx hb dX8_goes_35 rfl (lv_at hl 1 rfl) ?_
        refine va_zald hx hb hK hP 4 3 rfl rfl (vp_in_iff.mpr (by decide)) dX8_goes_36 ?_
        refine lv_topi (fun a_9 ea_9 => ?_)
        have ea_9 : a_9 = h31 1 := ea_9
        obtain rfl : a_9 = 0 := ea_9.trans (gD.no (by decide))
        refine lv_if_eq (tgt := 45) hx hb dX8_goes_37 (by decide) (fun _ => ?_) (fun c => absurd (by decide) c)
        refine lv_aload_n hx hb dX8_goes_45 rfl (lv_at hl 2 rfl) ?_
        refine lv_iload_n hx hb dX8_goes_46 rfl (lv_at hl 3 rfl) ?_
        refine lv_iload_n hx hb dX8_goes_47 rfl (lv_at hl 1 rfl) ?_
        have hPc := hP.sub (ws' := [(mo, .inr (6, [.int th, .int tm, .int (nI sr), .int (nI nc), .ref m4, .ref m5, .ref m6, .ref m7, .ref m8, .ref m9, .ref m10, .ref m11, .ref m12, .int pw, .int rn, .int (nI no), .ref m16, .ref m17, .ref m18, .int (nI bz), .int (nI dg), .int (nI db), .int (nI df), .int (nI sp), .int tg, .int lf, .int mm, .ref m27, .int fo, .ref m29, .ref m30, .ref m31])), (m7, .inl (y7, 96, .inl h7)), (m29, .inl (y29, 8, .inl h29)), (m30, .inl (y30, 4, .inl h30)), (m31, .inl (y31, 4, .inl h31))]) [0, 1, 2, 3, 4] rfl
        have hDc := hD.sub (ws' := [(mo, .inr (6, [.int th, .int tm, .int (nI sr), .int (nI nc), .ref m4, .ref m5, .ref m6, .ref m7, .ref m8, .ref m9, .ref m10, .ref m11, .ref m12, .int pw, .int rn, .int (nI no), .ref m16, .ref m17, .ref m18, .int (nI bz), .int (nI dg), .int (nI db), .int (nI df), .int (nI sp), .int tg, .int lf, .int mm, .ref m27, .int fo, .ref m29, .ref m30, .ref m31])), (m7, .inl (y7, 96, .inl h7)), (m29, .inl (y29, 8, .inl h29)), (m30, .inl (y30, 4, .inl h30)), (m31, .inl (y31, 4, .inl h31))]) [0, 1, 2, 3, 4] (by decide) rfl
        have hKc := hK.sub (tys' := [(y7, .int), (y29, .int), (y30, .int), (y31, .boolean)]) [0, 1, 2, 3] rfl
        have hFc := va_free (wc := [(mo, .inr (6, [.int th, .int tm, .int (nI sr), .int (nI nc), .ref m4, .ref m5, .ref m6, .ref m7, .ref m8, .ref m9, .ref m10, .ref m11, .ref m12, .int pw, .int rn, .int (nI no), .ref m16, .ref m17, .ref m18, .int (nI bz), .int (nI dg), .int (nI db), .int (nI df), .int (nI sp), .int tg, .int lf, .int mm, .ref m27, .int fo, .ref m29, .ref m30, .ref m31])), (m7, .inl (y7, 96, .inl h7)), (m29, .inl (y29, 8, .inl h29)), (m30, .inl (y30, 4, .inl h30)), (m31, .inl (y31, 4, .inl h31))]) hD hS hA [0, 1, 2, 3, 4] rfl
        refine va_calli (va_runV (As := [.int (nI tg9), .int 1]) (rest := []) ⟨hx, hb, hml, hown, hts⟩ (m_turns l dC dI _ mo m4 m5 m6 m7 m8 m9 m10 m11 m12 m16 m17 m18 m27 m29 m30 m31 th tm pw rn tg lf mm fo sr nc no bz dg db df sp y7 y29 y30 y31 h7 h29 h30 h31 tg9 1 t1 htg (by decide) (by omega) gp1 gC) (cwV 2 hts gX8_goes_X8_turns rfl rfl rfl (by decide +kernel) ⟨Nat.le_of_ble_eq_true rfl, Nat.le_of_ble_eq_true rfl⟩) ⟨pt_blindQ, va_recv hK hP (ci := 6) (q0 := 0) rfl rfl, pt_preQ hPc hKc hDc hN⟩ rfl rfl hl.1 rfl (lv_room (Nat.le_of_ble_eq_true rfl)) dX8_goes_48 ⟨Nat.le_of_ble_eq_true rfl, Nat.le_of_ble_eq_true rfl⟩) hS (fun q _ h => hFc q h) hFc (fun r_10 u_10 t H1 locs ht hvm hw_10 hB hz1 hk1 hS => ?_)
        obtain ⟨v_10, n_10, F_10⟩ := u_10
        obtain ⟨hP1, hK1, hD1⟩ := hB
        try dsimp only at hw_10
        rw [ht] at hP1
        have hK1 := va_K.moved hvm.symm hK1
        obtain ⟨hP, hD⟩ := va_join (wr := []) (w1 := [(mo, .inr (6, [.int th, .int tm, .int (nI sr), .int (nI nc), .ref m4, .ref m5, .ref m6, .ref m7, .ref m8, .ref m9, .ref m10, .ref m11, .ref m12, .int pw, .int rn, .int (nI no), .ref m16, .ref m17, .ref m18, .int (nI bz), .int (nI dg), .int (nI db), .int (nI df), .int (nI sp), .int tg, .int lf, .int mm, .ref m27, .int fo, .ref m29, .ref m30, .ref m31])), (m7, .inl (y7, 96, .inl (F_10 0))), (m29, .inl (y29, 8, .inl (F_10 1))), (m30, .inl (y30, 4, .inl (F_10 2))), (m31, .inl (y31, 4, .inl (F_10 3)))]) hP hD [0, 1, 2, 3, 4] [] rfl rfl (by decide) (by decide) hk1 hFc hP1 hD1
        have hK := hK.app hK1
        generalize H1 = H at hP hS ⊢
        have hP : va_P (dC, dI) vwCl [(mo, .inr (6, [.int th, .int tm, .int (nI sr), .int (nI nc), .ref m4, .ref m5, .ref m6, .ref m7, .ref m8, .ref m9, .ref m10, .ref m11, .ref m12, .int pw, .int rn, .int (nI no), .ref m16, .ref m17, .ref m18, .int (nI bz), .int (nI dg), .int (nI db), .int (nI df), .int (nI sp), .int tg, .int lf, .int mm, .ref m27, .int fo, .ref m29, .ref m30, .ref m31])), (m7, .inl (y7, 96, .inl (F_10 0))), (m29, .inl (y29, 8, .inl (F_10 1))), (m30, .inl (y30, 4, .inl (F_10 2))), (m31, .inl (y31, 4, .inl (F_10 3)))] H := hP
        have hD : va_D A [(mo, .inr (6, [.int th, .int tm, .int (nI sr), .int (nI nc), .ref m4, .ref m5, .ref m6, .ref m7, .ref m8, .ref m9, .ref m10, .ref m11, .ref m12, .int pw, .int rn, .int (nI no), .ref m16, .ref m17, .ref m18, .int (nI bz), .int (nI dg), .int (nI db), .int (nI df), .int (nI sp), .int tg, .int lf, .int mm, .ref m27, .int fo, .ref m29, .ref m30, .ref m31])), (m7, .inl (y7, 96, .inl (F_10 0))), (m29, .inl (y29, 8, .inl (F_10 1))), (m30, .inl (y30, 4, .inl (F_10 2))), (m31, .inl (y31, 4, .inl (F_10 3)))] := hD
        have hK : va_K (dC, dI) vwCl [(y7, .int), (y29, .int), (y30, .int), (y31, .boolean)] s := hK
        rcases hw_10 with ⟨rfl, e1_10, e2_10, e3_10, e4_10, e5_10⟩ | ⟨rfl, a_10, b_10, x_10, t_10, e1_10, e2_10, e3_10, e4_10, e5_10, e6_10, e7_10, e8_10, e9_10, e10_10, e11_10, e12_10, e13_10, e14_10, e15_10, e16_10⟩
        · skip
          rw [e1_10, e2_10, e3_10] at hP hD
          have hP : va_P (dC, dI) vwCl [(mo, .inr (6, [.int th, .int tm, .int (nI sr), .int (nI nc), .ref m4, .ref m5, .ref m6, .ref m7, .ref m8, .ref m9, .ref m10, .ref m11, .ref m12, .int pw, .int rn, .int (nI no), .ref m16, .ref m17, .ref m18, .int (nI bz), .int (nI dg), .int (nI db), .int (nI df), .int (nI sp), .int tg, .int lf, .int mm, .ref m27, .int fo, .ref m29, .ref m30, .ref m31])), (m7, .inl (y7, 96, .inl h7)), (m29, .inl (y29, 8, .inl h29)), (m30, .inl (y30, 4, .inl (F_10 2))), (m31, .inl (y31, 4, .inl h31))] H := hP
          have hD : va_D A [(mo, .inr (6, [.int th, .int tm, .int (nI sr), .int (nI nc), .ref m4, .ref m5, .ref m6, .ref m7, .ref m8, .ref m9, .ref m10, .ref m11, .ref m12, .int pw, .int rn, .int (nI no), .ref m16, .ref m17, .ref m18, .int (nI bz), .int (nI dg), .int (nI db), .int (nI df), .int (nI sp), .int tg, .int lf, .int mm, .ref m27, .int fo, .ref m29, .ref m30, .ref m31])), (m7, .inl (y7, 96, .inl h7)), (m29, .inl (y29, 8, .inl h29)), (m30, .inl (y30, 4, .inl (F_10 2))), (m31, .inl (y31, 4, .inl h31))] := hD
          refine lv_if_ne (tgt := 60) hx hb dX8_goes_51 (by decide) (fun c => absurd (by decide) c) (fun _ => ?_)
          refine lv_iinc (v := 0) (lv' := [(3, .int 0), (4, .int 0), (0, .ref mo), (1, .int (nI tg9)), (2, .int 2)]) hx hb dX8_goes_54 hl (k := 1) rfl (by decide) (by decide) rfl (fun ls hl => ?_)
          refine lv_goto (tgt := 22) hx hb dX8_goes_57 (by decide) ?_
          exact ih ((577 - t0) * 1000000) H locs ls (by omega) ⟨1, 0, 0, h7, h29, F_10 2, h31, 1, t0, t1, t2, lv_sub hl [1, 0, 2, 3, 4] rfl, by omega, rfl, Or.inl rfl, gm, gD, ⟨by omega, by omega, by omega⟩, ⟨fun _ => (e5_10 0 (by decide)).trans gp0, fun q => absurd q (by decide), fun q => absurd q (by decide)⟩, ⟨fun q => absurd q (by decide), fun _ => Or.inr rfl⟩, fun q => absurd q (by decide), ⟨fun q => absurd q (by decide), fun _ => rfl, fun q => absurd q (by decide), fun q => absurd q (by decide)⟩, gC, hP.sub [0, 1, 2, 3, 4] rfl, hD.sub [0, 1, 2, 3, 4] (by decide) rfl, hS⟩
        · skip
          rw [e14_10, e15_10, e16_10] at hP hD
          have m_10 : mdo (upd h29 1 (nI (100 * a_10 + b_10))) (tg9 / 24) f7 2 (upd (upd h7 b_10 (nI x_10)) a_10 0) := ⟨_, a_10, b_10, x_10, mdo.upd 1 _ (Nat.le_refl _) gm, pk_us, e5_10, e6_10, e7_10, e8_10, e9_10, e10_10, e11_10, e12_10, e13_10, rfl⟩
          have hP : va_P (dC, dI) vwCl [(mo, .inr (6, [.int th, .int tm, .int (nI sr), .int (nI nc), .ref m4, .ref m5, .ref m6, .ref m7, .ref m8, .ref m9, .ref m10, .ref m11, .ref m12, .int pw, .int rn, .int (nI no), .ref m16, .ref m17, .ref m18, .int (nI bz), .int (nI dg), .int (nI db), .int (nI df), .int (nI sp), .int tg, .int lf, .int mm, .ref m27, .int fo, .ref m29, .ref m30, .ref m31])), (m7, .inl (y7, 96, .inl (upd (upd h7 b_10 (nI x_10)) a_10 0))), (m29, .inl (y29, 8, .inl (upd h29 1 (nI (100 * a_10 + b_10))))), (m30, .inl (y30, 4, .inl (F_10 2))), (m31, .inl (y31, 4, .inl (upd h31 1 1)))] H := hP
          have hD : va_D A [(mo, .inr (6, [.int th, .int tm, .int (nI sr), .int (nI nc), .ref m4, .ref m5, .ref m6, .ref m7, .ref m8, .ref m9, .ref m10, .ref m11, .ref m12, .int pw, .int rn, .int (nI no), .ref m16, .ref m17, .ref m18, .int (nI bz), .int (nI dg), .int (nI db), .int (nI df), .int (nI sp), .int tg, .int lf, .int mm, .ref m27, .int fo, .ref m29, .ref m30, .ref m31])), (m7, .inl (y7, 96, .inl (upd (upd h7 b_10 (nI x_10)) a_10 0))), (m29, .inl (y29, 8, .inl (upd h29 1 (nI (100 * a_10 + b_10))))), (m30, .inl (y30, 4, .inl (F_10 2))), (m31, .inl (y31, 4, .inl (upd h31 1 1)))] := hD
          refine lv_if_ne (tgt := 60) hx hb dX8_goes_51 (by decide) (fun _ => ?_) (fun c => absurd c (by decide))
          refine lv_iload_n hx hb dX8_goes_60 rfl (lv_at hl 1 rfl) ?_
          refine lv_iload_n hx hb dX8_goes_61 rfl (lv_at hl 4 rfl) ?_
          refine lv_iconst (v := 1) hx hb dX8_goes_62 (by decide) ?_
          refine lv_isub hx hb dX8_goes_63 ?_
          refine pt_topi 1 (by decide) ?_
          refine lv_icmp_ne (tgt := 77) hx hb dX8_goes_64 (by decide) (fun c => absurd (by decide) c) (fun _ => ?_)
          refine lv_aload_n hx hb dX8_goes_67 rfl (lv_at hl 2 rfl) ?_
          refine lv_iload_n hx hb dX8_goes_68 rfl (lv_at hl 3 rfl) ?_
          refine pt_cSi (va_runV (As := [.int (nI tg9)]) (rest := []) ⟨hx, hb, hml, hown, hts⟩ (m_isReached l dC dI mo m4 m5 m6 m7 m8 m9 m10 m11 m12 m16 m17 m18 m27 m29 m30 m31 th tm pw rn tg lf mm fo sr nc no bz dg db df sp y7 (upd (upd h7 b_10 (nI x_10)) a_10 0) tg9 (by omega)) (cwV 1 hts gX8_goes_X8_isReached rfl rfl rfl (by decide +kernel) ⟨Nat.le_of_ble_eq_true rfl, Nat.le_of_ble_eq_true rfl⟩) ⟨pt_blind, va_recv hK hP (ci := 6) (q0 := 0) rfl rfl, pt_pre (w := [(mo, .inr (6, [.int th, .int tm, .int (nI sr), .int (nI nc), .ref m4, .ref m5, .ref m6, .ref m7, .ref m8, .ref m9, .ref m10, .ref m11, .ref m12, .int pw, .int rn, .int (nI no), .ref m16, .ref m17, .ref m18, .int (nI bz), .int (nI dg), .int (nI db), .int (nI df), .int (nI sp), .int tg, .int lf, .int mm, .ref m27, .int fo, .ref m29, .ref m30, .ref m31])), (m7, .inl (y7, 96, .inl (upd (upd h7 b_10 (nI x_10)) a_10 0)))]) (tys := [(y7, .int)]) (hP.sub [0, 1] rfl) (hK.sub [0] rfl) hN⟩ rfl rfl hl.1 rfl (lv_room (Nat.le_of_ble_eq_true rfl)) dX8_goes_69 ⟨Nat.le_of_ble_eq_true rfl, Nat.le_of_ble_eq_true rfl⟩) (fun r_11 hr_11 => ?_)
          rcases hr_11 with rfl | rfl
          · skip
            refine lv_istore (lv' := [(4, .int 0), (3, .int 1), (0, .ref mo), (1, .int (nI tg9)), (2, .int 2)]) hx hb dX8_goes_72 hl (by decide) rfl (fun ls hl => ?_)
            refine lv_goto (tgt := 22) hx hb dX8_goes_74 (by decide) ?_
            exact ih ((577 - t0) * 1000000 + (577 - t_10) * 1000) H locs ls (by omega) ⟨2, 1, 0, upd (upd h7 b_10 (nI x_10)) a_10 0, upd h29 1 (nI (100 * a_10 + b_10)), F_10 2, upd h31 1 1, 2, t0, t_10, t2, lv_sub hl [0, 1, 2, 3, 4] rfl, by omega, rfl, Or.inl rfl, m_10, mD.up gD, ⟨by omega, by omega, by omega⟩, ⟨fun _ => (e4_10 0 (by decide)).trans gp0, fun _ => e3_10, fun q => absurd q (by decide)⟩, ⟨fun q => absurd q (by decide), fun _ => Or.inr rfl⟩, fun q => absurd q (by decide), ⟨fun q => absurd q (by decide), fun q => absurd q (by decide), fun _ => rfl, fun q => absurd q (by decide)⟩, mC_moved gC e12_10, hP.sub [0, 1, 2, 3, 4] rfl, hD.sub [0, 1, 2, 3, 4] (by decide) rfl, hS⟩
          · skip
            refine lv_istore (lv' := [(4, .int 1), (3, .int 1), (0, .ref mo), (1, .int (nI tg9)), (2, .int 2)]) hx hb dX8_goes_72 hl (by decide) rfl (fun ls hl => ?_)
            refine lv_goto (tgt := 22) hx hb dX8_goes_74 (by decide) ?_
            exact ih ((577 - t0) * 1000000 + (577 - t_10) * 1000) H locs ls (by omega) ⟨2, 1, 1, upd (upd h7 b_10 (nI x_10)) a_10 0, upd h29 1 (nI (100 * a_10 + b_10)), F_10 2, upd h31 1 1, 2, t0, t_10, t2, lv_sub hl [0, 1, 2, 3, 4] rfl, by omega, rfl, Or.inr rfl, m_10, mD.up gD, ⟨by omega, by omega, by omega⟩, ⟨fun _ => (e4_10 0 (by decide)).trans gp0, fun _ => e3_10, fun q => absurd q (by decide)⟩, ⟨fun q => absurd q (by decide), fun _ => Or.inr rfl⟩, fun _ => rfl, ⟨fun q => absurd q (by decide), fun q => absurd q (by decide), fun _ => rfl, fun q => absurd q (by decide)⟩, mC_moved gC e12_10, hP.sub [0, 1, 2, 3, 4] rfl, hD.sub [0, 1, 2, 3, 4] (by decide) rfl, hS⟩
      · skip
        have hl : lv_has ls 6 [(4, .int 0), (3, .int 1), (0, .ref mo), (1, .int (nI tg9)), (2, .int 2)] := hl
        have hmu : mu = (577 - t0) * 1000000 + (577 - t1) * 1000 := gz.2.2.1 rfl
        have gp0 : h30 0 = pI t0 := gp.1 (by decide)
        have gp1 : h30 1 = pI t1 := gp.2.1 (by decide)
        refine lv_iload_n hx hb dX8_goes_22 rfl (lv_at hl 1 rfl) ?_
        refine lv_if_lt (tgt := 90) hx hb dX8_goes_23 (by decide) (fun c => absurd c (by decide)) (fun _ => ?_)
        refine lv_iload hx hb dX8_goes_26 (lv_at hl 0 rfl) ?_
        refine lv_if_ne (tgt := 90) hx hb dX8_goes_28 (by decide) (fun c => absurd (by decide) c) (fun _ => ?_)
        refine lv_aload_n hx hb dX8_goes_31 rfl (lv_at hl 2 rfl) ?_
        refine va_get (D := (dC, dI)) (ci := 6) (v := .ref m31) (C := RX8) (T := TX8) (N := 32) hx hb hts iX8 hown hK hP 0 rfl rfl 31 (by decide) (hts (.fieldLink RX8 60 "ParkTowerModel" "isDone" "[Z") (by decide +kernel)) (fun _ h9 => h9) rfl dX8_goes_32 ?_
        refine lv_iload_n hx hb dX8_goes_35 rfl (lv_at hl 1 rfl) ?_
        refine va_zald hx hb hK hP 4 3 rfl rfl (vp_in_iff.mpr (by decide)) dX8_goes_36 ?_
        refine lv_topi (fun a_12 ea_12 => ?_)
        have ea_12 : a_12 = h31 1 := ea_12
        obtain rfl : a_12 = 1 := ea_12.trans (gD.yes (by decide))
        refine lv_if_eq (tgt := 45) hx hb dX8_goes_37 (by decide) (fun c => absurd c (by decide)) (fun _ => ?_)
        refine lv_aload_n hx hb dX8_goes_40 rfl (lv_at hl 2 rfl) ?_
        refine lv_iload_n hx hb dX8_goes_41 rfl (lv_at hl 1 rfl) ?_
        obtain ⟨h_13, a_13, b_13, x_13, m_13, i1_13, i2_13, i3_13, i4_13, i5_13, i6_13, i7_13, i8_13, i9_13, i10_13, i11_13⟩ := gm
        have hPc := hP.sub (ws' := [(mo, .inr (6, [.int th, .int tm, .int (nI sr), .int (nI nc), .ref m4, .ref m5, .ref m6, .ref m7, .ref m8, .ref m9, .ref m10, .ref m11, .ref m12, .int pw, .int rn, .int (nI no), .ref m16, .ref m17, .ref m18, .int (nI bz), .int (nI dg), .int (nI db), .int (nI df), .int (nI sp), .int tg, .int lf, .int mm, .ref m27, .int fo, .ref m29, .ref m30, .ref m31])), (m7, .inl (y7, 96, .inl h7)), (m29, .inl (y29, 8, .inl h29)), (m31, .inl (y31, 4, .inl h31))]) [0, 1, 2, 4] rfl
        have hDc := hD.sub (ws' := [(mo, .inr (6, [.int th, .int tm, .int (nI sr), .int (nI nc), .ref m4, .ref m5, .ref m6, .ref m7, .ref m8, .ref m9, .ref m10, .ref m11, .ref m12, .int pw, .int rn, .int (nI no), .ref m16, .ref m17, .ref m18, .int (nI bz), .int (nI dg), .int (nI db), .int (nI df), .int (nI sp), .int tg, .int lf, .int mm, .ref m27, .int fo, .ref m29, .ref m30, .ref m31])), (m7, .inl (y7, 96, .inl h7)), (m29, .inl (y29, 8, .inl h29)), (m31, .inl (y31, 4, .inl h31))]) [0, 1, 2, 4] (by decide) rfl
        have hKc := hK.sub (tys' := [(y7, .int), (y29, .int), (y31, .boolean)]) [0, 1, 3] rfl
        have hFc := va_free (wc := [(mo, .inr (6, [.int th, .int tm, .int (nI sr), .int (nI nc), .ref m4, .ref m5, .ref m6, .ref m7, .ref m8, .ref m9, .ref m10, .ref m11, .ref m12, .int pw, .int rn, .int (nI no), .ref m16, .ref m17, .ref m18, .int (nI bz), .int (nI dg), .int (nI db), .int (nI df), .int (nI sp), .int tg, .int lf, .int mm, .ref m27, .int fo, .ref m29, .ref m30, .ref m31])), (m7, .inl (y7, 96, .inl h7)), (m29, .inl (y29, 8, .inl h29)), (m31, .inl (y31, 4, .inl h31))]) hD hS hA [0, 1, 2, 4] rfl
        refine va_callv (va_runV (As := [.int 1]) (rest := []) ⟨hx, hb, hml, hown, hts⟩ (m_undo l dC dI _ mo m4 m5 m6 m7 m8 m9 m10 m11 m12 m16 m17 m18 m27 m29 m30 m31 th tm pw rn tg lf mm fo sr nc no bz dg db df sp y7 y29 y31 h7 h29 h31 1 a_13 b_13 (by omega) i2_13 i3_13 i1_13) (cwV 1 hts gX8_goes_X8_undo rfl rfl rfl (by decide +kernel) ⟨Nat.le_of_ble_eq_true rfl, Nat.le_of_ble_eq_true rfl⟩) ⟨pt_blindQ, va_recv hK hP (ci := 6) (q0 := 0) rfl rfl, pt_preQ hPc hKc hDc hN⟩ rfl rfl hl.1 rfl (lv_room (Nat.le_of_ble_eq_true rfl)) dX8_goes_42 ⟨Nat.le_of_ble_eq_true rfl, Nat.le_of_ble_eq_true rfl⟩) hS (fun q _ h => hFc q h) hFc (fun u_14 t H1 locs ht hvm hw_14 hB hz1 hk1 hS => ?_)
        obtain ⟨v_14, n_14, F_14⟩ := u_14
        obtain ⟨hP1, hK1, hD1⟩ := hB
        try dsimp only at hw_14
        rw [ht] at hP1
        have hK1 := va_K.moved hvm.symm hK1
        obtain ⟨hP, hD⟩ := va_join (wr := [(m30, .inl (y30, 4, .inl h30))]) (w1 := [(mo, .inr (6, [.int th, .int tm, .int (nI sr), .int (nI nc), .ref m4, .ref m5, .ref m6, .ref m7, .ref m8, .ref m9, .ref m10, .ref m11, .ref m12, .int pw, .int rn, .int (nI no), .ref m16, .ref m17, .ref m18, .int (nI bz), .int (nI dg), .int (nI db), .int (nI df), .int (nI sp), .int tg, .int lf, .int mm, .ref m27, .int fo, .ref m29, .ref m30, .ref m31])), (m7, .inl (y7, 96, .inl (upd (upd h7 a_13 (h7 b_13)) b_13 0))), (m29, .inl (y29, 8, .inl h29)), (m31, .inl (y31, 4, .inl (upd h31 1 0)))]) hP hD [0, 1, 2, 4] [3] rfl rfl (by decide) (by decide) hk1 hFc hP1 hD1
        have hK := hK.app hK1
        generalize H1 = H at hP hS ⊢
        have hP : va_P (dC, dI) vwCl [(m30, .inl (y30, 4, .inl h30)), (mo, .inr (6, [.int th, .int tm, .int (nI sr), .int (nI nc), .ref m4, .ref m5, .ref m6, .ref m7, .ref m8, .ref m9, .ref m10, .ref m11, .ref m12, .int pw, .int rn, .int (nI no), .ref m16, .ref m17, .ref m18, .int (nI bz), .int (nI dg), .int (nI db), .int (nI df), .int (nI sp), .int tg, .int lf, .int mm, .ref m27, .int fo, .ref m29, .ref m30, .ref m31])), (m7, .inl (y7, 96, .inl (upd (upd h7 a_13 (h7 b_13)) b_13 0))), (m29, .inl (y29, 8, .inl h29)), (m31, .inl (y31, 4, .inl (upd h31 1 0)))] H := hP
        have hD : va_D A [(m30, .inl (y30, 4, .inl h30)), (mo, .inr (6, [.int th, .int tm, .int (nI sr), .int (nI nc), .ref m4, .ref m5, .ref m6, .ref m7, .ref m8, .ref m9, .ref m10, .ref m11, .ref m12, .int pw, .int rn, .int (nI no), .ref m16, .ref m17, .ref m18, .int (nI bz), .int (nI dg), .int (nI db), .int (nI df), .int (nI sp), .int tg, .int lf, .int mm, .ref m27, .int fo, .ref m29, .ref m30, .ref m31])), (m7, .inl (y7, 96, .inl (upd (upd h7 a_13 (h7 b_13)) b_13 0))), (m29, .inl (y29, 8, .inl h29)), (m31, .inl (y31, 4, .inl (upd h31 1 0)))] := hD
        have hK : va_K (dC, dI) vwCl [(y7, .int), (y29, .int), (y30, .int), (y31, .boolean)] s := hK
        rw [mundo' i6_13 i7_13 i10_13 i11_13] at hP hD
        have hP : va_P (dC, dI) vwCl [(m30, .inl (y30, 4, .inl h30)), (mo, .inr (6, [.int th, .int tm, .int (nI sr), .int (nI nc), .ref m4, .ref m5, .ref m6, .ref m7, .ref m8, .ref m9, .ref m10, .ref m11, .ref m12, .int pw, .int rn, .int (nI no), .ref m16, .ref m17, .ref m18, .int (nI bz), .int (nI dg), .int (nI db), .int (nI df), .int (nI sp), .int tg, .int lf, .int mm, .ref m27, .int fo, .ref m29, .ref m30, .ref m31])), (m7, .inl (y7, 96, .inl h_13)), (m29, .inl (y29, 8, .inl h29)), (m31, .inl (y31, 4, .inl (upd h31 1 0)))] H := hP
        have hD : va_D A [(m30, .inl (y30, 4, .inl h30)), (mo, .inr (6, [.int th, .int tm, .int (nI sr), .int (nI nc), .ref m4, .ref m5, .ref m6, .ref m7, .ref m8, .ref m9, .ref m10, .ref m11, .ref m12, .int pw, .int rn, .int (nI no), .ref m16, .ref m17, .ref m18, .int (nI bz), .int (nI dg), .int (nI db), .int (nI df), .int (nI sp), .int tg, .int lf, .int mm, .ref m27, .int fo, .ref m29, .ref m30, .ref m31])), (m7, .inl (y7, 96, .inl h_13)), (m29, .inl (y29, 8, .inl h29)), (m31, .inl (y31, 4, .inl (upd h31 1 0)))] := hD
        have C_13 : ∀ i, mC (h_13 i) := fun i => by rw [← mundo' i6_13 i7_13 i10_13 i11_13]; exact s_upd (fun i => s_upd gC (gC _) i) (Or.inr ⟨0, by omega, rfl⟩) i
        refine lv_aload_n hx hb dX8_goes_45 rfl (lv_at hl 2 rfl) ?_
        refine lv_iload_n hx hb dX8_goes_46 rfl (lv_at hl 3 rfl) ?_
        refine lv_iload_n hx hb dX8_goes_47 rfl (lv_at hl 1 rfl) ?_
        have hPc := hP.sub (ws' := [(mo, .inr (6, [.int th, .int tm, .int (nI sr), .int (nI nc), .ref m4, .ref m5, .ref m6, .ref m7, .ref m8, .ref m9, .ref m10, .ref m11, .ref m12, .int pw, .int rn, .int (nI no), .ref m16, .ref m17, .ref m18, .int (nI bz), .int (nI dg), .int (nI db), .int (nI df), .int (nI sp), .int tg, .int lf, .int mm, .ref m27, .int fo, .ref m29, .ref m30, .ref m31])), (m7, .inl (y7, 96, .inl h_13)), (m29, .inl (y29, 8, .inl h29)), (m30, .inl (y30, 4, .inl h30)), (m31, .inl (y31, 4, .inl (upd h31 1 0)))]) [1, 2, 3, 0, 4] rfl
        have hDc := hD.sub (ws' := [(mo, .inr (6, [.int th, .int tm, .int (nI sr), .int (nI nc), .ref m4, .ref m5, .ref m6, .ref m7, .ref m8, .ref m9, .ref m10, .ref m11, .ref m12, .int pw, .int rn, .int (nI no), .ref m16, .ref m17, .ref m18, .int (nI bz), .int (nI dg), .int (nI db), .int (nI df), .int (nI sp), .int tg, .int lf, .int mm, .ref m27, .int fo, .ref m29, .ref m30, .ref m31])), (m7, .inl (y7, 96, .inl h_13)), (m29, .inl (y29, 8, .inl h29)), (m30, .inl (y30, 4, .inl h30)), (m31, .inl (y31, 4, .inl (upd h31 1 0)))]) [1, 2, 3, 0, 4] (by decide) rfl
        have hKc := hK.sub (tys' := [(y7, .int), (y29, .int), (y30, .int), (y31, .boolean)]) [0, 1, 2, 3] rfl
        have hFc := va_free (wc := [(mo, .inr (6, [.int th, .int tm, .int (nI sr), .int (nI nc), .ref m4, .ref m5, .ref m6, .ref m7, .ref m8, .ref m9, .ref m10, .ref m11, .ref m12, .int pw, .int rn, .int (nI no), .ref m16, .ref m17, .ref m18, .int (nI bz), .int (nI dg), .int (nI db), .int (nI df), .int (nI sp), .int tg, .int lf, .int mm, .ref m27, .int fo, .ref m29, .ref m30, .ref m31])), (m7, .inl (y7, 96, .inl h_13)), (m29, .inl (y29, 8, .inl h29)), (m30, .inl (y30, 4, .inl h30)), (m31, .inl (y31, 4, .inl (upd h31 1 0)))]) hD hS hA [1, 2, 3, 0, 4] rfl
        refine va_calli (va_runV (As := [.int (nI tg9), .int 1]) (rest := []) ⟨hx, hb, hml, hown, hts⟩ (m_turns l dC dI _ mo m4 m5 m6 m7 m8 m9 m10 m11 m12 m16 m17 m18 m27 m29 m30 m31 th tm pw rn tg lf mm fo sr nc no bz dg db df sp y7 y29 y30 y31 h_13 h29 h30 (upd h31 1 0) tg9 1 t1 htg (by decide) (by omega) gp1 C_13) (cwV 2 hts gX8_goes_X8_turns rfl rfl rfl (by decide +kernel) ⟨Nat.le_of_ble_eq_true rfl, Nat.le_of_ble_eq_true rfl⟩) ⟨pt_blindQ, va_recv hK hP (ci := 6) (q0 := 1) rfl rfl, pt_preQ hPc hKc hDc hN⟩ rfl rfl hl.1 rfl (lv_room (Nat.le_of_ble_eq_true rfl)) dX8_goes_48 ⟨Nat.le_of_ble_eq_true rfl, Nat.le_of_ble_eq_true rfl⟩) hS (fun q _ h => hFc q h) hFc (fun r_15 u_15 t H1 locs ht hvm hw_15 hB hz1 hk1 hS => ?_)
        obtain ⟨v_15, n_15, F_15⟩ := u_15
        obtain ⟨hP1, hK1, hD1⟩ := hB
        try dsimp only at hw_15
        rw [ht] at hP1
        have hK1 := va_K.moved hvm.symm hK1
        obtain ⟨hP, hD⟩ := va_join (wr := []) (w1 := [(mo, .inr (6, [.int th, .int tm, .int (nI sr), .int (nI nc), .ref m4, .ref m5, .ref m6, .ref m7, .ref m8, .ref m9, .ref m10, .ref m11, .ref m12, .int pw, .int rn, .int (nI no), .ref m16, .ref m17, .ref m18, .int (nI bz), .int (nI dg), .int (nI db), .int (nI df), .int (nI sp), .int tg, .int lf, .int mm, .ref m27, .int fo, .ref m29, .ref m30, .ref m31])), (m7, .inl (y7, 96, .inl (F_15 0))), (m29, .inl (y29, 8, .inl (F_15 1))), (m30, .inl (y30, 4, .inl (F_15 2))), (m31, .inl (y31, 4, .inl (F_15 3)))]) hP hD [1, 2, 3, 0, 4] [] rfl rfl (by decide) (by decide) hk1 hFc hP1 hD1
        have hK := hK.app hK1
        generalize H1 = H at hP hS ⊢
        have hP : va_P (dC, dI) vwCl [(mo, .inr (6, [.int th, .int tm, .int (nI sr), .int (nI nc), .ref m4, .ref m5, .ref m6, .ref m7, .ref m8, .ref m9, .ref m10, .ref m11, .ref m12, .int pw, .int rn, .int (nI no), .ref m16, .ref m17, .ref m18, .int (nI bz), .int (nI dg), .int (nI db), .int (nI df), .int (nI sp), .int tg, .int lf, .int mm, .ref m27, .int fo, .ref m29, .ref m30, .ref m31])), (m7, .inl (y7, 96, .inl (F_15 0))), (m29, .inl (y29, 8, .inl (F_15 1))), (m30, .inl (y30, 4, .inl (F_15 2))), (m31, .inl (y31, 4, .inl (F_15 3)))] H := hP
        have hD : va_D A [(mo, .inr (6, [.int th, .int tm, .int (nI sr), .int (nI nc), .ref m4, .ref m5, .ref m6, .ref m7, .ref m8, .ref m9, .ref m10, .ref m11, .ref m12, .int pw, .int rn, .int (nI no), .ref m16, .ref m17, .ref m18, .int (nI bz), .int (nI dg), .int (nI db), .int (nI df), .int (nI sp), .int tg, .int lf, .int mm, .ref m27, .int fo, .ref m29, .ref m30, .ref m31])), (m7, .inl (y7, 96, .inl (F_15 0))), (m29, .inl (y29, 8, .inl (F_15 1))), (m30, .inl (y30, 4, .inl (F_15 2))), (m31, .inl (y31, 4, .inl (F_15 3)))] := hD
        have hK : va_K (dC, dI) vwCl [(y7, .int), (y29, .int), (y30, .int), (y31, .boolean)] s := hK
        rcases hw_15 with ⟨rfl, e1_15, e2_15, e3_15, e4_15, e5_15⟩ | ⟨rfl, a_15, b_15, x_15, t_15, e1_15, e2_15, e3_15, e4_15, e5_15, e6_15, e7_15, e8_15, e9_15, e10_15, e11_15, e12_15, e13_15, e14_15, e15_15, e16_15⟩
        · skip
          rw [e1_15, e2_15, e3_15] at hP hD
          have hP : va_P (dC, dI) vwCl [(mo, .inr (6, [.int th, .int tm, .int (nI sr), .int (nI nc), .ref m4, .ref m5, .ref m6, .ref m7, .ref m8, .ref m9, .ref m10, .ref m11, .ref m12, .int pw, .int rn, .int (nI no), .ref m16, .ref m17, .ref m18, .int (nI bz), .int (nI dg), .int (nI db), .int (nI df), .int (nI sp), .int tg, .int lf, .int mm, .ref m27, .int fo, .ref m29, .ref m30, .ref m31])), (m7, .inl (y7, 96, .inl h_13)), (m29, .inl (y29, 8, .inl h29)), (m30, .inl (y30, 4, .inl (F_15 2))), (m31, .inl (y31, 4, .inl (upd h31 1 0)))] H := hP
          have hD : va_D A [(mo, .inr (6, [.int th, .int tm, .int (nI sr), .int (nI nc), .ref m4, .ref m5, .ref m6, .ref m7, .ref m8, .ref m9, .ref m10, .ref m11, .ref m12, .int pw, .int rn, .int (nI no), .ref m16, .ref m17, .ref m18, .int (nI bz), .int (nI dg), .int (nI db), .int (nI df), .int (nI sp), .int tg, .int lf, .int mm, .ref m27, .int fo, .ref m29, .ref m30, .ref m31])), (m7, .inl (y7, 96, .inl h_13)), (m29, .inl (y29, 8, .inl h29)), (m30, .inl (y30, 4, .inl (F_15 2))), (m31, .inl (y31, 4, .inl (upd h31 1 0)))] := hD
          refine lv_if_ne (tgt := 60) hx hb dX8_goes_51 (by decide) (fun c => absurd (by decide) c) (fun _ => ?_)
          refine lv_iinc (v := 0) (lv' := [(3, .int 0), (4, .int 0), (0, .ref mo), (1, .int (nI tg9)), (2, .int 2)]) hx hb dX8_goes_54 hl (k := 1) rfl (by decide) (by decide) rfl (fun ls hl => ?_)
          refine lv_goto (tgt := 22) hx hb dX8_goes_57 (by decide) ?_
          exact ih ((577 - t0) * 1000000) H locs ls (by omega) ⟨1, 0, 0, h_13, h29, F_15 2, upd h31 1 0, 1, t0, t1, t2, lv_sub hl [1, 0, 2, 3, 4] rfl, by omega, rfl, Or.inl rfl, m_13, mD.down gD, ⟨by omega, by omega, by omega⟩, ⟨fun _ => (e5_15 0 (by decide)).trans gp0, fun q => absurd q (by decide), fun q => absurd q (by decide)⟩, ⟨fun q => absurd q (by decide), fun _ => Or.inr rfl⟩, fun q => absurd q (by decide), ⟨fun q => absurd q (by decide), fun _ => rfl, fun q => absurd q (by decide), fun q => absurd q (by decide)⟩, C_13, hP.sub [0, 1, 2, 3, 4] rfl, hD.sub [0, 1, 2, 3, 4] (by decide) rfl, hS⟩
        · skip
          rw [e14_15, e15_15, e16_15] at hP hD
          have m_15 : mdo (upd h29 1 (nI (100 * a_15 + b_15))) (tg9 / 24) f7 2 (upd (upd h_13 b_15 (nI x_15)) a_15 0) := ⟨_, a_15, b_15, x_15, mdo.upd 1 _ (Nat.le_refl _) m_13, pk_us, e5_15, e6_15, e7_15, e8_15, e9_15, e10_15, e11_15, e12_15, e13_15, rfl⟩
          have hP : va_P (dC, dI) vwCl [(mo, .inr (6, [.int th, .int tm, .int (nI sr), .int (nI nc), .ref m4, .ref m5, .ref m6, .ref m7, .ref m8, .ref m9, .ref m10, .ref m11, .ref m12, .int pw, .int rn, .int (nI no), .ref m16, .ref m17, .ref m18, .int (nI bz), .int (nI dg), .int (nI db), .int (nI df), .int (nI sp), .int tg, .int lf, .int mm, .ref m27, .int fo, .ref m29, .ref m30, .ref m31])), (m7, .inl (y7, 96, .inl (upd (upd h_13 b_15 (nI x_15)) a_15 0))), (m29, .inl (y29, 8, .inl (upd h29 1 (nI (100 * a_15 + b_15))))), (m30, .inl (y30, 4, .inl (F_15 2))), (m31, .inl (y31, 4, .inl (upd (upd h31 1 0) 1 1)))] H := hP
          have hD : va_D A [(mo, .inr (6, [.int th, .int tm, .int (nI sr), .int (nI nc), .ref m4, .ref m5, .ref m6, .ref m7, .ref m8, .ref m9, .ref m10, .ref m11, .ref m12, .int pw, .int rn, .int (nI no), .ref m16, .ref m17, .ref m18, .int (nI bz), .int (nI dg), .int (nI db), .int (nI df), .int (nI sp), .int tg, .int lf, .int mm, .ref m27, .int fo, .ref m29, .ref m30, .ref m31])), (m7, .inl (y7, 96, .inl (upd (upd h_13 b_15 (nI x_15)) a_15 0))), (m29, .inl (y29, 8, .inl (upd h29 1 (nI (100 * a_15 + b_15))))), (m30, .inl (y30, 4, .inl (F_15 2))), (m31, .inl (y31, 4, .inl (upd (upd h31 1 0) 1 1)))] := hD
          refine lv_if_ne (tgt := 60) hx hb dX8_goes_51 (by decide) (fun _ => ?_) (fun c => absurd c (by decide))
          refine lv_iload_n hx hb dX8_goes_60 rfl (lv_at hl 1 rfl) ?_
          refine lv_iload_n hx hb dX8_goes_61 rfl (lv_at hl 4 rfl) ?_
          refine lv_iconst (v := 1) hx hb dX8_goes_62 (by decide) ?_
          refine lv_isub hx hb dX8_goes_63 ?_
          refine pt_topi 1 (by decide) ?_
          refine lv_icmp_ne (tgt := 77) hx hb dX8_goes_64 (by decide) (fun c => absurd (by decide) c) (fun _ => ?_)
          refine lv_aload_n hx hb dX8_goes_67 rfl (lv_at hl 2 rfl) ?_
          refine lv_iload_n hx hb dX8_goes_68 rfl (lv_at hl 3 rfl) ?_
          refine pt_cSi (va_runV (As := [.int (nI tg9)]) (rest := []) ⟨hx, hb, hml, hown, hts⟩ (m_isReached l dC dI mo m4 m5 m6 m7 m8 m9 m10 m11 m12 m16 m17 m18 m27 m29 m30 m31 th tm pw rn tg lf mm fo sr nc no bz dg db df sp y7 (upd (upd h_13 b_15 (nI x_15)) a_15 0) tg9 (by omega)) (cwV 1 hts gX8_goes_X8_isReached rfl rfl rfl (by decide +kernel) ⟨Nat.le_of_ble_eq_true rfl, Nat.le_of_ble_eq_true rfl⟩) ⟨pt_blind, va_recv hK hP (ci := 6) (q0 := 0) rfl rfl, pt_pre (w := [(mo, .inr (6, [.int th, .int tm, .int (nI sr), .int (nI nc), .ref m4, .ref m5, .ref m6, .ref m7, .ref m8, .ref m9, .ref m10, .ref m11, .ref m12, .int pw, .int rn, .int (nI no), .ref m16, .ref m17, .ref m18, .int (nI bz), .int (nI dg), .int (nI db), .int (nI df), .int (nI sp), .int tg, .int lf, .int mm, .ref m27, .int fo, .ref m29, .ref m30, .ref m31])), (m7, .inl (y7, 96, .inl (upd (upd h_13 b_15 (nI x_15)) a_15 0)))]) (tys := [(y7, .int)]) (hP.sub [0, 1] rfl) (hK.sub [0] rfl) hN⟩ rfl rfl hl.1 rfl (lv_room (Nat.le_of_ble_eq_true rfl)) dX8_goes_69 ⟨Nat.le_of_ble_eq_true rfl, Nat.le_of_ble_eq_true rfl⟩) (fun r_16 hr_16 => ?_)
          rcases hr_16 with rfl | rfl
          · skip
            refine lv_istore (lv' := [(4, .int 0), (3, .int 1), (0, .ref mo), (1, .int (nI tg9)), (2, .int 2)]) hx hb dX8_goes_72 hl (by decide) rfl (fun ls hl => ?_)
            refine lv_goto (tgt := 22) hx hb dX8_goes_74 (by decide) ?_
            exact ih ((577 - t0) * 1000000 + (577 - t_15) * 1000) H locs ls (by omega) ⟨2, 1, 0, upd (upd h_13 b_15 (nI x_15)) a_15 0, upd h29 1 (nI (100 * a_15 + b_15)), F_15 2, upd (upd h31 1 0) 1 1, 2, t0, t_15, t2, lv_sub hl [0, 1, 2, 3, 4] rfl, by omega, rfl, Or.inl rfl, m_15, mD.up (mD.down gD), ⟨by omega, by omega, by omega⟩, ⟨fun _ => (e4_15 0 (by decide)).trans gp0, fun _ => e3_15, fun q => absurd q (by decide)⟩, ⟨fun q => absurd q (by decide), fun _ => Or.inr rfl⟩, fun q => absurd q (by decide), ⟨fun q => absurd q (by decide), fun q => absurd q (by decide), fun _ => rfl, fun q => absurd q (by decide)⟩, mC_moved C_13 e12_15, hP.sub [0, 1, 2, 3, 4] rfl, hD.sub [0, 1, 2, 3, 4] (by decide) rfl, hS⟩
          · skip
            refine lv_istore (lv' := [(4, .int 1), (3, .int 1), (0, .ref mo), (1, .int (nI tg9)), (2, .int 2)]) hx hb dX8_goes_72 hl (by decide) rfl (fun ls hl => ?_)
            refine lv_goto (tgt := 22) hx hb dX8_goes_74 (by decide) ?_
            exact ih ((577 - t0) * 1000000 + (577 - t_15) * 1000) H locs ls (by omega) ⟨2, 1, 1, upd (upd h_13 b_15 (nI x_15)) a_15 0, upd h29 1 (nI (100 * a_15 + b_15)), F_15 2, upd (upd h31 1 0) 1 1, 2, t0, t_15, t2, lv_sub hl [0, 1, 2, 3, 4] rfl, by omega, rfl, Or.inr rfl, m_15, mD.up (mD.down gD), ⟨by omega, by omega, by omega⟩, ⟨fun _ => (e4_15 0 (by decide)).trans gp0, fun _ => e3_15, fun q => absurd q (by decide)⟩, ⟨fun q => absurd q (by decide), fun _ => Or.inr rfl⟩, fun _ => rfl, ⟨fun q => absurd q (by decide), fun q => absurd q (by decide), fun _ => rfl, fun q => absurd q (by decide)⟩, mC_moved C_13 e12_15, hP.sub [0, 1, 2, 3, 4] rfl, hD.sub [0, 1, 2, 3, 4] (by decide) rfl, hS⟩
  · skip
    rcases (show kk = 0 ∨ kk = 1 ∨ kk = 2 by omega) with rfl | rfl | rfl
    · skip
      obtain rfl := gG rfl
      have hall := mdo.all gm
      have hl : lv_has ls 6 [(4, .int 1), (3, .int (-1)), (0, .ref mo), (1, .int (nI tg9)), (2, .int 2)] := hl
      have hmu : mu = 0 := gz.1 rfl
      refine lv_iload_n hx hb dX8_goes_22 rfl (lv_at hl 1 rfl) ?_
      refine lv_if_lt (tgt := 90) hx hb dX8_goes_23 (by decide) (fun _ => ?_) (fun c => absurd (by decide) c)
      refine lv_iload_n hx hb dX8_goes_90 rfl (lv_at hl 4 rfl) ?_
      refine lv_iconst (v := 1) hx hb dX8_goes_91 (by decide) ?_
      refine lv_isub hx hb dX8_goes_92 ?_
      refine pt_topi 1 (by decide) ?_
      refine lv_istore (lv' := [(5, .int 1), (4, .int 1), (3, .int (-1)), (0, .ref mo), (1, .int (nI tg9)), (2, .int 2)]) hx hb dX8_goes_93 hl (by decide) rfl (fun ls hl => ?_)
      refine lv_iload hx hb dX8_goes_95 (lv_at hl 0 rfl) ?_
      refine lv_if_lt (tgt := 122) hx hb dX8_goes_97 (by decide) (fun c => absurd c (by decide)) (fun _ => ?_)
      refine lv_aload_n hx hb dX8_goes_100 rfl (lv_at hl 3 rfl) ?_
      refine va_get (D := (dC, dI)) (ci := 6) (v := .ref m31) (C := RX8) (T := TX8) (N := 32) hx hb hts iX8 hown hK hP 0 rfl rfl 31 (by decide) (hts (.fieldLink RX8 60 "ParkTowerModel" "isDone" "[Z") (by decide +kernel)) (fun _ h9 => h9) rfl dX8_goes_101 ?_
      refine lv_iload hx hb dX8_goes_104 (lv_at hl 0 rfl) ?_
      refine va_zald hx hb hK hP 4 3 rfl rfl (vp_in_iff.mpr (by decide)) dX8_goes_106 ?_
      refine lv_topi (fun a_17 ea_17 => ?_)
      have ea_17 : a_17 = h31 1 := ea_17
      obtain rfl : a_17 = 1 := ea_17.trans (gD.yes (by decide))
      refine lv_if_eq (tgt := 116) hx hb dX8_goes_107 (by decide) (fun c => absurd c (by decide)) (fun _ => ?_)
      refine lv_aload_n hx hb dX8_goes_110 rfl (lv_at hl 3 rfl) ?_
      refine lv_iload hx hb dX8_goes_111 (lv_at hl 0 rfl) ?_
      obtain ⟨h_18, a_18, b_18, x_18, m_18, i1_18, i2_18, i3_18, i4_18, i5_18, i6_18, i7_18, i8_18, i9_18, i10_18, i11_18⟩ := gm
      have hPc := hP.sub (ws' := [(mo, .inr (6, [.int th, .int tm, .int (nI sr), .int (nI nc), .ref m4, .ref m5, .ref m6, .ref m7, .ref m8, .ref m9, .ref m10, .ref m11, .ref m12, .int pw, .int rn, .int (nI no), .ref m16, .ref m17, .ref m18, .int (nI bz), .int (nI dg), .int (nI db), .int (nI df), .int (nI sp), .int tg, .int lf, .int mm, .ref m27, .int fo, .ref m29, .ref m30, .ref m31])), (m7, .inl (y7, 96, .inl h7)), (m29, .inl (y29, 8, .inl h29)), (m31, .inl (y31, 4, .inl h31))]) [0, 1, 2, 4] rfl
      have hDc := hD.sub (ws' := [(mo, .inr (6, [.int th, .int tm, .int (nI sr), .int (nI nc), .ref m4, .ref m5, .ref m6, .ref m7, .ref m8, .ref m9, .ref m10, .ref m11, .ref m12, .int pw, .int rn, .int (nI no), .ref m16, .ref m17, .ref m18, .int (nI bz), .int (nI dg), .int (nI db), .int (nI df), .int (nI sp), .int tg, .int lf, .int mm, .ref m27, .int fo, .ref m29, .ref m30, .ref m31])), (m7, .inl (y7, 96, .inl h7)), (m29, .inl (y29, 8, .inl h29)), (m31, .inl (y31, 4, .inl h31))]) [0, 1, 2, 4] (by decide) rfl
      have hKc := hK.sub (tys' := [(y7, .int), (y29, .int), (y31, .boolean)]) [0, 1, 3] rfl
      have hFc := va_free (wc := [(mo, .inr (6, [.int th, .int tm, .int (nI sr), .int (nI nc), .ref m4, .ref m5, .ref m6, .ref m7, .ref m8, .ref m9, .ref m10, .ref m11, .ref m12, .int pw, .int rn, .int (nI no), .ref m16, .ref m17, .ref m18, .int (nI bz), .int (nI dg), .int (nI db), .int (nI df), .int (nI sp), .int tg, .int lf, .int mm, .ref m27, .int fo, .ref m29, .ref m30, .ref m31])), (m7, .inl (y7, 96, .inl h7)), (m29, .inl (y29, 8, .inl h29)), (m31, .inl (y31, 4, .inl h31))]) hD hS hA [0, 1, 2, 4] rfl
      refine va_callv (va_runV (As := [.int 1]) (rest := []) ⟨hx, hb, hml, hown, hts⟩ (m_undo l dC dI _ mo m4 m5 m6 m7 m8 m9 m10 m11 m12 m16 m17 m18 m27 m29 m30 m31 th tm pw rn tg lf mm fo sr nc no bz dg db df sp y7 y29 y31 h7 h29 h31 1 a_18 b_18 (by omega) i2_18 i3_18 i1_18) (cwV 1 hts gX8_goes_X8_undo rfl rfl rfl (by decide +kernel) ⟨Nat.le_of_ble_eq_true rfl, Nat.le_of_ble_eq_true rfl⟩) ⟨pt_blindQ, va_recv hK hP (ci := 6) (q0 := 0) rfl rfl, pt_preQ hPc hKc hDc hN⟩ rfl rfl hl.1 rfl (lv_room (Nat.le_of_ble_eq_true rfl)) dX8_goes_113 ⟨Nat.le_of_ble_eq_true rfl, Nat.le_of_ble_eq_true rfl⟩) hS (fun q _ h => hFc q h) hFc (fun u_19 t H1 locs ht hvm hw_19 hB hz1 hk1 hS => ?_)
      obtain ⟨v_19, n_19, F_19⟩ := u_19
      obtain ⟨hP1, hK1, hD1⟩ := hB
      try dsimp only at hw_19
      rw [ht] at hP1
      have hK1 := va_K.moved hvm.symm hK1
      obtain ⟨hP, hD⟩ := va_join (wr := [(m30, .inl (y30, 4, .inl h30))]) (w1 := [(mo, .inr (6, [.int th, .int tm, .int (nI sr), .int (nI nc), .ref m4, .ref m5, .ref m6, .ref m7, .ref m8, .ref m9, .ref m10, .ref m11, .ref m12, .int pw, .int rn, .int (nI no), .ref m16, .ref m17, .ref m18, .int (nI bz), .int (nI dg), .int (nI db), .int (nI df), .int (nI sp), .int tg, .int lf, .int mm, .ref m27, .int fo, .ref m29, .ref m30, .ref m31])), (m7, .inl (y7, 96, .inl (upd (upd h7 a_18 (h7 b_18)) b_18 0))), (m29, .inl (y29, 8, .inl h29)), (m31, .inl (y31, 4, .inl (upd h31 1 0)))]) hP hD [0, 1, 2, 4] [3] rfl rfl (by decide) (by decide) hk1 hFc hP1 hD1
      have hK := hK.app hK1
      generalize H1 = H at hP hS ⊢
      have hP : va_P (dC, dI) vwCl [(m30, .inl (y30, 4, .inl h30)), (mo, .inr (6, [.int th, .int tm, .int (nI sr), .int (nI nc), .ref m4, .ref m5, .ref m6, .ref m7, .ref m8, .ref m9, .ref m10, .ref m11, .ref m12, .int pw, .int rn, .int (nI no), .ref m16, .ref m17, .ref m18, .int (nI bz), .int (nI dg), .int (nI db), .int (nI df), .int (nI sp), .int tg, .int lf, .int mm, .ref m27, .int fo, .ref m29, .ref m30, .ref m31])), (m7, .inl (y7, 96, .inl (upd (upd h7 a_18 (h7 b_18)) b_18 0))), (m29, .inl (y29, 8, .inl h29)), (m31, .inl (y31, 4, .inl (upd h31 1 0)))] H := hP
      have hD : va_D A [(m30, .inl (y30, 4, .inl h30)), (mo, .inr (6, [.int th, .int tm, .int (nI sr), .int (nI nc), .ref m4, .ref m5, .ref m6, .ref m7, .ref m8, .ref m9, .ref m10, .ref m11, .ref m12, .int pw, .int rn, .int (nI no), .ref m16, .ref m17, .ref m18, .int (nI bz), .int (nI dg), .int (nI db), .int (nI df), .int (nI sp), .int tg, .int lf, .int mm, .ref m27, .int fo, .ref m29, .ref m30, .ref m31])), (m7, .inl (y7, 96, .inl (upd (upd h7 a_18 (h7 b_18)) b_18 0))), (m29, .inl (y29, 8, .inl h29)), (m31, .inl (y31, 4, .inl (upd h31 1 0)))] := hD
      have hK : va_K (dC, dI) vwCl [(y7, .int), (y29, .int), (y30, .int), (y31, .boolean)] s := hK
      rw [mundo' i6_18 i7_18 i10_18 i11_18] at hP hD
      have hP : va_P (dC, dI) vwCl [(m30, .inl (y30, 4, .inl h30)), (mo, .inr (6, [.int th, .int tm, .int (nI sr), .int (nI nc), .ref m4, .ref m5, .ref m6, .ref m7, .ref m8, .ref m9, .ref m10, .ref m11, .ref m12, .int pw, .int rn, .int (nI no), .ref m16, .ref m17, .ref m18, .int (nI bz), .int (nI dg), .int (nI db), .int (nI df), .int (nI sp), .int tg, .int lf, .int mm, .ref m27, .int fo, .ref m29, .ref m30, .ref m31])), (m7, .inl (y7, 96, .inl h_18)), (m29, .inl (y29, 8, .inl h29)), (m31, .inl (y31, 4, .inl (upd h31 1 0)))] H := hP
      have hD : va_D A [(m30, .inl (y30, 4, .inl h30)), (mo, .inr (6, [.int th, .int tm, .int (nI sr), .int (nI nc), .ref m4, .ref m5, .ref m6, .ref m7, .ref m8, .ref m9, .ref m10, .ref m11, .ref m12, .int pw, .int rn, .int (nI no), .ref m16, .ref m17, .ref m18, .int (nI bz), .int (nI dg), .int (nI db), .int (nI df), .int (nI sp), .int tg, .int lf, .int mm, .ref m27, .int fo, .ref m29, .ref m30, .ref m31])), (m7, .inl (y7, 96, .inl h_18)), (m29, .inl (y29, 8, .inl h29)), (m31, .inl (y31, 4, .inl (upd h31 1 0)))] := hD
      have C_18 : ∀ i, mC (h_18 i) := fun i => by rw [← mundo' i6_18 i7_18 i10_18 i11_18]; exact s_upd (fun i => s_upd gC (gC _) i) (Or.inr ⟨0, by omega, rfl⟩) i
      refine lv_iinc (v := 0) (lv' := [(5, .int 0), (4, .int 1), (3, .int (-1)), (0, .ref mo), (1, .int (nI tg9)), (2, .int 2)]) hx hb dX8_goes_116 hl (k := 0) rfl (by decide) (by decide) rfl (fun ls hl => ?_)
      refine lv_goto (tgt := 95) hx hb dX8_goes_119 (by decide) ?_
      refine lv_iload hx hb dX8_goes_95 (lv_at hl 0 rfl) ?_
      refine lv_if_lt (tgt := 122) hx hb dX8_goes_97 (by decide) (fun c => absurd c (by decide)) (fun _ => ?_)
      refine lv_aload_n hx hb dX8_goes_100 rfl (lv_at hl 3 rfl) ?_
      refine va_get (D := (dC, dI)) (ci := 6) (v := .ref m31) (C := RX8) (T := TX8) (N := 32) hx hb hts iX8 hown hK hP 1 rfl rfl 31 (by decide) (hts (.fieldLink RX8 60 "ParkTowerModel" "isDone" "[Z") (by decide +kernel)) (fun _ h9 => h9) rfl dX8_goes_101 ?_
      refine lv_iload hx hb dX8_goes_104 (lv_at hl 0 rfl) ?_
      refine va_zald hx hb hK hP 4 3 rfl rfl (vp_in_iff.mpr (by decide)) dX8_goes_106 ?_
      refine lv_topi (fun a_20 ea_20 => ?_)
      have ea_20 : a_20 = (upd h31 1 0) 0 := ea_20
      obtain rfl : a_20 = 1 := ea_20.trans ((mD.down gD).yes (by decide))
      refine lv_if_eq (tgt := 116) hx hb dX8_goes_107 (by decide) (fun c => absurd c (by decide)) (fun _ => ?_)
      refine lv_aload_n hx hb dX8_goes_110 rfl (lv_at hl 3 rfl) ?_
      refine lv_iload hx hb dX8_goes_111 (lv_at hl 0 rfl) ?_
      obtain ⟨h_21, a_21, b_21, x_21, m_21, i1_21, i2_21, i3_21, i4_21, i5_21, i6_21, i7_21, i8_21, i9_21, i10_21, i11_21⟩ := m_18
      have hPc := hP.sub (ws' := [(mo, .inr (6, [.int th, .int tm, .int (nI sr), .int (nI nc), .ref m4, .ref m5, .ref m6, .ref m7, .ref m8, .ref m9, .ref m10, .ref m11, .ref m12, .int pw, .int rn, .int (nI no), .ref m16, .ref m17, .ref m18, .int (nI bz), .int (nI dg), .int (nI db), .int (nI df), .int (nI sp), .int tg, .int lf, .int mm, .ref m27, .int fo, .ref m29, .ref m30, .ref m31])), (m7, .inl (y7, 96, .inl h_18)), (m29, .inl (y29, 8, .inl h29)), (m31, .inl (y31, 4, .inl (upd h31 1 0)))]) [1, 2, 3, 4] rfl
      have hDc := hD.sub (ws' := [(mo, .inr (6, [.int th, .int tm, .int (nI sr), .int (nI nc), .ref m4, .ref m5, .ref m6, .ref m7, .ref m8, .ref m9, .ref m10, .ref m11, .ref m12, .int pw, .int rn, .int (nI no), .ref m16, .ref m17, .ref m18, .int (nI bz), .int (nI dg), .int (nI db), .int (nI df), .int (nI sp), .int tg, .int lf, .int mm, .ref m27, .int fo, .ref m29, .ref m30, .ref m31])), (m7, .inl (y7, 96, .inl h_18)), (m29, .inl (y29, 8, .inl h29)), (m31, .inl (y31, 4, .inl (upd h31 1 0)))]) [1, 2, 3, 4] (by decide) rfl
      have hKc := hK.sub (tys' := [(y7, .int), (y29, .int), (y31, .boolean)]) [0, 1, 3] rfl
      have hFc := va_free (wc := [(mo, .inr (6, [.int th, .int tm, .int (nI sr), .int (nI nc), .ref m4, .ref m5, .ref m6, .ref m7, .ref m8, .ref m9, .ref m10, .ref m11, .ref m12, .int pw, .int rn, .int (nI no), .ref m16, .ref m17, .ref m18, .int (nI bz), .int (nI dg), .int (nI db), .int (nI df), .int (nI sp), .int tg, .int lf, .int mm, .ref m27, .int fo, .ref m29, .ref m30, .ref m31])), (m7, .inl (y7, 96, .inl h_18)), (m29, .inl (y29, 8, .inl h29)), (m31, .inl (y31, 4, .inl (upd h31 1 0)))]) hD hS hA [1, 2, 3, 4] rfl
      refine va_callv (va_runV (As := [.int 0]) (rest := []) ⟨hx, hb, hml, hown, hts⟩ (m_undo l dC dI _ mo m4 m5 m6 m7 m8 m9 m10 m11 m12 m16 m17 m18 m27 m29 m30 m31 th tm pw rn tg lf mm fo sr nc no bz dg db df sp y7 y29 y31 h_18 h29 (upd h31 1 0) 0 a_21 b_21 (by omega) i2_21 i3_21 i1_21) (cwV 1 hts gX8_goes_X8_undo rfl rfl rfl (by decide +kernel) ⟨Nat.le_of_ble_eq_true rfl, Nat.le_of_ble_eq_true rfl⟩) ⟨pt_blindQ, va_recv hK hP (ci := 6) (q0 := 1) rfl rfl, pt_preQ hPc hKc hDc hN⟩ rfl rfl hl.1 rfl (lv_room (Nat.le_of_ble_eq_true rfl)) dX8_goes_113 ⟨Nat.le_of_ble_eq_true rfl, Nat.le_of_ble_eq_true rfl⟩) hS (fun q _ h => hFc q h) hFc (fun u_22 t H1 locs ht hvm hw_22 hB hz1 hk1 hS => ?_)
      obtain ⟨v_22, n_22, F_22⟩ := u_22
      obtain ⟨hP1, hK1, hD1⟩ := hB
      try dsimp only at hw_22
      rw [ht] at hP1
      have hK1 := va_K.moved hvm.symm hK1
      obtain ⟨hP, hD⟩ := va_join (wr := [(m30, .inl (y30, 4, .inl h30))]) (w1 := [(mo, .inr (6, [.int th, .int tm, .int (nI sr), .int (nI nc), .ref m4, .ref m5, .ref m6, .ref m7, .ref m8, .ref m9, .ref m10, .ref m11, .ref m12, .int pw, .int rn, .int (nI no), .ref m16, .ref m17, .ref m18, .int (nI bz), .int (nI dg), .int (nI db), .int (nI df), .int (nI sp), .int tg, .int lf, .int mm, .ref m27, .int fo, .ref m29, .ref m30, .ref m31])), (m7, .inl (y7, 96, .inl (upd (upd h_18 a_21 (h_18 b_21)) b_21 0))), (m29, .inl (y29, 8, .inl h29)), (m31, .inl (y31, 4, .inl (upd (upd h31 1 0) 0 0)))]) hP hD [1, 2, 3, 4] [0] rfl rfl (by decide) (by decide) hk1 hFc hP1 hD1
      have hK := hK.app hK1
      generalize H1 = H at hP hS ⊢
      have hP : va_P (dC, dI) vwCl [(m30, .inl (y30, 4, .inl h30)), (mo, .inr (6, [.int th, .int tm, .int (nI sr), .int (nI nc), .ref m4, .ref m5, .ref m6, .ref m7, .ref m8, .ref m9, .ref m10, .ref m11, .ref m12, .int pw, .int rn, .int (nI no), .ref m16, .ref m17, .ref m18, .int (nI bz), .int (nI dg), .int (nI db), .int (nI df), .int (nI sp), .int tg, .int lf, .int mm, .ref m27, .int fo, .ref m29, .ref m30, .ref m31])), (m7, .inl (y7, 96, .inl (upd (upd h_18 a_21 (h_18 b_21)) b_21 0))), (m29, .inl (y29, 8, .inl h29)), (m31, .inl (y31, 4, .inl (upd (upd h31 1 0) 0 0)))] H := hP
      have hD : va_D A [(m30, .inl (y30, 4, .inl h30)), (mo, .inr (6, [.int th, .int tm, .int (nI sr), .int (nI nc), .ref m4, .ref m5, .ref m6, .ref m7, .ref m8, .ref m9, .ref m10, .ref m11, .ref m12, .int pw, .int rn, .int (nI no), .ref m16, .ref m17, .ref m18, .int (nI bz), .int (nI dg), .int (nI db), .int (nI df), .int (nI sp), .int tg, .int lf, .int mm, .ref m27, .int fo, .ref m29, .ref m30, .ref m31])), (m7, .inl (y7, 96, .inl (upd (upd h_18 a_21 (h_18 b_21)) b_21 0))), (m29, .inl (y29, 8, .inl h29)), (m31, .inl (y31, 4, .inl (upd (upd h31 1 0) 0 0)))] := hD
      have hK : va_K (dC, dI) vwCl [(y7, .int), (y29, .int), (y30, .int), (y31, .boolean)] s := hK
      rw [mundo' i6_21 i7_21 i10_21 i11_21] at hP hD
      have hP : va_P (dC, dI) vwCl [(m30, .inl (y30, 4, .inl h30)), (mo, .inr (6, [.int th, .int tm, .int (nI sr), .int (nI nc), .ref m4, .ref m5, .ref m6, .ref m7, .ref m8, .ref m9, .ref m10, .ref m11, .ref m12, .int pw, .int rn, .int (nI no), .ref m16, .ref m17, .ref m18, .int (nI bz), .int (nI dg), .int (nI db), .int (nI df), .int (nI sp), .int tg, .int lf, .int mm, .ref m27, .int fo, .ref m29, .ref m30, .ref m31])), (m7, .inl (y7, 96, .inl h_21)), (m29, .inl (y29, 8, .inl h29)), (m31, .inl (y31, 4, .inl (upd (upd h31 1 0) 0 0)))] H := hP
      have hD : va_D A [(m30, .inl (y30, 4, .inl h30)), (mo, .inr (6, [.int th, .int tm, .int (nI sr), .int (nI nc), .ref m4, .ref m5, .ref m6, .ref m7, .ref m8, .ref m9, .ref m10, .ref m11, .ref m12, .int pw, .int rn, .int (nI no), .ref m16, .ref m17, .ref m18, .int (nI bz), .int (nI dg), .int (nI db), .int (nI df), .int (nI sp), .int tg, .int lf, .int mm, .ref m27, .int fo, .ref m29, .ref m30, .ref m31])), (m7, .inl (y7, 96, .inl h_21)), (m29, .inl (y29, 8, .inl h29)), (m31, .inl (y31, 4, .inl (upd (upd h31 1 0) 0 0)))] := hD
      have C_21 : ∀ i, mC (h_21 i) := fun i => by rw [← mundo' i6_21 i7_21 i10_21 i11_21]; exact s_upd (fun i => s_upd C_18 (C_18 _) i) (Or.inr ⟨0, by omega, rfl⟩) i
      refine lv_iinc (v := (-1)) (lv' := [(5, .int (-1)), (4, .int 1), (3, .int (-1)), (0, .ref mo), (1, .int (nI tg9)), (2, .int 2)]) hx hb dX8_goes_116 hl (k := 0) rfl (by decide) (by decide) rfl (fun ls hl => ?_)
      refine lv_goto (tgt := 95) hx hb dX8_goes_119 (by decide) ?_
      refine lv_iload hx hb dX8_goes_95 (lv_at hl 0 rfl) ?_
      refine lv_if_lt (tgt := 122) hx hb dX8_goes_97 (by decide) (fun _ => ?_) (fun c => absurd (by decide) c)
      have e9 : h_21 = f7 := m_21
      rw [e9] at hP hD
      have hP : va_P (dC, dI) vwCl [(m30, .inl (y30, 4, .inl h30)), (mo, .inr (6, [.int th, .int tm, .int (nI sr), .int (nI nc), .ref m4, .ref m5, .ref m6, .ref m7, .ref m8, .ref m9, .ref m10, .ref m11, .ref m12, .int pw, .int rn, .int (nI no), .ref m16, .ref m17, .ref m18, .int (nI bz), .int (nI dg), .int (nI db), .int (nI df), .int (nI sp), .int tg, .int lf, .int mm, .ref m27, .int fo, .ref m29, .ref m30, .ref m31])), (m7, .inl (y7, 96, .inl f7)), (m29, .inl (y29, 8, .inl h29)), (m31, .inl (y31, 4, .inl (upd (upd h31 1 0) 0 0)))] H := hP
      have hD : va_D A [(m30, .inl (y30, 4, .inl h30)), (mo, .inr (6, [.int th, .int tm, .int (nI sr), .int (nI nc), .ref m4, .ref m5, .ref m6, .ref m7, .ref m8, .ref m9, .ref m10, .ref m11, .ref m12, .int pw, .int rn, .int (nI no), .ref m16, .ref m17, .ref m18, .int (nI bz), .int (nI dg), .int (nI db), .int (nI df), .int (nI sp), .int tg, .int lf, .int mm, .ref m27, .int fo, .ref m29, .ref m30, .ref m31])), (m7, .inl (y7, 96, .inl f7)), (m29, .inl (y29, 8, .inl h29)), (m31, .inl (y31, 4, .inl (upd (upd h31 1 0) 0 0)))] := hD
      refine lv_iload hx hb dX8_goes_122 (lv_at hl 1 rfl) ?_
      have hP9 := hP.sub (ws' := [(mo, .inr (6, [.int th, .int tm, .int (nI sr), .int (nI nc), .ref m4, .ref m5, .ref m6, .ref m7, .ref m8, .ref m9, .ref m10, .ref m11, .ref m12, .int pw, .int rn, .int (nI no), .ref m16, .ref m17, .ref m18, .int (nI bz), .int (nI dg), .int (nI db), .int (nI df), .int (nI sp), .int tg, .int lf, .int mm, .ref m27, .int fo, .ref m29, .ref m30, .ref m31])), (m7, .inl (y7, 96, .inl f7)), (m29, .inl (y29, 8, .inl h29)), (m30, .inl (y30, 4, .inl h30)), (m31, .inl (y31, 4, .inl (upd (upd h31 1 0) 0 0)))]) [1, 2, 3, 0, 4] rfl
      have hD9 := hD.sub (ws' := [(mo, .inr (6, [.int th, .int tm, .int (nI sr), .int (nI nc), .ref m4, .ref m5, .ref m6, .ref m7, .ref m8, .ref m9, .ref m10, .ref m11, .ref m12, .int pw, .int rn, .int (nI no), .ref m16, .ref m17, .ref m18, .int (nI bz), .int (nI dg), .int (nI db), .int (nI df), .int (nI sp), .int tg, .int lf, .int mm, .ref m27, .int fo, .ref m29, .ref m30, .ref m31])), (m7, .inl (y7, 96, .inl f7)), (m29, .inl (y29, 8, .inl h29)), (m30, .inl (y30, 4, .inl h30)), (m31, .inl (y31, 4, .inl (upd (upd h31 1 0) 0 0)))]) [1, 2, 3, 0, 4] (by decide) rfl
      have hK9 := hK.sub (tys' := []) [] rfl
      refine W.widen (k := 0) (n := 0) (by omega) (by omega) ?_
      exact W.zret (v := 1) (ty := .boolean) hx hb hr rfl (fun t ht hW => ⟨⟨1, (fun q_ => ([] : List Int32).getD q_ 0, fun q_ => ([] : List Nat).getD q_ 0, fun q_ => ([h29, h30, upd (upd h31 1 0) 0 0] : List (Nat → Int32)).getD q_ (fun _ => 0)), rfl, ⟨Or.inr ⟨rfl, hall⟩, mD.o (mD.down (mD.down gD))⟩, by rw [ht]; exact hP9, va_K.moved hW.alike hK9, hD9⟩, hS.F ht⟩) hS.2.2 dX8_goes_124
    · skip
      obtain rfl := gG rfl
      have hall := mdo.all gm
      have hl : lv_has ls 6 [(4, .int 1), (3, .int 0), (0, .ref mo), (1, .int (nI tg9)), (2, .int 2)] := hl
      have hmu : mu = (577 - t0) * 1000000 := gz.2.1 rfl
      have gp0 : h30 0 = pI t0 := gp.1 (by decide)
      refine lv_iload_n hx hb dX8_goes_22 rfl (lv_at hl 1 rfl) ?_
      refine lv_if_lt (tgt := 90) hx hb dX8_goes_23 (by decide) (fun c => absurd c (by decide)) (fun _ => ?_)
      refine lv_iload hx hb dX8_goes_26 (lv_at hl 0 rfl) ?_
      refine lv_if_ne (tgt := 90) hx hb dX8_goes_28 (by decide) (fun _ => ?_) (fun c => absurd c (by decide))
      refine lv_iload_n hx hb dX8_goes_90 rfl (lv_at hl 4 rfl) ?_
      refine lv_iconst (v := 1) hx hb dX8_goes_91 (by decide) ?_
      refine lv_isub hx hb dX8_goes_92 ?_
      refine pt_topi 1 (by decide) ?_
      refine lv_istore (lv' := [(5, .int 1), (4, .int 1), (3, .int 0), (0, .ref mo), (1, .int (nI tg9)), (2, .int 2)]) hx hb dX8_goes_93 hl (by decide) rfl (fun ls hl => ?_)
      refine lv_iload hx hb dX8_goes_95 (lv_at hl 0 rfl) ?_
      refine lv_if_lt (tgt := 122) hx hb dX8_goes_97 (by decide) (fun c => absurd c (by decide)) (fun _ => ?_)
      refine lv_aload_n hx hb dX8_goes_100 rfl (lv_at hl 3 rfl) ?_
      refine va_get (D := (dC, dI)) (ci := 6) (v := .ref m31) (C := RX8) (T := TX8) (N := 32) hx hb hts iX8 hown hK hP 0 rfl rfl 31 (by decide) (hts (.fieldLink RX8 60 "ParkTowerModel" "isDone" "[Z") (by decide +kernel)) (fun _ h9 => h9) rfl dX8_goes_101 ?_
      refine lv_iload hx hb dX8_goes_104 (lv_at hl 0 rfl) ?_
      refine va_zald hx hb hK hP 4 3 rfl rfl (vp_in_iff.mpr (by decide)) dX8_goes_106 ?_
      refine lv_topi (fun a_23 ea_23 => ?_)
      have ea_23 : a_23 = h31 1 := ea_23
      obtain rfl : a_23 = 1 := ea_23.trans (gD.yes (by decide))
      refine lv_if_eq (tgt := 116) hx hb dX8_goes_107 (by decide) (fun c => absurd c (by decide)) (fun _ => ?_)
      refine lv_aload_n hx hb dX8_goes_110 rfl (lv_at hl 3 rfl) ?_
      refine lv_iload hx hb dX8_goes_111 (lv_at hl 0 rfl) ?_
      obtain ⟨h_24, a_24, b_24, x_24, m_24, i1_24, i2_24, i3_24, i4_24, i5_24, i6_24, i7_24, i8_24, i9_24, i10_24, i11_24⟩ := gm
      have hPc := hP.sub (ws' := [(mo, .inr (6, [.int th, .int tm, .int (nI sr), .int (nI nc), .ref m4, .ref m5, .ref m6, .ref m7, .ref m8, .ref m9, .ref m10, .ref m11, .ref m12, .int pw, .int rn, .int (nI no), .ref m16, .ref m17, .ref m18, .int (nI bz), .int (nI dg), .int (nI db), .int (nI df), .int (nI sp), .int tg, .int lf, .int mm, .ref m27, .int fo, .ref m29, .ref m30, .ref m31])), (m7, .inl (y7, 96, .inl h7)), (m29, .inl (y29, 8, .inl h29)), (m31, .inl (y31, 4, .inl h31))]) [0, 1, 2, 4] rfl
      have hDc := hD.sub (ws' := [(mo, .inr (6, [.int th, .int tm, .int (nI sr), .int (nI nc), .ref m4, .ref m5, .ref m6, .ref m7, .ref m8, .ref m9, .ref m10, .ref m11, .ref m12, .int pw, .int rn, .int (nI no), .ref m16, .ref m17, .ref m18, .int (nI bz), .int (nI dg), .int (nI db), .int (nI df), .int (nI sp), .int tg, .int lf, .int mm, .ref m27, .int fo, .ref m29, .ref m30, .ref m31])), (m7, .inl (y7, 96, .inl h7)), (m29, .inl (y29, 8, .inl h29)), (m31, .inl (y31, 4, .inl h31))]) [0, 1, 2, 4] (by decide) rfl
      have hKc := hK.sub (tys' := [(y7, .int), (y29, .int), (y31, .boolean)]) [0, 1, 3] rfl
      have hFc := va_free (wc := [(mo, .inr (6, [.int th, .int tm, .int (nI sr), .int (nI nc), .ref m4, .ref m5, .ref m6, .ref m7, .ref m8, .ref m9, .ref m10, .ref m11, .ref m12, .int pw, .int rn, .int (nI no), .ref m16, .ref m17, .ref m18, .int (nI bz), .int (nI dg), .int (nI db), .int (nI df), .int (nI sp), .int tg, .int lf, .int mm, .ref m27, .int fo, .ref m29, .ref m30, .ref m31])), (m7, .inl (y7, 96, .inl h7)), (m29, .inl (y29, 8, .inl h29)), (m31, .inl (y31, 4, .inl h31))]) hD hS hA [0, 1, 2, 4] rfl
      refine va_callv (va_runV (As := [.int 1]) (rest := []) ⟨hx, hb, hml, hown, hts⟩ (m_undo l dC dI _ mo m4 m5 m6 m7 m8 m9 m10 m11 m12 m16 m17 m18 m27 m29 m30 m31 th tm pw rn tg lf mm fo sr nc no bz dg db df sp y7 y29 y31 h7 h29 h31 1 a_24 b_24 (by omega) i2_24 i3_24 i1_24) (cwV 1 hts gX8_goes_X8_undo rfl rfl rfl (by decide +kernel) ⟨Nat.le_of_ble_eq_true rfl, Nat.le_of_ble_eq_true rfl⟩) ⟨pt_blindQ, va_recv hK hP (ci := 6) (q0 := 0) rfl rfl, pt_preQ hPc hKc hDc hN⟩ rfl rfl hl.1 rfl (lv_room (Nat.le_of_ble_eq_true rfl)) dX8_goes_113 ⟨Nat.le_of_ble_eq_true rfl, Nat.le_of_ble_eq_true rfl⟩) hS (fun q _ h => hFc q h) hFc (fun u_25 t H1 locs ht hvm hw_25 hB hz1 hk1 hS => ?_)
      obtain ⟨v_25, n_25, F_25⟩ := u_25
      obtain ⟨hP1, hK1, hD1⟩ := hB
      try dsimp only at hw_25
      rw [ht] at hP1
      have hK1 := va_K.moved hvm.symm hK1
      obtain ⟨hP, hD⟩ := va_join (wr := [(m30, .inl (y30, 4, .inl h30))]) (w1 := [(mo, .inr (6, [.int th, .int tm, .int (nI sr), .int (nI nc), .ref m4, .ref m5, .ref m6, .ref m7, .ref m8, .ref m9, .ref m10, .ref m11, .ref m12, .int pw, .int rn, .int (nI no), .ref m16, .ref m17, .ref m18, .int (nI bz), .int (nI dg), .int (nI db), .int (nI df), .int (nI sp), .int tg, .int lf, .int mm, .ref m27, .int fo, .ref m29, .ref m30, .ref m31])), (m7, .inl (y7, 96, .inl (upd (upd h7 a_24 (h7 b_24)) b_24 0))), (m29, .inl (y29, 8, .inl h29)), (m31, .inl (y31, 4, .inl (upd h31 1 0)))]) hP hD [0, 1, 2, 4] [3] rfl rfl (by decide) (by decide) hk1 hFc hP1 hD1
      have hK := hK.app hK1
      generalize H1 = H at hP hS ⊢
      have hP : va_P (dC, dI) vwCl [(m30, .inl (y30, 4, .inl h30)), (mo, .inr (6, [.int th, .int tm, .int (nI sr), .int (nI nc), .ref m4, .ref m5, .ref m6, .ref m7, .ref m8, .ref m9, .ref m10, .ref m11, .ref m12, .int pw, .int rn, .int (nI no), .ref m16, .ref m17, .ref m18, .int (nI bz), .int (nI dg), .int (nI db), .int (nI df), .int (nI sp), .int tg, .int lf, .int mm, .ref m27, .int fo, .ref m29, .ref m30, .ref m31])), (m7, .inl (y7, 96, .inl (upd (upd h7 a_24 (h7 b_24)) b_24 0))), (m29, .inl (y29, 8, .inl h29)), (m31, .inl (y31, 4, .inl (upd h31 1 0)))] H := hP
      have hD : va_D A [(m30, .inl (y30, 4, .inl h30)), (mo, .inr (6, [.int th, .int tm, .int (nI sr), .int (nI nc), .ref m4, .ref m5, .ref m6, .ref m7, .ref m8, .ref m9, .ref m10, .ref m11, .ref m12, .int pw, .int rn, .int (nI no), .ref m16, .ref m17, .ref m18, .int (nI bz), .int (nI dg), .int (nI db), .int (nI df), .int (nI sp), .int tg, .int lf, .int mm, .ref m27, .int fo, .ref m29, .ref m30, .ref m31])), (m7, .inl (y7, 96, .inl (upd (upd h7 a_24 (h7 b_24)) b_24 0))), (m29, .inl (y29, 8, .inl h29)), (m31, .inl (y31, 4, .inl (upd h31 1 0)))] := hD
      have hK : va_K (dC, dI) vwCl [(y7, .int), (y29, .int), (y30, .int), (y31, .boolean)] s := hK
      rw [mundo' i6_24 i7_24 i10_24 i11_24] at hP hD
      have hP : va_P (dC, dI) vwCl [(m30, .inl (y30, 4, .inl h30)), (mo, .inr (6, [.int th, .int tm, .int (nI sr), .int (nI nc), .ref m4, .ref m5, .ref m6, .ref m7, .ref m8, .ref m9, .ref m10, .ref m11, .ref m12, .int pw, .int rn, .int (nI no), .ref m16, .ref m17, .ref m18, .int (nI bz), .int (nI dg), .int (nI db), .int (nI df), .int (nI sp), .int tg, .int lf, .int mm, .ref m27, .int fo, .ref m29, .ref m30, .ref m31])), (m7, .inl (y7, 96, .inl h_24)), (m29, .inl (y29, 8, .inl h29)), (m31, .inl (y31, 4, .inl (upd h31 1 0)))] H := hP
      have hD : va_D A [(m30, .inl (y30, 4, .inl h30)), (mo, .inr (6, [.int th, .int tm, .int (nI sr), .int (nI nc), .ref m4, .ref m5, .ref m6, .ref m7, .ref m8, .ref m9, .ref m10, .ref m11, .ref m12, .int pw, .int rn, .int (nI no), .ref m16, .ref m17, .ref m18, .int (nI bz), .int (nI dg), .int (nI db), .int (nI df), .int (nI sp), .int tg, .int lf, .int mm, .ref m27, .int fo, .ref m29, .ref m30, .ref m31])), (m7, .inl (y7, 96, .inl h_24)), (m29, .inl (y29, 8, .inl h29)), (m31, .inl (y31, 4, .inl (upd h31 1 0)))] := hD
      have C_24 : ∀ i, mC (h_24 i) := fun i => by rw [← mundo' i6_24 i7_24 i10_24 i11_24]; exact s_upd (fun i => s_upd gC (gC _) i) (Or.inr ⟨0, by omega, rfl⟩) i
      refine lv_iinc (v := 0) (lv' := [(5, .int 0), (4, .int 1), (3, .int 0), (0, .ref mo), (1, .int (nI tg9)), (2, .int 2)]) hx hb dX8_goes_116 hl (k := 0) rfl (by decide) (by decide) rfl (fun ls hl => ?_)
      refine lv_goto (tgt := 95) hx hb dX8_goes_119 (by decide) ?_
      refine lv_iload hx hb dX8_goes_95 (lv_at hl 0 rfl) ?_
      refine lv_if_lt (tgt := 122) hx hb dX8_goes_97 (by decide) (fun c => absurd c (by decide)) (fun _ => ?_)
      refine lv_aload_n hx hb dX8_goes_100 rfl (lv_at hl 3 rfl) ?_
      refine va_get (D := (dC, dI)) (ci := 6) (v := .ref m31) (C := RX8) (T := TX8) (N := 32) hx hb hts iX8 hown hK hP 1 rfl rfl 31 (by decide) (hts (.fieldLink RX8 60 "ParkTowerModel" "isDone" "[Z") (by decide +kernel)) (fun _ h9 => h9) rfl dX8_goes_101 ?_
      refine lv_iload hx hb dX8_goes_104 (lv_at hl 0 rfl) ?_
      refine va_zald hx hb hK hP 4 3 rfl rfl (vp_in_iff.mpr (by decide)) dX8_goes_106 ?_
      refine lv_topi (fun a_26 ea_26 => ?_)
      have ea_26 : a_26 = (upd h31 1 0) 0 := ea_26
      obtain rfl : a_26 = 1 := ea_26.trans ((mD.down gD).yes (by decide))
      refine lv_if_eq (tgt := 116) hx hb dX8_goes_107 (by decide) (fun c => absurd c (by decide)) (fun _ => ?_)
      refine lv_aload_n hx hb dX8_goes_110 rfl (lv_at hl 3 rfl) ?_
      refine lv_iload hx hb dX8_goes_111 (lv_at hl 0 rfl) ?_
      obtain ⟨h_27, a_27, b_27, x_27, m_27, i1_27, i2_27, i3_27, i4_27, i5_27, i6_27, i7_27, i8_27, i9_27, i10_27, i11_27⟩ := m_24
      have hPc := hP.sub (ws' := [(mo, .inr (6, [.int th, .int tm, .int (nI sr), .int (nI nc), .ref m4, .ref m5, .ref m6, .ref m7, .ref m8, .ref m9, .ref m10, .ref m11, .ref m12, .int pw, .int rn, .int (nI no), .ref m16, .ref m17, .ref m18, .int (nI bz), .int (nI dg), .int (nI db), .int (nI df), .int (nI sp), .int tg, .int lf, .int mm, .ref m27, .int fo, .ref m29, .ref m30, .ref m31])), (m7, .inl (y7, 96, .inl h_24)), (m29, .inl (y29, 8, .inl h29)), (m31, .inl (y31, 4, .inl (upd h31 1 0)))]) [1, 2, 3, 4] rfl
      have hDc := hD.sub (ws' := [(mo, .inr (6, [.int th, .int tm, .int (nI sr), .int (nI nc), .ref m4, .ref m5, .ref m6, .ref m7, .ref m8, .ref m9, .ref m10, .ref m11, .ref m12, .int pw, .int rn, .int (nI no), .ref m16, .ref m17, .ref m18, .int (nI bz), .int (nI dg), .int (nI db), .int (nI df), .int (nI sp), .int tg, .int lf, .int mm, .ref m27, .int fo, .ref m29, .ref m30, .ref m31])), (m7, .inl (y7, 96, .inl h_24)), (m29, .inl (y29, 8, .inl h29)), (m31, .inl (y31, 4, .inl (upd h31 1 0)))]) [1, 2, 3, 4] (by decide) rfl
      have hKc := hK.sub (tys' := [(y7, .int), (y29, .int), (y31, .boolean)]) [0, 1, 3] rfl
      have hFc := va_free (wc := [(mo, .inr (6, [.int th, .int tm, .int (nI sr), .int (nI nc), .ref m4, .ref m5, .ref m6, .ref m7, .ref m8, .ref m9, .ref m10, .ref m11, .ref m12, .int pw, .int rn, .int (nI no), .ref m16, .ref m17, .ref m18, .int (nI bz), .int (nI dg), .int (nI db), .int (nI df), .int (nI sp), .int tg, .int lf, .int mm, .ref m27, .int fo, .ref m29, .ref m30, .ref m31])), (m7, .inl (y7, 96, .inl h_24)), (m29, .inl (y29, 8, .inl h29)), (m31, .inl (y31, 4, .inl (upd h31 1 0)))]) hD hS hA [1, 2, 3, 4] rfl
      refine va_callv (va_runV (As := [.int 0]) (rest := []) ⟨hx, hb, hml, hown, hts⟩ (m_undo l dC dI _ mo m4 m5 m6 m7 m8 m9 m10 m11 m12 m16 m17 m18 m27 m29 m30 m31 th tm pw rn tg lf mm fo sr nc no bz dg db df sp y7 y29 y31 h_24 h29 (upd h31 1 0) 0 a_27 b_27 (by omega) i2_27 i3_27 i1_27) (cwV 1 hts gX8_goes_X8_undo rfl rfl rfl (by decide +kernel) ⟨Nat.le_of_ble_eq_true rfl, Nat.le_of_ble_eq_true rfl⟩) ⟨pt_blindQ, va_recv hK hP (ci := 6) (q0 := 1) rfl rfl, pt_preQ hPc hKc hDc hN⟩ rfl rfl hl.1 rfl (lv_room (Nat.le_of_ble_eq_true rfl)) dX8_goes_113 ⟨Nat.le_of_ble_eq_true rfl, Nat.le_of_ble_eq_true rfl⟩) hS (fun q _ h => hFc q h) hFc (fun u_28 t H1 locs ht hvm hw_28 hB hz1 hk1 hS => ?_)
      obtain ⟨v_28, n_28, F_28⟩ := u_28
      obtain ⟨hP1, hK1, hD1⟩ := hB
      try dsimp only at hw_28
      rw [ht] at hP1
      have hK1 := va_K.moved hvm.symm hK1
      obtain ⟨hP, hD⟩ := va_join (wr := [(m30, .inl (y30, 4, .inl h30))]) (w1 := [(mo, .inr (6, [.int th, .int tm, .int (nI sr), .int (nI nc), .ref m4, .ref m5, .ref m6, .ref m7, .ref m8, .ref m9, .ref m10, .ref m11, .ref m12, .int pw, .int rn, .int (nI no), .ref m16, .ref m17, .ref m18, .int (nI bz), .int (nI dg), .int (nI db), .int (nI df), .int (nI sp), .int tg, .int lf, .int mm, .ref m27, .int fo, .ref m29, .ref m30, .ref m31])), (m7, .inl (y7, 96, .inl (upd (upd h_24 a_27 (h_24 b_27)) b_27 0))), (m29, .inl (y29, 8, .inl h29)), (m31, .inl (y31, 4, .inl (upd (upd h31 1 0) 0 0)))]) hP hD [1, 2, 3, 4] [0] rfl rfl (by decide) (by decide) hk1 hFc hP1 hD1
      have hK := hK.app hK1
      generalize H1 = H at hP hS ⊢
      have hP : va_P (dC, dI) vwCl [(m30, .inl (y30, 4, .inl h30)), (mo, .inr (6, [.int th, .int tm, .int (nI sr), .int (nI nc), .ref m4, .ref m5, .ref m6, .ref m7, .ref m8, .ref m9, .ref m10, .ref m11, .ref m12, .int pw, .int rn, .int (nI no), .ref m16, .ref m17, .ref m18, .int (nI bz), .int (nI dg), .int (nI db), .int (nI df), .int (nI sp), .int tg, .int lf, .int mm, .ref m27, .int fo, .ref m29, .ref m30, .ref m31])), (m7, .inl (y7, 96, .inl (upd (upd h_24 a_27 (h_24 b_27)) b_27 0))), (m29, .inl (y29, 8, .inl h29)), (m31, .inl (y31, 4, .inl (upd (upd h31 1 0) 0 0)))] H := hP
      have hD : va_D A [(m30, .inl (y30, 4, .inl h30)), (mo, .inr (6, [.int th, .int tm, .int (nI sr), .int (nI nc), .ref m4, .ref m5, .ref m6, .ref m7, .ref m8, .ref m9, .ref m10, .ref m11, .ref m12, .int pw, .int rn, .int (nI no), .ref m16, .ref m17, .ref m18, .int (nI bz), .int (nI dg), .int (nI db), .int (nI df), .int (nI sp), .int tg, .int lf, .int mm, .ref m27, .int fo, .ref m29, .ref m30, .ref m31])), (m7, .inl (y7, 96, .inl (upd (upd h_24 a_27 (h_24 b_27)) b_27 0))), (m29, .inl (y29, 8, .inl h29)), (m31, .inl (y31, 4, .inl (upd (upd h31 1 0) 0 0)))] := hD
      have hK : va_K (dC, dI) vwCl [(y7, .int), (y29, .int), (y30, .int), (y31, .boolean)] s := hK
      rw [mundo' i6_27 i7_27 i10_27 i11_27] at hP hD
      have hP : va_P (dC, dI) vwCl [(m30, .inl (y30, 4, .inl h30)), (mo, .inr (6, [.int th, .int tm, .int (nI sr), .int (nI nc), .ref m4, .ref m5, .ref m6, .ref m7, .ref m8, .ref m9, .ref m10, .ref m11, .ref m12, .int pw, .int rn, .int (nI no), .ref m16, .ref m17, .ref m18, .int (nI bz), .int (nI dg), .int (nI db), .int (nI df), .int (nI sp), .int tg, .int lf, .int mm, .ref m27, .int fo, .ref m29, .ref m30, .ref m31])), (m7, .inl (y7, 96, .inl h_27)), (m29, .inl (y29, 8, .inl h29)), (m31, .inl (y31, 4, .inl (upd (upd h31 1 0) 0 0)))] H := hP
      have hD : va_D A [(m30, .inl (y30, 4, .inl h30)), (mo, .inr (6, [.int th, .int tm, .int (nI sr), .int (nI nc), .ref m4, .ref m5, .ref m6, .ref m7, .ref m8, .ref m9, .ref m10, .ref m11, .ref m12, .int pw, .int rn, .int (nI no), .ref m16, .ref m17, .ref m18, .int (nI bz), .int (nI dg), .int (nI db), .int (nI df), .int (nI sp), .int tg, .int lf, .int mm, .ref m27, .int fo, .ref m29, .ref m30, .ref m31])), (m7, .inl (y7, 96, .inl h_27)), (m29, .inl (y29, 8, .inl h29)), (m31, .inl (y31, 4, .inl (upd (upd h31 1 0) 0 0)))] := hD
      have C_27 : ∀ i, mC (h_27 i) := fun i => by rw [← mundo' i6_27 i7_27 i10_27 i11_27]; exact s_upd (fun i => s_upd C_24 (C_24 _) i) (Or.inr ⟨0, by omega, rfl⟩) i
      refine lv_iinc (v := (-1)) (lv' := [(5, .int (-1)), (4, .int 1), (3, .int 0), (0, .ref mo), (1, .int (nI tg9)), (2, .int 2)]) hx hb dX8_goes_116 hl (k := 0) rfl (by decide) (by decide) rfl (fun ls hl => ?_)
      refine lv_goto (tgt := 95) hx hb dX8_goes_119 (by decide) ?_
      refine lv_iload hx hb dX8_goes_95 (lv_at hl 0 rfl) ?_
      refine lv_if_lt (tgt := 122) hx hb dX8_goes_97 (by decide) (fun _ => ?_) (fun c => absurd (by decide) c)
      have e9 : h_27 = f7 := m_27
      rw [e9] at hP hD
      have hP : va_P (dC, dI) vwCl [(m30, .inl (y30, 4, .inl h30)), (mo, .inr (6, [.int th, .int tm, .int (nI sr), .int (nI nc), .ref m4, .ref m5, .ref m6, .ref m7, .ref m8, .ref m9, .ref m10, .ref m11, .ref m12, .int pw, .int rn, .int (nI no), .ref m16, .ref m17, .ref m18, .int (nI bz), .int (nI dg), .int (nI db), .int (nI df), .int (nI sp), .int tg, .int lf, .int mm, .ref m27, .int fo, .ref m29, .ref m30, .ref m31])), (m7, .inl (y7, 96, .inl f7)), (m29, .inl (y29, 8, .inl h29)), (m31, .inl (y31, 4, .inl (upd (upd h31 1 0) 0 0)))] H := hP
      have hD : va_D A [(m30, .inl (y30, 4, .inl h30)), (mo, .inr (6, [.int th, .int tm, .int (nI sr), .int (nI nc), .ref m4, .ref m5, .ref m6, .ref m7, .ref m8, .ref m9, .ref m10, .ref m11, .ref m12, .int pw, .int rn, .int (nI no), .ref m16, .ref m17, .ref m18, .int (nI bz), .int (nI dg), .int (nI db), .int (nI df), .int (nI sp), .int tg, .int lf, .int mm, .ref m27, .int fo, .ref m29, .ref m30, .ref m31])), (m7, .inl (y7, 96, .inl f7)), (m29, .inl (y29, 8, .inl h29)), (m31, .inl (y31, 4, .inl (upd (upd h31 1 0) 0 0)))] := hD
      refine lv_iload hx hb dX8_goes_122 (lv_at hl 1 rfl) ?_
      have hP9 := hP.sub (ws' := [(mo, .inr (6, [.int th, .int tm, .int (nI sr), .int (nI nc), .ref m4, .ref m5, .ref m6, .ref m7, .ref m8, .ref m9, .ref m10, .ref m11, .ref m12, .int pw, .int rn, .int (nI no), .ref m16, .ref m17, .ref m18, .int (nI bz), .int (nI dg), .int (nI db), .int (nI df), .int (nI sp), .int tg, .int lf, .int mm, .ref m27, .int fo, .ref m29, .ref m30, .ref m31])), (m7, .inl (y7, 96, .inl f7)), (m29, .inl (y29, 8, .inl h29)), (m30, .inl (y30, 4, .inl h30)), (m31, .inl (y31, 4, .inl (upd (upd h31 1 0) 0 0)))]) [1, 2, 3, 0, 4] rfl
      have hD9 := hD.sub (ws' := [(mo, .inr (6, [.int th, .int tm, .int (nI sr), .int (nI nc), .ref m4, .ref m5, .ref m6, .ref m7, .ref m8, .ref m9, .ref m10, .ref m11, .ref m12, .int pw, .int rn, .int (nI no), .ref m16, .ref m17, .ref m18, .int (nI bz), .int (nI dg), .int (nI db), .int (nI df), .int (nI sp), .int tg, .int lf, .int mm, .ref m27, .int fo, .ref m29, .ref m30, .ref m31])), (m7, .inl (y7, 96, .inl f7)), (m29, .inl (y29, 8, .inl h29)), (m30, .inl (y30, 4, .inl h30)), (m31, .inl (y31, 4, .inl (upd (upd h31 1 0) 0 0)))]) [1, 2, 3, 0, 4] (by decide) rfl
      have hK9 := hK.sub (tys' := []) [] rfl
      refine W.widen (k := 0) (n := 0) (by omega) (by omega) ?_
      exact W.zret (v := 1) (ty := .boolean) hx hb hr rfl (fun t ht hW => ⟨⟨1, (fun q_ => ([] : List Int32).getD q_ 0, fun q_ => ([] : List Nat).getD q_ 0, fun q_ => ([h29, h30, upd (upd h31 1 0) 0 0] : List (Nat → Int32)).getD q_ (fun _ => 0)), rfl, ⟨Or.inr ⟨rfl, hall⟩, mD.o (mD.down (mD.down gD))⟩, by rw [ht]; exact hP9, va_K.moved hW.alike hK9, hD9⟩, hS.F ht⟩) hS.2.2 dX8_goes_124
    · skip
      obtain rfl := gG rfl
      have hall := mdo.all gm
      have hl : lv_has ls 6 [(4, .int 1), (3, .int 1), (0, .ref mo), (1, .int (nI tg9)), (2, .int 2)] := hl
      have hmu : mu = (577 - t0) * 1000000 + (577 - t1) * 1000 := gz.2.2.1 rfl
      have gp0 : h30 0 = pI t0 := gp.1 (by decide)
      have gp1 : h30 1 = pI t1 := gp.2.1 (by decide)
      refine lv_iload_n hx hb dX8_goes_22 rfl (lv_at hl 1 rfl) ?_
      refine lv_if_lt (tgt := 90) hx hb dX8_goes_23 (by decide) (fun c => absurd c (by decide)) (fun _ => ?_)
      refine lv_iload hx hb dX8_goes_26 (lv_at hl 0 rfl) ?_
      refine lv_if_ne (tgt := 90) hx hb dX8_goes_28 (by decide) (fun _ => ?_) (fun c => absurd c (by decide))
      refine lv_iload_n hx hb dX8_goes_90 rfl (lv_at hl 4 rfl) ?_
      refine lv_iconst (v := 1) hx hb dX8_goes_91 (by decide) ?_
      refine lv_isub hx hb dX8_goes_92 ?_
      refine pt_topi 1 (by decide) ?_
      refine lv_istore (lv' := [(5, .int 1), (4, .int 1), (3, .int 1), (0, .ref mo), (1, .int (nI tg9)), (2, .int 2)]) hx hb dX8_goes_93 hl (by decide) rfl (fun ls hl => ?_)
      refine lv_iload hx hb dX8_goes_95 (lv_at hl 0 rfl) ?_
      refine lv_if_lt (tgt := 122) hx hb dX8_goes_97 (by decide) (fun c => absurd c (by decide)) (fun _ => ?_)
      refine lv_aload_n hx hb dX8_goes_100 rfl (lv_at hl 3 rfl) ?_
      refine va_get (D := (dC, dI)) (ci := 6) (v := .ref m31) (C := RX8) (T := TX8) (N := 32) hx hb hts iX8 hown hK hP 0 rfl rfl 31 (by decide) (hts (.fieldLink RX8 60 "ParkTowerModel" "isDone" "[Z") (by decide +kernel)) (fun _ h9 => h9) rfl dX8_goes_101 ?_
      refine lv_iload hx hb dX8_goes_104 (lv_at hl 0 rfl) ?_
      refine va_zald hx hb hK hP 4 3 rfl rfl (vp_in_iff.mpr (by decide)) dX8_goes_106 ?_
      refine lv_topi (fun a_29 ea_29 => ?_)
      have ea_29 : a_29 = h31 1 := ea_29
      obtain rfl : a_29 = 1 := ea_29.trans (gD.yes (by decide))
      refine lv_if_eq (tgt := 116) hx hb dX8_goes_107 (by decide) (fun c => absurd c (by decide)) (fun _ => ?_)
      refine lv_aload_n hx hb dX8_goes_110 rfl (lv_at hl 3 rfl) ?_
      refine lv_iload hx hb dX8_goes_111 (lv_at hl 0 rfl) ?_
      obtain ⟨h_30, a_30, b_30, x_30, m_30, i1_30, i2_30, i3_30, i4_30, i5_30, i6_30, i7_30, i8_30, i9_30, i10_30, i11_30⟩ := gm
      have hPc := hP.sub (ws' := [(mo, .inr (6, [.int th, .int tm, .int (nI sr), .int (nI nc), .ref m4, .ref m5, .ref m6, .ref m7, .ref m8, .ref m9, .ref m10, .ref m11, .ref m12, .int pw, .int rn, .int (nI no), .ref m16, .ref m17, .ref m18, .int (nI bz), .int (nI dg), .int (nI db), .int (nI df), .int (nI sp), .int tg, .int lf, .int mm, .ref m27, .int fo, .ref m29, .ref m30, .ref m31])), (m7, .inl (y7, 96, .inl h7)), (m29, .inl (y29, 8, .inl h29)), (m31, .inl (y31, 4, .inl h31))]) [0, 1, 2, 4] rfl
      have hDc := hD.sub (ws' := [(mo, .inr (6, [.int th, .int tm, .int (nI sr), .int (nI nc), .ref m4, .ref m5, .ref m6, .ref m7, .ref m8, .ref m9, .ref m10, .ref m11, .ref m12, .int pw, .int rn, .int (nI no), .ref m16, .ref m17, .ref m18, .int (nI bz), .int (nI dg), .int (nI db), .int (nI df), .int (nI sp), .int tg, .int lf, .int mm, .ref m27, .int fo, .ref m29, .ref m30, .ref m31])), (m7, .inl (y7, 96, .inl h7)), (m29, .inl (y29, 8, .inl h29)), (m31, .inl (y31, 4, .inl h31))]) [0, 1, 2, 4] (by decide) rfl
      have hKc := hK.sub (tys' := [(y7, .int), (y29, .int), (y31, .boolean)]) [0, 1, 3] rfl
      have hFc := va_free (wc := [(mo, .inr (6, [.int th, .int tm, .int (nI sr), .int (nI nc), .ref m4, .ref m5, .ref m6, .ref m7, .ref m8, .ref m9, .ref m10, .ref m11, .ref m12, .int pw, .int rn, .int (nI no), .ref m16, .ref m17, .ref m18, .int (nI bz), .int (nI dg), .int (nI db), .int (nI df), .int (nI sp), .int tg, .int lf, .int mm, .ref m27, .int fo, .ref m29, .ref m30, .ref m31])), (m7, .inl (y7, 96, .inl h7)), (m29, .inl (y29, 8, .inl h29)), (m31, .inl (y31, 4, .inl h31))]) hD hS hA [0, 1, 2, 4] rfl
      refine va_callv (va_runV (As := [.int 1]) (rest := []) ⟨hx, hb, hml, hown, hts⟩ (m_undo l dC dI _ mo m4 m5 m6 m7 m8 m9 m10 m11 m12 m16 m17 m18 m27 m29 m30 m31 th tm pw rn tg lf mm fo sr nc no bz dg db df sp y7 y29 y31 h7 h29 h31 1 a_30 b_30 (by omega) i2_30 i3_30 i1_30) (cwV 1 hts gX8_goes_X8_undo rfl rfl rfl (by decide +kernel) ⟨Nat.le_of_ble_eq_true rfl, Nat.le_of_ble_eq_true rfl⟩) ⟨pt_blindQ, va_recv hK hP (ci := 6) (q0 := 0) rfl rfl, pt_preQ hPc hKc hDc hN⟩ rfl rfl hl.1 rfl (lv_room (Nat.le_of_ble_eq_true rfl)) dX8_goes_113 ⟨Nat.le_of_ble_eq_true rfl, Nat.le_of_ble_eq_true rfl⟩) hS (fun q _ h => hFc q h) hFc (fun u_31 t H1 locs ht hvm hw_31 hB hz1 hk1 hS => ?_)
      obtain ⟨v_31, n_31, F_31⟩ := u_31
      obtain ⟨hP1, hK1, hD1⟩ := hB
      try dsimp only at hw_31
      rw [ht] at hP1
      have hK1 := va_K.moved hvm.symm hK1
      obtain ⟨hP, hD⟩ := va_join (wr := [(m30, .inl (y30, 4, .inl h30))]) (w1 := [(mo, .inr (6, [.int th, .int tm, .int (nI sr), .int (nI nc), .ref m4, .ref m5, .ref m6, .ref m7, .ref m8, .ref m9, .ref m10, .ref m11, .ref m12, .int pw, .int rn, .int (nI no), .ref m16, .ref m17, .ref m18, .int (nI bz), .int (nI dg), .int (nI db), .int (nI df), .int (nI sp), .int tg, .int lf, .int mm, .ref m27, .int fo, .ref m29, .ref m30, .ref m31])), (m7, .inl (y7, 96, .inl (upd (upd h7 a_30 (h7 b_30)) b_30 0))), (m29, .inl (y29, 8, .inl h29)), (m31, .inl (y31, 4, .inl (upd h31 1 0)))]) hP hD [0, 1, 2, 4] [3] rfl rfl (by decide) (by decide) hk1 hFc hP1 hD1
      have hK := hK.app hK1
      generalize H1 = H at hP hS ⊢
      have hP : va_P (dC, dI) vwCl [(m30, .inl (y30, 4, .inl h30)), (mo, .inr (6, [.int th, .int tm, .int (nI sr), .int (nI nc), .ref m4, .ref m5, .ref m6, .ref m7, .ref m8, .ref m9, .ref m10, .ref m11, .ref m12, .int pw, .int rn, .int (nI no), .ref m16, .ref m17, .ref m18, .int (nI bz), .int (nI dg), .int (nI db), .int (nI df), .int (nI sp), .int tg, .int lf, .int mm, .ref m27, .int fo, .ref m29, .ref m30, .ref m31])), (m7, .inl (y7, 96, .inl (upd (upd h7 a_30 (h7 b_30)) b_30 0))), (m29, .inl (y29, 8, .inl h29)), (m31, .inl (y31, 4, .inl (upd h31 1 0)))] H := hP
      have hD : va_D A [(m30, .inl (y30, 4, .inl h30)), (mo, .inr (6, [.int th, .int tm, .int (nI sr), .int (nI nc), .ref m4, .ref m5, .ref m6, .ref m7, .ref m8, .ref m9, .ref m10, .ref m11, .ref m12, .int pw, .int rn, .int (nI no), .ref m16, .ref m17, .ref m18, .int (nI bz), .int (nI dg), .int (nI db), .int (nI df), .int (nI sp), .int tg, .int lf, .int mm, .ref m27, .int fo, .ref m29, .ref m30, .ref m31])), (m7, .inl (y7, 96, .inl (upd (upd h7 a_30 (h7 b_30)) b_30 0))), (m29, .inl (y29, 8, .inl h29)), (m31, .inl (y31, 4, .inl (upd h31 1 0)))] := hD
      have hK : va_K (dC, dI) vwCl [(y7, .int), (y29, .int), (y30, .int), (y31, .boolean)] s := hK
      rw [mundo' i6_30 i7_30 i10_30 i11_30] at hP hD
      have hP : va_P (dC, dI) vwCl [(m30, .inl (y30, 4, .inl h30)), (mo, .inr (6, [.int th, .int tm, .int (nI sr), .int (nI nc), .ref m4, .ref m5, .ref m6, .ref m7, .ref m8, .ref m9, .ref m10, .ref m11, .ref m12, .int pw, .int rn, .int (nI no), .ref m16, .ref m17, .ref m18, .int (nI bz), .int (nI dg), .int (nI db), .int (nI df), .int (nI sp), .int tg, .int lf, .int mm, .ref m27, .int fo, .ref m29, .ref m30, .ref m31])), (m7, .inl (y7, 96, .inl h_30)), (m29, .inl (y29, 8, .inl h29)), (m31, .inl (y31, 4, .inl (upd h31 1 0)))] H := hP
      have hD : va_D A [(m30, .inl (y30, 4, .inl h30)), (mo, .inr (6, [.int th, .int tm, .int (nI sr), .int (nI nc), .ref m4, .ref m5, .ref m6, .ref m7, .ref m8, .ref m9, .ref m10, .ref m11, .ref m12, .int pw, .int rn, .int (nI no), .ref m16, .ref m17, .ref m18, .int (nI bz), .int (nI dg), .int (nI db), .int (nI df), .int (nI sp), .int tg, .int lf, .int mm, .ref m27, .int fo, .ref m29, .ref m30, .ref m31])), (m7, .inl (y7, 96, .inl h_30)), (m29, .inl (y29, 8, .inl h29)), (m31, .inl (y31, 4, .inl (upd h31 1 0)))] := hD
      have C_30 : ∀ i, mC (h_30 i) := fun i => by rw [← mundo' i6_30 i7_30 i10_30 i11_30]; exact s_upd (fun i => s_upd gC (gC _) i) (Or.inr ⟨0, by omega, rfl⟩) i
      refine lv_iinc (v := 0) (lv' := [(5, .int 0), (4, .int 1), (3, .int 1), (0, .ref mo), (1, .int (nI tg9)), (2, .int 2)]) hx hb dX8_goes_116 hl (k := 0) rfl (by decide) (by decide) rfl (fun ls hl => ?_)
      refine lv_goto (tgt := 95) hx hb dX8_goes_119 (by decide) ?_
      refine lv_iload hx hb dX8_goes_95 (lv_at hl 0 rfl) ?_
      refine lv_if_lt (tgt := 122) hx hb dX8_goes_97 (by decide) (fun c => absurd c (by decide)) (fun _ => ?_)
      refine lv_aload_n hx hb dX8_goes_100 rfl (lv_at hl 3 rfl) ?_
      refine va_get (D := (dC, dI)) (ci := 6) (v := .ref m31) (C := RX8) (T := TX8) (N := 32) hx hb hts iX8 hown hK hP 1 rfl rfl 31 (by decide) (hts (.fieldLink RX8 60 "ParkTowerModel" "isDone" "[Z") (by decide +kernel)) (fun _ h9 => h9) rfl dX8_goes_101 ?_
      refine lv_iload hx hb dX8_goes_104 (lv_at hl 0 rfl) ?_
      refine va_zald hx hb hK hP 4 3 rfl rfl (vp_in_iff.mpr (by decide)) dX8_goes_106 ?_
      refine lv_topi (fun a_32 ea_32 => ?_)
      have ea_32 : a_32 = (upd h31 1 0) 0 := ea_32
      obtain rfl : a_32 = 1 := ea_32.trans ((mD.down gD).yes (by decide))
      refine lv_if_eq (tgt := 116) hx hb dX8_goes_107 (by decide) (fun c => absurd c (by decide)) (fun _ => ?_)
      refine lv_aload_n hx hb dX8_goes_110 rfl (lv_at hl 3 rfl) ?_
      refine lv_iload hx hb dX8_goes_111 (lv_at hl 0 rfl) ?_
      obtain ⟨h_33, a_33, b_33, x_33, m_33, i1_33, i2_33, i3_33, i4_33, i5_33, i6_33, i7_33, i8_33, i9_33, i10_33, i11_33⟩ := m_30
      have hPc := hP.sub (ws' := [(mo, .inr (6, [.int th, .int tm, .int (nI sr), .int (nI nc), .ref m4, .ref m5, .ref m6, .ref m7, .ref m8, .ref m9, .ref m10, .ref m11, .ref m12, .int pw, .int rn, .int (nI no), .ref m16, .ref m17, .ref m18, .int (nI bz), .int (nI dg), .int (nI db), .int (nI df), .int (nI sp), .int tg, .int lf, .int mm, .ref m27, .int fo, .ref m29, .ref m30, .ref m31])), (m7, .inl (y7, 96, .inl h_30)), (m29, .inl (y29, 8, .inl h29)), (m31, .inl (y31, 4, .inl (upd h31 1 0)))]) [1, 2, 3, 4] rfl
      have hDc := hD.sub (ws' := [(mo, .inr (6, [.int th, .int tm, .int (nI sr), .int (nI nc), .ref m4, .ref m5, .ref m6, .ref m7, .ref m8, .ref m9, .ref m10, .ref m11, .ref m12, .int pw, .int rn, .int (nI no), .ref m16, .ref m17, .ref m18, .int (nI bz), .int (nI dg), .int (nI db), .int (nI df), .int (nI sp), .int tg, .int lf, .int mm, .ref m27, .int fo, .ref m29, .ref m30, .ref m31])), (m7, .inl (y7, 96, .inl h_30)), (m29, .inl (y29, 8, .inl h29)), (m31, .inl (y31, 4, .inl (upd h31 1 0)))]) [1, 2, 3, 4] (by decide) rfl
      have hKc := hK.sub (tys' := [(y7, .int), (y29, .int), (y31, .boolean)]) [0, 1, 3] rfl
      have hFc := va_free (wc := [(mo, .inr (6, [.int th, .int tm, .int (nI sr), .int (nI nc), .ref m4, .ref m5, .ref m6, .ref m7, .ref m8, .ref m9, .ref m10, .ref m11, .ref m12, .int pw, .int rn, .int (nI no), .ref m16, .ref m17, .ref m18, .int (nI bz), .int (nI dg), .int (nI db), .int (nI df), .int (nI sp), .int tg, .int lf, .int mm, .ref m27, .int fo, .ref m29, .ref m30, .ref m31])), (m7, .inl (y7, 96, .inl h_30)), (m29, .inl (y29, 8, .inl h29)), (m31, .inl (y31, 4, .inl (upd h31 1 0)))]) hD hS hA [1, 2, 3, 4] rfl
      refine va_callv (va_runV (As := [.int 0]) (rest := []) ⟨hx, hb, hml, hown, hts⟩ (m_undo l dC dI _ mo m4 m5 m6 m7 m8 m9 m10 m11 m12 m16 m17 m18 m27 m29 m30 m31 th tm pw rn tg lf mm fo sr nc no bz dg db df sp y7 y29 y31 h_30 h29 (upd h31 1 0) 0 a_33 b_33 (by omega) i2_33 i3_33 i1_33) (cwV 1 hts gX8_goes_X8_undo rfl rfl rfl (by decide +kernel) ⟨Nat.le_of_ble_eq_true rfl, Nat.le_of_ble_eq_true rfl⟩) ⟨pt_blindQ, va_recv hK hP (ci := 6) (q0 := 1) rfl rfl, pt_preQ hPc hKc hDc hN⟩ rfl rfl hl.1 rfl (lv_room (Nat.le_of_ble_eq_true rfl)) dX8_goes_113 ⟨Nat.le_of_ble_eq_true rfl, Nat.le_of_ble_eq_true rfl⟩) hS (fun q _ h => hFc q h) hFc (fun u_34 t H1 locs ht hvm hw_34 hB hz1 hk1 hS => ?_)
      obtain ⟨v_34, n_34, F_34⟩ := u_34
      obtain ⟨hP1, hK1, hD1⟩ := hB
      try dsimp only at hw_34
      rw [ht] at hP1
      have hK1 := va_K.moved hvm.symm hK1
      obtain ⟨hP, hD⟩ := va_join (wr := [(m30, .inl (y30, 4, .inl h30))]) (w1 := [(mo, .inr (6, [.int th, .int tm, .int (nI sr), .int (nI nc), .ref m4, .ref m5, .ref m6, .ref m7, .ref m8, .ref m9, .ref m10, .ref m11, .ref m12, .int pw, .int rn, .int (nI no), .ref m16, .ref m17, .ref m18, .int (nI bz), .int (nI dg), .int (nI db), .int (nI df), .int (nI sp), .int tg, .int lf, .int mm, .ref m27, .int fo, .ref m29, .ref m30, .ref m31])), (m7, .inl (y7, 96, .inl (upd (upd h_30 a_33 (h_30 b_33)) b_33 0))), (m29, .inl (y29, 8, .inl h29)), (m31, .inl (y31, 4, .inl (upd (upd h31 1 0) 0 0)))]) hP hD [1, 2, 3, 4] [0] rfl rfl (by decide) (by decide) hk1 hFc hP1 hD1
      have hK := hK.app hK1
      generalize H1 = H at hP hS ⊢
      have hP : va_P (dC, dI) vwCl [(m30, .inl (y30, 4, .inl h30)), (mo, .inr (6, [.int th, .int tm, .int (nI sr), .int (nI nc), .ref m4, .ref m5, .ref m6, .ref m7, .ref m8, .ref m9, .ref m10, .ref m11, .ref m12, .int pw, .int rn, .int (nI no), .ref m16, .ref m17, .ref m18, .int (nI bz), .int (nI dg), .int (nI db), .int (nI df), .int (nI sp), .int tg, .int lf, .int mm, .ref m27, .int fo, .ref m29, .ref m30, .ref m31])), (m7, .inl (y7, 96, .inl (upd (upd h_30 a_33 (h_30 b_33)) b_33 0))), (m29, .inl (y29, 8, .inl h29)), (m31, .inl (y31, 4, .inl (upd (upd h31 1 0) 0 0)))] H := hP
      have hD : va_D A [(m30, .inl (y30, 4, .inl h30)), (mo, .inr (6, [.int th, .int tm, .int (nI sr), .int (nI nc), .ref m4, .ref m5, .ref m6, .ref m7, .ref m8, .ref m9, .ref m10, .ref m11, .ref m12, .int pw, .int rn, .int (nI no), .ref m16, .ref m17, .ref m18, .int (nI bz), .int (nI dg), .int (nI db), .int (nI df), .int (nI sp), .int tg, .int lf, .int mm, .ref m27, .int fo, .ref m29, .ref m30, .ref m31])), (m7, .inl (y7, 96, .inl (upd (upd h_30 a_33 (h_30 b_33)) b_33 0))), (m29, .inl (y29, 8, .inl h29)), (m31, .inl (y31, 4, .inl (upd (upd h31 1 0) 0 0)))] := hD
      have hK : va_K (dC, dI) vwCl [(y7, .int), (y29, .int), (y30, .int), (y31, .boolean)] s := hK
      rw [mundo' i6_33 i7_33 i10_33 i11_33] at hP hD
      have hP : va_P (dC, dI) vwCl [(m30, .inl (y30, 4, .inl h30)), (mo, .inr (6, [.int th, .int tm, .int (nI sr), .int (nI nc), .ref m4, .ref m5, .ref m6, .ref m7, .ref m8, .ref m9, .ref m10, .ref m11, .ref m12, .int pw, .int rn, .int (nI no), .ref m16, .ref m17, .ref m18, .int (nI bz), .int (nI dg), .int (nI db), .int (nI df), .int (nI sp), .int tg, .int lf, .int mm, .ref m27, .int fo, .ref m29, .ref m30, .ref m31])), (m7, .inl (y7, 96, .inl h_33)), (m29, .inl (y29, 8, .inl h29)), (m31, .inl (y31, 4, .inl (upd (upd h31 1 0) 0 0)))] H := hP
      have hD : va_D A [(m30, .inl (y30, 4, .inl h30)), (mo, .inr (6, [.int th, .int tm, .int (nI sr), .int (nI nc), .ref m4, .ref m5, .ref m6, .ref m7, .ref m8, .ref m9, .ref m10, .ref m11, .ref m12, .int pw, .int rn, .int (nI no), .ref m16, .ref m17, .ref m18, .int (nI bz), .int (nI dg), .int (nI db), .int (nI df), .int (nI sp), .int tg, .int lf, .int mm, .ref m27, .int fo, .ref m29, .ref m30, .ref m31])), (m7, .inl (y7, 96, .inl h_33)), (m29, .inl (y29, 8, .inl h29)), (m31, .inl (y31, 4, .inl (upd (upd h31 1 0) 0 0)))] := hD
      have C_33 : ∀ i, mC (h_33 i) := fun i => by rw [← mundo' i6_33 i7_33 i10_33 i11_33]; exact s_upd (fun i => s_upd C_30 (C_30 _) i) (Or.inr ⟨0, by omega, rfl⟩) i
      refine lv_iinc (v := (-1)) (lv' := [(5, .int (-1)), (4, .int 1), (3, .int 1), (0, .ref mo), (1, .int (nI tg9)), (2, .int 2)]) hx hb dX8_goes_116 hl (k := 0) rfl (by decide) (by decide) rfl (fun ls hl => ?_)
      refine lv_goto (tgt := 95) hx hb dX8_goes_119 (by decide) ?_
      refine lv_iload hx hb dX8_goes_95 (lv_at hl 0 rfl) ?_
      refine lv_if_lt (tgt := 122) hx hb dX8_goes_97 (by decide) (fun _ => ?_) (fun c => absurd (by decide) c)
      have e9 : h_33 = f7 := m_33
      rw [e9] at hP hD
      have hP : va_P (dC, dI) vwCl [(m30, .inl (y30, 4, .inl h30)), (mo, .inr (6, [.int th, .int tm, .int (nI sr), .int (nI nc), .ref m4, .ref m5, .ref m6, .ref m7, .ref m8, .ref m9, .ref m10, .ref m11, .ref m12, .int pw, .int rn, .int (nI no), .ref m16, .ref m17, .ref m18, .int (nI bz), .int (nI dg), .int (nI db), .int (nI df), .int (nI sp), .int tg, .int lf, .int mm, .ref m27, .int fo, .ref m29, .ref m30, .ref m31])), (m7, .inl (y7, 96, .inl f7)), (m29, .inl (y29, 8, .inl h29)), (m31, .inl (y31, 4, .inl (upd (upd h31 1 0) 0 0)))] H := hP
      have hD : va_D A [(m30, .inl (y30, 4, .inl h30)), (mo, .inr (6, [.int th, .int tm, .int (nI sr), .int (nI nc), .ref m4, .ref m5, .ref m6, .ref m7, .ref m8, .ref m9, .ref m10, .ref m11, .ref m12, .int pw, .int rn, .int (nI no), .ref m16, .ref m17, .ref m18, .int (nI bz), .int (nI dg), .int (nI db), .int (nI df), .int (nI sp), .int tg, .int lf, .int mm, .ref m27, .int fo, .ref m29, .ref m30, .ref m31])), (m7, .inl (y7, 96, .inl f7)), (m29, .inl (y29, 8, .inl h29)), (m31, .inl (y31, 4, .inl (upd (upd h31 1 0) 0 0)))] := hD
      refine lv_iload hx hb dX8_goes_122 (lv_at hl 1 rfl) ?_
      have hP9 := hP.sub (ws' := [(mo, .inr (6, [.int th, .int tm, .int (nI sr), .int (nI nc), .ref m4, .ref m5, .ref m6, .ref m7, .ref m8, .ref m9, .ref m10, .ref m11, .ref m12, .int pw, .int rn, .int (nI no), .ref m16, .ref m17, .ref m18, .int (nI bz), .int (nI dg), .int (nI db), .int (nI df), .int (nI sp), .int tg, .int lf, .int mm, .ref m27, .int fo, .ref m29, .ref m30, .ref m31])), (m7, .inl (y7, 96, .inl f7)), (m29, .inl (y29, 8, .inl h29)), (m30, .inl (y30, 4, .inl h30)), (m31, .inl (y31, 4, .inl (upd (upd h31 1 0) 0 0)))]) [1, 2, 3, 0, 4] rfl
      have hD9 := hD.sub (ws' := [(mo, .inr (6, [.int th, .int tm, .int (nI sr), .int (nI nc), .ref m4, .ref m5, .ref m6, .ref m7, .ref m8, .ref m9, .ref m10, .ref m11, .ref m12, .int pw, .int rn, .int (nI no), .ref m16, .ref m17, .ref m18, .int (nI bz), .int (nI dg), .int (nI db), .int (nI df), .int (nI sp), .int tg, .int lf, .int mm, .ref m27, .int fo, .ref m29, .ref m30, .ref m31])), (m7, .inl (y7, 96, .inl f7)), (m29, .inl (y29, 8, .inl h29)), (m30, .inl (y30, 4, .inl h30)), (m31, .inl (y31, 4, .inl (upd (upd h31 1 0) 0 0)))]) [1, 2, 3, 0, 4] (by decide) rfl
      have hK9 := hK.sub (tys' := []) [] rfl
      refine W.widen (k := 0) (n := 0) (by omega) (by omega) ?_
      exact W.zret (v := 1) (ty := .boolean) hx hb hr rfl (fun t ht hW => ⟨⟨1, (fun q_ => ([] : List Int32).getD q_ 0, fun q_ => ([] : List Nat).getD q_ 0, fun q_ => ([h29, h30, upd (upd h31 1 0) 0 0] : List (Nat → Int32)).getD q_ (fun _ => 0)), rfl, ⟨Or.inr ⟨rfl, hall⟩, mD.o (mD.down (mD.down gD))⟩, by rw [ht]; exact hP9, va_K.moved hW.alike hK9, hD9⟩, hS.F ht⟩) hS.2.2 dX8_goes_124
set_option maxHeartbeats 4000000 in
set_option maxRecDepth 100000 in
theorem m_goes3 (l : Launch) (dC : Nat → ClassId) (dI : Nat → Nat → Nat) (sz : Nat) (mo m4 m5 m6 m7 m8 m9 m10 m11 m12 m16 m17 m18 m27 m29 m30 m31 : Nat) (th tm pw rn tg lf mm fo : Int32) (sr nc no bz dg db df sp : Nat) (y7 y29 y30 y31 : ClassId) (f7 f29 f30 f31 : Nat → Int32) (tg9 : Nat) (htg : tg9 < 96) (hf : ∀ i, mC (f7 i)) (hdn : ∀ i, f31 i = 0) : Met l yX8_goes wsX8_goes ({ frames := 4, cells := 0, slots := 0, locals := 90 }) (va_Pc [.ref mo, .int (nI tg9), .int 3] (pt_BQ (dC, dI) [(mo, .inr (6, [.int th, .int tm, .int (nI sr), .int (nI nc), .ref m4, .ref m5, .ref m6, .ref m7, .ref m8, .ref m9, .ref m10, .ref m11, .ref m12, .int pw, .int rn, .int (nI no), .ref m16, .ref m17, .ref m18, .int (nI bz), .int (nI dg), .int (nI db), .int (nI df), .int (nI sp), .int tg, .int lf, .int mm, .ref m27, .int fo, .ref m29, .ref m30, .ref m31])), (m7, .inl (y7, 96, .inl f7)), (m29, .inl (y29, 8, .inl f29)), (m30, .inl (y30, 4, .inl f30)), (m31, .inl (y31, 4, .inl f31))] [(y7, .int), (y29, .int), (y30, .int), (y31, .boolean)] sz)) (va_Qi (fun (r : Int32) (u : (Nat → Int32) × (Nat → Nat) × (Nat → Nat → Int32)) => (r = 0 ∨ (r = 1 ∧ mch (u.2.2 0) (tg9 / 24) 0 3 f7)) ∧ (∀ i, (u.2.2 2) i = 0)) (fun u t => pt_at (dC, dI) (va_A [(mo, .inr (6, [.int th, .int tm, .int (nI sr), .int (nI nc), .ref m4, .ref m5, .ref m6, .ref m7, .ref m8, .ref m9, .ref m10, .ref m11, .ref m12, .int pw, .int rn, .int (nI no), .ref m16, .ref m17, .ref m18, .int (nI bz), .int (nI dg), .int (nI db), .int (nI df), .int (nI sp), .int tg, .int lf, .int mm, .ref m27, .int fo, .ref m29, .ref m30, .ref m31])), (m7, .inl (y7, 96, .inl f7)), (m29, .inl (y29, 8, .inl f29)), (m30, .inl (y30, 4, .inl f30)), (m31, .inl (y31, 4, .inl f31))] sz) [(mo, .inr (6, [.int th, .int tm, .int (nI sr), .int (nI nc), .ref m4, .ref m5, .ref m6, .ref m7, .ref m8, .ref m9, .ref m10, .ref m11, .ref m12, .int pw, .int rn, .int (nI no), .ref m16, .ref m17, .ref m18, .int (nI bz), .int (nI dg), .int (nI db), .int (nI df), .int (nI sp), .int tg, .int lf, .int mm, .ref m27, .int fo, .ref m29, .ref m30, .ref m31])), (m7, .inl (y7, 96, .inl f7)), (m29, .inl (y29, 8, .inl (u.2.2 0))), (m30, .inl (y30, 4, .inl (u.2.2 1))), (m31, .inl (y31, 4, .inl (u.2.2 2)))] [] t) (va_A [(mo, .inr (6, [.int th, .int tm, .int (nI sr), .int (nI nc), .ref m4, .ref m5, .ref m6, .ref m7, .ref m8, .ref m9, .ref m10, .ref m11, .ref m12, .int pw, .int rn, .int (nI no), .ref m16, .ref m17, .ref m18, .int (nI bz), .int (nI dg), .int (nI db), .int (nI df), .int (nI sp), .int tg, .int lf, .int mm, .ref m27, .int fo, .ref m29, .ref m30, .ref m31])), (m7, .inl (y7, 96, .inl f7)), (m29, .inl (y29, 8, .inl f29)), (m30, .inl (y30, 4, .inl f30)), (m31, .inl (y31, 4, .inl f31))] sz)) 0 0 (va_A [(mo, .inr (6, [.int th, .int tm, .int (nI sr), .int (nI nc), .ref m4, .ref m5, .ref m6, .ref m7, .ref m8, .ref m9, .ref m10, .ref m11, .ref m12, .int pw, .int rn, .int (nI no), .ref m16, .ref m17, .ref m18, .int (nI bz), .int (nI dg), .int (nI db), .int (nI df), .int (nI sp), .int tg, .int lf, .int mm, .ref m27, .int fo, .ref m29, .ref m30, .ref m31])), (m7, .inl (y7, 96, .inl f7)), (m29, .inl (y29, 8, .inl f29)), (m30, .inl (y30, 4, .inl f30)), (m31, .inl (y31, 4, .inl f31))] sz) := by
  refine Met.ofW (cc := cX8_goes) (maxL := 6) (ret := (some .boolean)) (by decide) rfl ?_
  intro p e s m args below meth c s₁ B hml hv
  obtain ⟨rfl, hsz, hP, hK, hD0, hN⟩ := hv
  have hx := B.exec
  have hb := B.bytes
  have hr := B.returns
  have hts := atoms_spec (ws := wsX8_goes) B.pre
  have hown : s.vm.findClass RX8 = some m.cls := findClass_of_methodNamed B.named
  have hlocks := B.notSynchronized
  have iX8 : ∀ w ∈ wsX80, w ∈ wsX8_goes := by decide +kernel
  subst hsz
  have hD := hD0.self (sz := s.heap.size)
  generalize hAe : va_A [(mo, .inr (6, [.int th, .int tm, .int (nI sr), .int (nI nc), .ref m4, .ref m5, .ref m6, .ref m7, .ref m8, .ref m9, .ref m10, .ref m11, .ref m12, .int pw, .int rn, .int (nI no), .ref m16, .ref m17, .ref m18, .int (nI bz), .int (nI dg), .int (nI db), .int (nI df), .int (nI sp), .int tg, .int lf, .int mm, .ref m27, .int fo, .ref m29, .ref m30, .ref m31])), (m7, .inl (y7, 96, .inl f7)), (m29, .inl (y29, 8, .inl f29)), (m30, .inl (y30, 4, .inl f30)), (m31, .inl (y31, 4, .inl f31))] s.heap.size = A at hD ⊢
  have hA : ∀ q : Nat, s.heap.size ≤ q → A q := fun q h => by rw [← hAe]; exact Or.inr h
  have hS : va_S A s.heap s.heap [] := va_S.rf
  have hP : va_P (dC, dI) vwCl [(mo, .inr (6, [.int th, .int tm, .int (nI sr), .int (nI nc), .ref m4, .ref m5, .ref m6, .ref m7, .ref m8, .ref m9, .ref m10, .ref m11, .ref m12, .int pw, .int rn, .int (nI no), .ref m16, .ref m17, .ref m18, .int (nI bz), .int (nI dg), .int (nI db), .int (nI df), .int (nI sp), .int tg, .int lf, .int mm, .ref m27, .int fo, .ref m29, .ref m30, .ref m31])), (m7, .inl (y7, 96, .inl f7)), (m29, .inl (y29, 8, .inl f29)), (m30, .inl (y30, 4, .inl f30)), (m31, .inl (y31, 4, .inl f31))] s.heap := hP
  have hK : va_K (dC, dI) vwCl [(y7, .int), (y29, .int), (y30, .int), (y31, .boolean)] s := hK
  have hl := lv_entry ([.ref mo, .int (nI tg9), .int 3]) (n := 6) (Nat.le_of_ble_eq_true rfl)
  rw [lg_entry_eq]
  generalize (lg_sl ([.ref mo, .int (nI tg9), .int 3]) ++ List.replicate (6 - (lg_sl ([.ref mo, .int (nI tg9), .int 3])).length) Slot.unset).toArray = ls at hl ⊢
  have hl : lv_has ls 6 [(0, .ref mo), (1, .int (nI tg9)), (2, .int 3)] := hl
  refine lv_iload_n hx hb dX8_goes_0 rfl (lv_at hl 2 rfl) ?_
  refine lv_if_ne (tgt := 10) hx hb dX8_goes_1 (by decide) (fun _ => ?_) (fun c => absurd c (by decide))
  refine lv_iconst (v := 0) hx hb dX8_goes_10 (by decide) ?_
  refine lv_istore_n (lv' := [(3, .int 0), (0, .ref mo), (1, .int (nI tg9)), (2, .int 3)]) hx hb dX8_goes_11 rfl hl (by decide) rfl (fun ls hl => ?_)
  refine lv_aload_n hx hb dX8_goes_12 rfl (lv_at hl 1 rfl) ?_
  refine va_get (D := (dC, dI)) (ci := 6) (v := .ref m30) (C := RX8) (T := TX8) (N := 32) hx hb hts iX8 hown hK hP 0 rfl rfl 30 (by decide) (hts (.fieldLink RX8 57 "ParkTowerModel" "pick" "[I") (by decide +kernel)) (fun _ h9 => h9) rfl dX8_goes_13 ?_
  refine lv_iconst (v := 0) hx hb dX8_goes_16 (by decide) ?_
  refine lv_iconst (v := (-1)) hx hb dX8_goes_17 (by decide) ?_
  refine va_iast hx hb hK hP hD hS 3 2 rfl rfl (vp_in_iff.mpr (by decide)) dX8_goes_18 (fun H locs hP hD hS => ?_)
  have hP : va_P (dC, dI) vwCl [(mo, .inr (6, [.int th, .int tm, .int (nI sr), .int (nI nc), .ref m4, .ref m5, .ref m6, .ref m7, .ref m8, .ref m9, .ref m10, .ref m11, .ref m12, .int pw, .int rn, .int (nI no), .ref m16, .ref m17, .ref m18, .int (nI bz), .int (nI dg), .int (nI db), .int (nI df), .int (nI sp), .int tg, .int lf, .int mm, .ref m27, .int fo, .ref m29, .ref m30, .ref m31])), (m7, .inl (y7, 96, .inl f7)), (m29, .inl (y29, 8, .inl f29)), (m30, .inl (y30, 4, .inl (upd f30 0 (-1)))), (m31, .inl (y31, 4, .inl f31))] H := hP
  have hD : va_D A [(mo, .inr (6, [.int th, .int tm, .int (nI sr), .int (nI nc), .ref m4, .ref m5, .ref m6, .ref m7, .ref m8, .ref m9, .ref m10, .ref m11, .ref m12, .int pw, .int rn, .int (nI no), .ref m16, .ref m17, .ref m18, .int (nI bz), .int (nI dg), .int (nI db), .int (nI df), .int (nI sp), .int tg, .int lf, .int mm, .ref m27, .int fo, .ref m29, .ref m30, .ref m31])), (m7, .inl (y7, 96, .inl f7)), (m29, .inl (y29, 8, .inl f29)), (m30, .inl (y30, 4, .inl (upd f30 0 (-1)))), (m31, .inl (y31, 4, .inl f31))] := hD
  refine lv_iconst (v := 0) hx hb dX8_goes_19 (by decide) ?_
  refine lv_istore (lv' := [(4, .int 0), (3, .int 0), (0, .ref mo), (1, .int (nI tg9)), (2, .int 3)]) hx hb dX8_goes_20 hl (by decide) rfl (fun ls hl => ?_)
  refine pt_loopM (fun mu H locs ls => ∃ (kk : Nat) (kx gd : Int32) (h7 h29 h30 h31 : Nat → Int32) (jj t0 t1 t2 : Nat), lv_has ls 6 [(4, .int gd), (3, .int kx), (0, .ref mo), (1, .int (nI tg9)), (2, .int 3)] ∧ (kk ≤ 3) ∧ (kx = pI kk) ∧ ((gd = 0 ∨ gd = 1)) ∧ (mdo h29 (tg9 / 24) f7 jj h7) ∧ (mD h31 jj) ∧ (t0 ≤ 576 ∧ t1 ≤ 576 ∧ t2 ≤ 576) ∧ ((1 ≤ kk → h30 0 = pI t0) ∧ (2 ≤ kk → h30 1 = pI t1) ∧ (3 ≤ kk → h30 2 = pI t2)) ∧ ((kk = 0 → jj = 0) ∧ (1 ≤ kk → jj + 1 = kk ∨ jj = kk)) ∧ ((gd = 1 → jj = 3)) ∧ ((kk = 0 → mu = 0) ∧ (kk = 1 → mu = (577 - t0) * 1000000) ∧ (kk = 2 → mu = (577 - t0) * 1000000 + (577 - t1) * 1000) ∧ (kk = 3 → mu = (577 - t0) * 1000000 + (577 - t1) * 1000 + (577 - t2))) ∧ ((∀ i, mC (h7 i))) ∧ va_P (dC, dI) vwCl [(mo, .inr (6, [.int th, .int tm, .int (nI sr), .int (nI nc), .ref m4, .ref m5, .ref m6, .ref m7, .ref m8, .ref m9, .ref m10, .ref m11, .ref m12, .int pw, .int rn, .int (nI no), .ref m16, .ref m17, .ref m18, .int (nI bz), .int (nI dg), .int (nI db), .int (nI df), .int (nI sp), .int tg, .int lf, .int mm, .ref m27, .int fo, .ref m29, .ref m30, .ref m31])), (m7, .inl (y7, 96, .inl h7)), (m29, .inl (y29, 8, .inl h29)), (m30, .inl (y30, 4, .inl h30)), (m31, .inl (y31, 4, .inl h31))] H ∧ va_D A [(mo, .inr (6, [.int th, .int tm, .int (nI sr), .int (nI nc), .ref m4, .ref m5, .ref m6, .ref m7, .ref m8, .ref m9, .ref m10, .ref m11, .ref m12, .int pw, .int rn, .int (nI no), .ref m16, .ref m17, .ref m18, .int (nI bz), .int (nI dg), .int (nI db), .int (nI df), .int (nI sp), .int tg, .int lf, .int mm, .ref m27, .int fo, .ref m29, .ref m30, .ref m31])), (m7, .inl (y7, 96, .inl h7)), (m29, .inl (y29, 8, .inl h29)), (m30, .inl (y30, 4, .inl h30)), (m31, .inl (y31, 4, .inl h31))] ∧ va_S A s.heap H locs) (fun mu H locs ls hI ih => ?_) (n := 577000000) ⟨1, 0, 0, f7, f29, upd f30 0 (-1), f31, 0, 0, 0, 0, lv_sub hl [0, 1, 2, 3, 4] rfl, by omega, rfl, Or.inl rfl, rfl, mD.z hdn, ⟨by omega, by omega, by omega⟩, ⟨fun _ => pk_us, fun q => absurd q (by decide), fun q => absurd q (by decide)⟩, ⟨fun q => absurd q (by decide), fun _ => Or.inl rfl⟩, fun q => absurd q (by decide), ⟨fun q => absurd q (by decide), fun _ => rfl, fun q => absurd q (by decide), fun q => absurd q (by decide)⟩, hf, hP.sub [0, 1, 2, 3, 4] rfl, hD.sub [0, 1, 2, 3, 4] (by decide) rfl, hS⟩
  obtain ⟨kk, kx, gd, h7, h29, h30, h31, jj, t0, t1, t2, hl, g0, gk, gg, gm, gD, gt, gp, gj, gG, gz, gC, hP, hD, hS⟩ := hI
  subst gk
  obtain ⟨gt0, gt1, gt2⟩ := gt
  rcases gg with rfl | rfl
  · skip
    rcases (show kk = 0 ∨ kk = 1 ∨ kk = 2 ∨ kk = 3 by omega) with rfl | rfl | rfl | rfl
    · skip
      obtain rfl := gj.1 rfl
      have hl : lv_has ls 6 [(4, .int 0), (3, .int (-1)), (0, .ref mo), (1, .int (nI tg9)), (2, .int 3)] := hl
      have hmu : mu = 0 := gz.1 rfl
      refine lv_iload_n hx hb dX8_goes_22 rfl (lv_at hl 1 rfl) ?_
      refine lv_if_lt (tgt := 90) hx hb dX8_goes_23 (by decide) (fun _ => ?_) (fun c => absurd (by decide) c)
      refine lv_iload_n hx hb dX8_goes_90 rfl (lv_at hl 4 rfl) ?_
      refine lv_iconst (v := 1) hx hb dX8_goes_91 (by decide) ?_
      refine lv_isub hx hb dX8_goes_92 ?_
      refine pt_topi 2 (by decide) ?_
      refine lv_istore (lv' := [(5, .int 2), (4, .int 0), (3, .int (-1)), (0, .ref mo), (1, .int (nI tg9)), (2, .int 3)]) hx hb dX8_goes_93 hl (by decide) rfl (fun ls hl => ?_)
      refine lv_iload hx hb dX8_goes_95 (lv_at hl 0 rfl) ?_
      refine lv_if_lt (tgt := 122) hx hb dX8_goes_97 (by decide) (fun c => absurd c (by decide)) (fun _ => ?_)
      refine lv_aload_n hx hb dX8_goes_100 rfl (lv_at hl 3 rfl) ?_
      refine va_get (D := (dC, dI)) (ci := 6) (v := .ref m31) (C := RX8) (T := TX8) (N := 32) hx hb hts iX8 hown hK hP 0 rfl rfl 31 (by decide) (hts (.fieldLink RX8 60 "ParkTowerModel" "isDone" "[Z") (by decide +kernel)) (fun _ h9 => h9) rfl dX8_goes_101 ?_
      refine lv_iload hx hb dX8_goes_104 (lv_at hl 0 rfl) ?_
      refine va_zald hx hb hK hP 4 3 rfl rfl (vp_in_iff.mpr (by decide)) dX8_goes_106 ?_
      refine lv_topi (fun a_1 ea_1 => ?_)
      have ea_1 : a_1 = h31 2 := ea_1
      obtain rfl : a_1 = 0 := ea_1.trans (gD.no (by decide))
      refine lv_if_eq (tgt := 116) hx hb dX8_goes_107 (by decide) (fun _ => ?_) (fun c => absurd (by decide) c)
      refine lv_iinc (v := 1) (lv' := [(5, .int 1), (4, .int 0), (3, .int (-1)), (0, .ref mo), (1, .int (nI tg9)), (2, .int 3)]) hx hb dX8_goes_116 hl (k := 0) rfl (by decide) (by decide) rfl (fun ls hl => ?_)
      refine lv_goto (tgt := 95) hx hb dX8_goes_119 (by decide) ?_
      refine lv_iload hx hb dX8_goes_95 (lv_at hl 0 rfl) ?_
      refine lv_if_lt (tgt := 122) hx hb dX8_goes_97 (by decide) (fun c => absurd c (by decide)) (fun _ => ?_)
      refine lv_aload_n hx hb dX8_goes_100 rfl (lv_at hl 3 rfl) ?_
      refine va_get (D := (dC, dI)) (ci := 6) (v := .ref m31) (C := RX8) (T := TX8) (N := 32) hx hb hts iX8 hown hK hP 0 rfl rfl 31 (by decide) (hts (.fieldLink RX8 60 "ParkTowerModel" "isDone" "[Z") (by decide +kernel)) (fun _ h9 => h9) rfl dX8_goes_101 ?_
      refine lv_iload hx hb dX8_goes_104 (lv_at hl 0 rfl) ?_
      refine va_zald hx hb hK hP 4 3 rfl rfl (vp_in_iff.mpr (by decide)) dX8_goes_106 ?_
      refine lv_topi (fun a_2 ea_2 => ?_)
      have ea_2 : a_2 = h31 1 := ea_2
      obtain rfl : a_2 = 0 := ea_2.trans (gD.no (by decide))
      refine lv_if_eq (tgt := 116) hx hb dX8_goes_107 (by decide) (fun _ => ?_) (fun c => absurd (by decide) c)
      refine lv_iinc (v := 0) (lv' := [(5, .int 0), (4, .int 0), (3, .int (-1)), (0, .ref mo), (1, .int (nI tg9)), (2, .int 3)]) hx hb dX8_goes_116 hl (k := 0) rfl (by decide) (by decide) rfl (fun ls hl => ?_)
      refine lv_goto (tgt := 95) hx hb dX8_goes_119 (by decide) ?_
      refine lv_iload hx hb dX8_goes_95 (lv_at hl 0 rfl) ?_
      refine lv_if_lt (tgt := 122) hx hb dX8_goes_97 (by decide) (fun c => absurd c (by decide)) (fun _ => ?_)
      refine lv_aload_n hx hb dX8_goes_100 rfl (lv_at hl 3 rfl) ?_
      refine va_get (D := (dC, dI)) (ci := 6) (v := .ref m31) (C := RX8) (T := TX8) (N := 32) hx hb hts iX8 hown hK hP 0 rfl rfl 31 (by decide) (hts (.fieldLink RX8 60 "ParkTowerModel" "isDone" "[Z") (by decide +kernel)) (fun _ h9 => h9) rfl dX8_goes_101 ?_
      refine lv_iload hx hb dX8_goes_104 (lv_at hl 0 rfl) ?_
      refine va_zald hx hb hK hP 4 3 rfl rfl (vp_in_iff.mpr (by decide)) dX8_goes_106 ?_
      refine lv_topi (fun a_3 ea_3 => ?_)
      have ea_3 : a_3 = h31 0 := ea_3
      obtain rfl : a_3 = 0 := ea_3.trans (gD.no (by decide))
      refine lv_if_eq (tgt := 116) hx hb dX8_goes_107 (by decide) (fun _ => ?_) (fun c => absurd (by decide) c)
      refine lv_iinc (v := (-1)) (lv' := [(5, .int (-1)), (4, .int 0), (3, .int (-1)), (0, .ref mo), (1, .int (nI tg9)), (2, .int 3)]) hx hb dX8_goes_116 hl (k := 0) rfl (by decide) (by decide) rfl (fun ls hl => ?_)
      refine lv_goto (tgt := 95) hx hb dX8_goes_119 (by decide) ?_
      refine lv_iload hx hb dX8_goes_95 (lv_at hl 0 rfl) ?_
      refine lv_if_lt (tgt := 122) hx hb dX8_goes_97 (by decide) (fun _ => ?_) (fun c => absurd (by decide) c)
      have e9 : h7 = f7 := gm
      rw [e9] at hP hD
      have hP : va_P (dC, dI) vwCl [(mo, .inr (6, [.int th, .int tm, .int (nI sr), .int (nI nc), .ref m4, .ref m5, .ref m6, .ref m7, .ref m8, .ref m9, .ref m10, .ref m11, .ref m12, .int pw, .int rn, .int (nI no), .ref m16, .ref m17, .ref m18, .int (nI bz), .int (nI dg), .int (nI db), .int (nI df), .int (nI sp), .int tg, .int lf, .int mm, .ref m27, .int fo, .ref m29, .ref m30, .ref m31])), (m7, .inl (y7, 96, .inl f7)), (m29, .inl (y29, 8, .inl h29)), (m30, .inl (y30, 4, .inl h30)), (m31, .inl (y31, 4, .inl h31))] H := hP
      have hD : va_D A [(mo, .inr (6, [.int th, .int tm, .int (nI sr), .int (nI nc), .ref m4, .ref m5, .ref m6, .ref m7, .ref m8, .ref m9, .ref m10, .ref m11, .ref m12, .int pw, .int rn, .int (nI no), .ref m16, .ref m17, .ref m18, .int (nI bz), .int (nI dg), .int (nI db), .int (nI df), .int (nI sp), .int tg, .int lf, .int mm, .ref m27, .int fo, .ref m29, .ref m30, .ref m31])), (m7, .inl (y7, 96, .inl f7)), (m29, .inl (y29, 8, .inl h29)), (m30, .inl (y30, 4, .inl h30)), (m31, .inl (y31, 4, .inl h31))] := hD
      refine lv_iload hx hb dX8_goes_122 (lv_at hl 1 rfl) ?_
      have hP9 := hP.sub (ws' := [(mo, .inr (6, [.int th, .int tm, .int (nI sr), .int (nI nc), .ref m4, .ref m5, .ref m6, .ref m7, .ref m8, .ref m9, .ref m10, .ref m11, .ref m12, .int pw, .int rn, .int (nI no), .ref m16, .ref m17, .ref m18, .int (nI bz), .int (nI dg), .int (nI db), .int (nI df), .int (nI sp), .int tg, .int lf, .int mm, .ref m27, .int fo, .ref m29, .ref m30, .ref m31])), (m7, .inl (y7, 96, .inl f7)), (m29, .inl (y29, 8, .inl h29)), (m30, .inl (y30, 4, .inl h30)), (m31, .inl (y31, 4, .inl h31))]) [0, 1, 2, 3, 4] rfl
      have hD9 := hD.sub (ws' := [(mo, .inr (6, [.int th, .int tm, .int (nI sr), .int (nI nc), .ref m4, .ref m5, .ref m6, .ref m7, .ref m8, .ref m9, .ref m10, .ref m11, .ref m12, .int pw, .int rn, .int (nI no), .ref m16, .ref m17, .ref m18, .int (nI bz), .int (nI dg), .int (nI db), .int (nI df), .int (nI sp), .int tg, .int lf, .int mm, .ref m27, .int fo, .ref m29, .ref m30, .ref m31])), (m7, .inl (y7, 96, .inl f7)), (m29, .inl (y29, 8, .inl h29)), (m30, .inl (y30, 4, .inl h30)), (m31, .inl (y31, 4, .inl h31))]) [0, 1, 2, 3, 4] (by decide) rfl
      have hK9 := hK.sub (tys' := []) [] rfl
      refine W.widen (k := 0) (n := 0) (by omega) (by omega) ?_
      exact W.zret (v := 0) (ty := .boolean) hx hb hr rfl (fun t ht hW => ⟨⟨0, (fun q_ => ([] : List Int32).getD q_ 0, fun q_ => ([] : List Nat).getD q_ 0, fun q_ => ([h29, h30, h31] : List (Nat → Int32)).getD q_ (fun _ => 0)), rfl, ⟨Or.inl rfl, mD.o gD⟩, by rw [ht]; exact hP9, va_K.moved hW.alike hK9, hD9⟩, hS.F ht⟩) hS.2.2 dX8_goes_124
    · skip
      rcases (show jj = 0 ∨ jj = 1 by have := gj.2 (by decide); omega) with rfl | rfl
      · skip
        have hl : lv_has ls 6 [(4, .int 0), (3, .int 0), (0, .ref mo), (1, .int (nI tg9)), (2, .int 3)] := hl
        have hmu : mu = (577 - t0) * 1000000 := gz.2.1 rfl
        have gp0 : h30 0 = pI t0 := gp.1 (by decide)
        refine lv_iload_n hx hb dX8_goes_22 rfl (lv_at hl 1 rfl) ?_
        refine lv_if_lt (tgt := 90) hx hb dX8_goes_23 (by decide) (fun c => absurd c (by decide)) (fun _ => ?_)
        refine lv_iload hx hb dX8_goes_26 (lv_at hl 0 rfl) ?_
        refine lv_if_ne (tgt := 90) hx hb dX8_goes_28 (by decide) (fun c => absurd (by decide) c) (fun _ => ?_)
        refine lv_aload_n hx hb dX8_goes_31 rfl (lv_at hl 2 rfl) ?_
        refine va_get (D := (dC, dI)) (ci := 6) (v := .ref m31) (C := RX8) (T := TX8) (N := 32) hx hb hts iX8 hown hK hP 0 rfl rfl 31 (by decide) (hts (.fieldLink RX8 60 "ParkTowerModel" "isDone" "[Z") (by decide +kernel)) (fun _ h9 => h9) rfl dX8_goes_32 ?_
        refine lv_iload_n hx hb dX8_goes_35 rfl (lv_at hl 1 rfl) ?_
        refine va_zald hx hb hK hP 4 3 rfl rfl (vp_in_iff.mpr (by decide)) dX8_goes_36 ?_
        refine lv_topi (fun a_4 ea_4 => ?_)
        have ea_4 : a_4 = h31 0 := ea_4
        obtain rfl : a_4 = 0 := ea_4.trans (gD.no (by decide))
        refine lv_if_eq (tgt := 45) hx hb dX8_goes_37 (by decide) (fun _ => ?_) (fun c => absurd (by decide) c)
        refine lv_aload_n hx hb dX8_goes_45 rfl (lv_at hl 2 rfl) ?_
        refine lv_iload_n hx hb dX8_goes_46 rfl (lv_at hl 3 rfl) ?_
        refine lv_iload_n hx hb dX8_goes_47 rfl (lv_at hl 1 rfl) ?_
        have hPc := hP.sub (ws' := [(mo, .inr (6, [.int th, .int tm, .int (nI sr), .int (nI nc), .ref m4, .ref m5, .ref m6, .ref m7, .ref m8, .ref m9, .ref m10, .ref m11, .ref m12, .int pw, .int rn, .int (nI no), .ref m16, .ref m17, .ref m18, .int (nI bz), .int (nI dg), .int (nI db), .int (nI df), .int (nI sp), .int tg, .int lf, .int mm, .ref m27, .int fo, .ref m29, .ref m30, .ref m31])), (m7, .inl (y7, 96, .inl h7)), (m29, .inl (y29, 8, .inl h29)), (m30, .inl (y30, 4, .inl h30)), (m31, .inl (y31, 4, .inl h31))]) [0, 1, 2, 3, 4] rfl
        have hDc := hD.sub (ws' := [(mo, .inr (6, [.int th, .int tm, .int (nI sr), .int (nI nc), .ref m4, .ref m5, .ref m6, .ref m7, .ref m8, .ref m9, .ref m10, .ref m11, .ref m12, .int pw, .int rn, .int (nI no), .ref m16, .ref m17, .ref m18, .int (nI bz), .int (nI dg), .int (nI db), .int (nI df), .int (nI sp), .int tg, .int lf, .int mm, .ref m27, .int fo, .ref m29, .ref m30, .ref m31])), (m7, .inl (y7, 96, .inl h7)), (m29, .inl (y29, 8, .inl h29)), (m30, .inl (y30, 4, .inl h30)), (m31, .inl (y31, 4, .inl h31))]) [0, 1, 2, 3, 4] (by decide) rfl
        have hKc := hK.sub (tys' := [(y7, .int), (y29, .int), (y30, .int), (y31, .boolean)]) [0, 1, 2, 3] rfl
        have hFc := va_free (wc := [(mo, .inr (6, [.int th, .int tm, .int (nI sr), .int (nI nc), .ref m4, .ref m5, .ref m6, .ref m7, .ref m8, .ref m9, .ref m10, .ref m11, .ref m12, .int pw, .int rn, .int (nI no), .ref m16, .ref m17, .ref m18, .int (nI bz), .int (nI dg), .int (nI db), .int (nI df), .int (nI sp), .int tg, .int lf, .int mm, .ref m27, .int fo, .ref m29, .ref m30, .ref m31])), (m7, .inl (y7, 96, .inl h7)), (m29, .inl (y29, 8, .inl h29)), (m30, .inl (y30, 4, .inl h30)), (m31, .inl (y31, 4, .inl h31))]) hD hS hA [0, 1, 2, 3, 4] rfl
        refine va_calli (va_runV (As := [.int (nI tg9), .int 0]) (rest := []) ⟨hx, hb, hml, hown, hts⟩ (m_turns l dC dI _ mo m4 m5 m6 m7 m8 m9 m10 m11 m12 m16 m17 m18 m27 m29 m30 m31 th tm pw rn tg lf mm fo sr nc no bz dg db df sp y7 y29 y30 y31 h7 h29 h30 h31 tg9 0 t0 htg (by decide) (by omega) gp0 gC) (cwV 2 hts gX8_goes_X8_turns rfl rfl rfl (by decide +kernel) ⟨Nat.le_of_ble_eq_true rfl, Nat.le_of_ble_eq_true rfl⟩) ⟨pt_blindQ, va_recv hK hP (ci := 6) (q0 := 0) rfl rfl, pt_preQ hPc hKc hDc hN⟩ rfl rfl hl.1 rfl (lv_room (Nat.le_of_ble_eq_true rfl)) dX8_goes_48 ⟨Nat.le_of_ble_eq_true rfl, Nat.le_of_ble_eq_true rfl⟩) hS (fun q _ h => hFc q h) hFc (fun r_5 u_5 t H1 locs ht hvm hw_5 hB hz1 hk1 hS => ?_)
        obtain ⟨v_5, n_5, F_5⟩ := u_5
        obtain ⟨hP1, hK1, hD1⟩ := hB
        try dsimp only at hw_5
        rw [ht] at hP1
        have hK1 := va_K.moved hvm.symm hK1
        obtain ⟨hP, hD⟩ := va_join (wr := []) (w1 := [(mo, .inr (6, [.int th, .int tm, .int (nI sr), .int (nI nc), .ref m4, .ref m5, .ref m6, .ref m7, .ref m8, .ref m9, .ref m10, .ref m11, .ref m12, .int pw, .int rn, .int (nI no), .ref m16, .ref m17, .ref m18, .int (nI bz), .int (nI dg), .int (nI db), .int (nI df), .int (nI sp), .int tg, .int lf, .int mm, .ref m27, .int fo, .ref m29, .ref m30, .ref m31])), (m7, .inl (y7, 96, .inl (F_5 0))), (m29, .inl (y29, 8, .inl (F_5 1))), (m30, .inl (y30, 4, .inl (F_5 2))), (m31, .inl (y31, 4, .inl (F_5 3)))]) hP hD [0, 1, 2, 3, 4] [] rfl rfl (by decide) (by decide) hk1 hFc hP1 hD1
        have hK := hK.app hK1
        generalize H1 = H at hP hS ⊢
        have hP : va_P (dC, dI) vwCl [(mo, .inr (6, [.int th, .int tm, .int (nI sr), .int (nI nc), .ref m4, .ref m5, .ref m6, .ref m7, .ref m8, .ref m9, .ref m10, .ref m11, .ref m12, .int pw, .int rn, .int (nI no), .ref m16, .ref m17, .ref m18, .int (nI bz), .int (nI dg), .int (nI db), .int (nI df), .int (nI sp), .int tg, .int lf, .int mm, .ref m27, .int fo, .ref m29, .ref m30, .ref m31])), (m7, .inl (y7, 96, .inl (F_5 0))), (m29, .inl (y29, 8, .inl (F_5 1))), (m30, .inl (y30, 4, .inl (F_5 2))), (m31, .inl (y31, 4, .inl (F_5 3)))] H := hP
        have hD : va_D A [(mo, .inr (6, [.int th, .int tm, .int (nI sr), .int (nI nc), .ref m4, .ref m5, .ref m6, .ref m7, .ref m8, .ref m9, .ref m10, .ref m11, .ref m12, .int pw, .int rn, .int (nI no), .ref m16, .ref m17, .ref m18, .int (nI bz), .int (nI dg), .int (nI db), .int (nI df), .int (nI sp), .int tg, .int lf, .int mm, .ref m27, .int fo, .ref m29, .ref m30, .ref m31])), (m7, .inl (y7, 96, .inl (F_5 0))), (m29, .inl (y29, 8, .inl (F_5 1))), (m30, .inl (y30, 4, .inl (F_5 2))), (m31, .inl (y31, 4, .inl (F_5 3)))] := hD
        have hK : va_K (dC, dI) vwCl [(y7, .int), (y29, .int), (y30, .int), (y31, .boolean)] s := hK
        rcases hw_5 with ⟨rfl, e1_5, e2_5, e3_5, e4_5, e5_5⟩ | ⟨rfl, a_5, b_5, x_5, t_5, e1_5, e2_5, e3_5, e4_5, e5_5, e6_5, e7_5, e8_5, e9_5, e10_5, e11_5, e12_5, e13_5, e14_5, e15_5, e16_5⟩
        · skip
          rw [e1_5, e2_5, e3_5] at hP hD
          have hP : va_P (dC, dI) vwCl [(mo, .inr (6, [.int th, .int tm, .int (nI sr), .int (nI nc), .ref m4, .ref m5, .ref m6, .ref m7, .ref m8, .ref m9, .ref m10, .ref m11, .ref m12, .int pw, .int rn, .int (nI no), .ref m16, .ref m17, .ref m18, .int (nI bz), .int (nI dg), .int (nI db), .int (nI df), .int (nI sp), .int tg, .int lf, .int mm, .ref m27, .int fo, .ref m29, .ref m30, .ref m31])), (m7, .inl (y7, 96, .inl h7)), (m29, .inl (y29, 8, .inl h29)), (m30, .inl (y30, 4, .inl (F_5 2))), (m31, .inl (y31, 4, .inl h31))] H := hP
          have hD : va_D A [(mo, .inr (6, [.int th, .int tm, .int (nI sr), .int (nI nc), .ref m4, .ref m5, .ref m6, .ref m7, .ref m8, .ref m9, .ref m10, .ref m11, .ref m12, .int pw, .int rn, .int (nI no), .ref m16, .ref m17, .ref m18, .int (nI bz), .int (nI dg), .int (nI db), .int (nI df), .int (nI sp), .int tg, .int lf, .int mm, .ref m27, .int fo, .ref m29, .ref m30, .ref m31])), (m7, .inl (y7, 96, .inl h7)), (m29, .inl (y29, 8, .inl h29)), (m30, .inl (y30, 4, .inl (F_5 2))), (m31, .inl (y31, 4, .inl h31))] := hD
          refine lv_if_ne (tgt := 60) hx hb dX8_goes_51 (by decide) (fun c => absurd (by decide) c) (fun _ => ?_)
          refine lv_iinc (v := (-1)) (lv' := [(3, .int (-1)), (4, .int 0), (0, .ref mo), (1, .int (nI tg9)), (2, .int 3)]) hx hb dX8_goes_54 hl (k := 1) rfl (by decide) (by decide) rfl (fun ls hl => ?_)
          refine lv_goto (tgt := 22) hx hb dX8_goes_57 (by decide) ?_
          exact ih (0) H locs ls (by omega) ⟨0, (-1), 0, h7, h29, F_5 2, h31, 0, t0, t1, t2, lv_sub hl [1, 0, 2, 3, 4] rfl, by omega, rfl, Or.inl rfl, gm, gD, ⟨by omega, by omega, by omega⟩, ⟨fun q => absurd q (by decide), fun q => absurd q (by decide), fun q => absurd q (by decide)⟩, ⟨fun _ => rfl, fun q => absurd q (by decide)⟩, fun q => absurd q (by decide), ⟨fun _ => rfl, fun q => absurd q (by decide), fun q => absurd q (by decide), fun q => absurd q (by decide)⟩, gC, hP.sub [0, 1, 2, 3, 4] rfl, hD.sub [0, 1, 2, 3, 4] (by decide) rfl, hS⟩
        · skip
          rw [e14_5, e15_5, e16_5] at hP hD
          have m_5 : mdo (upd h29 0 (nI (100 * a_5 + b_5))) (tg9 / 24) f7 1 (upd (upd h7 b_5 (nI x_5)) a_5 0) := ⟨_, a_5, b_5, x_5, mdo.upd 0 _ (Nat.le_refl _) gm, pk_us, e5_5, e6_5, e7_5, e8_5, e9_5, e10_5, e11_5, e12_5, e13_5, rfl⟩
          have hP : va_P (dC, dI) vwCl [(mo, .inr (6, [.int th, .int tm, .int (nI sr), .int (nI nc), .ref m4, .ref m5, .ref m6, .ref m7, .ref m8, .ref m9, .ref m10, .ref m11, .ref m12, .int pw, .int rn, .int (nI no), .ref m16, .ref m17, .ref m18, .int (nI bz), .int (nI dg), .int (nI db), .int (nI df), .int (nI sp), .int tg, .int lf, .int mm, .ref m27, .int fo, .ref m29, .ref m30, .ref m31])), (m7, .inl (y7, 96, .inl (upd (upd h7 b_5 (nI x_5)) a_5 0))), (m29, .inl (y29, 8, .inl (upd h29 0 (nI (100 * a_5 + b_5))))), (m30, .inl (y30, 4, .inl (F_5 2))), (m31, .inl (y31, 4, .inl (upd h31 0 1)))] H := hP
          have hD : va_D A [(mo, .inr (6, [.int th, .int tm, .int (nI sr), .int (nI nc), .ref m4, .ref m5, .ref m6, .ref m7, .ref m8, .ref m9, .ref m10, .ref m11, .ref m12, .int pw, .int rn, .int (nI no), .ref m16, .ref m17, .ref m18, .int (nI bz), .int (nI dg), .int (nI db), .int (nI df), .int (nI sp), .int tg, .int lf, .int mm, .ref m27, .int fo, .ref m29, .ref m30, .ref m31])), (m7, .inl (y7, 96, .inl (upd (upd h7 b_5 (nI x_5)) a_5 0))), (m29, .inl (y29, 8, .inl (upd h29 0 (nI (100 * a_5 + b_5))))), (m30, .inl (y30, 4, .inl (F_5 2))), (m31, .inl (y31, 4, .inl (upd h31 0 1)))] := hD
          refine lv_if_ne (tgt := 60) hx hb dX8_goes_51 (by decide) (fun _ => ?_) (fun c => absurd c (by decide))
          refine lv_iload_n hx hb dX8_goes_60 rfl (lv_at hl 1 rfl) ?_
          refine lv_iload_n hx hb dX8_goes_61 rfl (lv_at hl 4 rfl) ?_
          refine lv_iconst (v := 1) hx hb dX8_goes_62 (by decide) ?_
          refine lv_isub hx hb dX8_goes_63 ?_
          refine pt_topi 2 (by decide) ?_
          refine lv_icmp_ne (tgt := 77) hx hb dX8_goes_64 (by decide) (fun _ => ?_) (fun c => absurd c (by decide))
          refine lv_iinc (v := 1) (lv' := [(3, .int 1), (4, .int 0), (0, .ref mo), (1, .int (nI tg9)), (2, .int 3)]) hx hb dX8_goes_77 hl (k := 1) rfl (by decide) (by decide) rfl (fun ls hl => ?_)
          refine lv_aload_n hx hb dX8_goes_80 rfl (lv_at hl 2 rfl) ?_
          refine va_get (D := (dC, dI)) (ci := 6) (v := .ref m30) (C := RX8) (T := TX8) (N := 32) hx hb hts iX8 hown hK hP 0 rfl rfl 30 (by decide) (hts (.fieldLink RX8 57 "ParkTowerModel" "pick" "[I") (by decide +kernel)) (fun _ h9 => h9) rfl dX8_goes_81 ?_
          refine lv_iload_n hx hb dX8_goes_84 rfl (lv_at hl 0 rfl) ?_
          refine lv_iconst (v := (-1)) hx hb dX8_goes_85 (by decide) ?_
          refine va_iast hx hb hK hP hD hS 3 2 rfl rfl (vp_in_iff.mpr (by decide)) dX8_goes_86 (fun H locs hP hD hS => ?_)
          have hP : va_P (dC, dI) vwCl [(mo, .inr (6, [.int th, .int tm, .int (nI sr), .int (nI nc), .ref m4, .ref m5, .ref m6, .ref m7, .ref m8, .ref m9, .ref m10, .ref m11, .ref m12, .int pw, .int rn, .int (nI no), .ref m16, .ref m17, .ref m18, .int (nI bz), .int (nI dg), .int (nI db), .int (nI df), .int (nI sp), .int tg, .int lf, .int mm, .ref m27, .int fo, .ref m29, .ref m30, .ref m31])), (m7, .inl (y7, 96, .inl (upd (upd h7 b_5 (nI x_5)) a_5 0))), (m29, .inl (y29, 8, .inl (upd h29 0 (nI (100 * a_5 + b_5))))), (m30, .inl (y30, 4, .inl (upd (F_5 2) 1 (-1)))), (m31, .inl (y31, 4, .inl (upd h31 0 1)))] H := hP
          have hD : va_D A [(mo, .inr (6, [.int th, .int tm, .int (nI sr), .int (nI nc), .ref m4, .ref m5, .ref m6, .ref m7, .ref m8, .ref m9, .ref m10, .ref m11, .ref m12, .int pw, .int rn, .int (nI no), .ref m16, .ref m17, .ref m18, .int (nI bz), .int (nI dg), .int (nI db), .int (nI df), .int (nI sp), .int tg, .int lf, .int mm, .ref m27, .int fo, .ref m29, .ref m30, .ref m31])), (m7, .inl (y7, 96, .inl (upd (upd h7 b_5 (nI x_5)) a_5 0))), (m29, .inl (y29, 8, .inl (upd h29 0 (nI (100 * a_5 + b_5))))), (m30, .inl (y30, 4, .inl (upd (F_5 2) 1 (-1)))), (m31, .inl (y31, 4, .inl (upd h31 0 1)))] := hD
          refine lv_goto (tgt := 22) hx hb dX8_goes_87 (by decide) ?_
          exact ih ((577 - t_5) * 1000000 + (577 - 0) * 1000) H locs ls (by omega) ⟨2, 1, 0, upd (upd h7 b_5 (nI x_5)) a_5 0, upd h29 0 (nI (100 * a_5 + b_5)), upd (F_5 2) 1 (-1), upd h31 0 1, 1, t_5, 0, t2, lv_sub hl [1, 0, 2, 3, 4] rfl, by omega, rfl, Or.inl rfl, m_5, mD.up gD, ⟨by omega, by omega, by omega⟩, ⟨fun _ => (pk_un (by decide)).trans (e3_5), fun _ => pk_us, fun q => absurd q (by decide)⟩, ⟨fun q => absurd q (by decide), fun _ => Or.inl rfl⟩, fun q => absurd q (by decide), ⟨fun q => absurd q (by decide), fun q => absurd q (by decide), fun _ => rfl, fun q => absurd q (by decide)⟩, mC_moved gC e12_5, hP.sub [0, 1, 2, 3, 4] rfl, hD.sub [0, 1, 2, 3, 4] (by decide) rfl, hS⟩
      · skip
        have hl : lv_has ls 6 [(4, .int 0), (3, .int 0), (0, .ref mo), (1, .int (nI tg9)), (2, .int 3)] := hl
        have hmu : mu = (577 - t0) * 1000000 := gz.2.1 rfl
        have gp0 : h30 0 = pI t0 := gp.1 (by decide)
        refine lv_iload_n hx hb dX8_goes_22 rfl (lv_at hl 1 rfl) ?_
        refine lv_if_lt (tgt := 90) hx hb dX8_goes_23 (by decide) (fun c => absurd c (by decide)) (fun _ => ?_)
        refine lv_iload hx hb dX8_goes_26 (lv_at hl 0 rfl) ?_
        refine lv_if_ne (tgt := 90) hx hb dX8_goes_28 (by decide) (fun c => absurd (by decide) c) (fun _ => ?_)
        refine lv_aload_n hx hb dX8_goes_31 rfl (lv_at hl 2 rfl) ?_
        refine va_get (D := (dC, dI)) (ci := 6) (v := .ref m31) (C := RX8) (T := TX8) (N := 32) hx hb hts iX8 hown hK hP 0 rfl rfl 31 (by decide) (hts (.fieldLink RX8 60 "ParkTowerModel" "isDone" "[Z") (by decide +kernel)) (fun _ h9 => h9) rfl dX8_goes_32 ?_
        refine lv_iload_n hx hb dX8_goes_35 rfl (lv_at hl 1 rfl) ?_
        refine va_zald hx hb hK hP 4 3 rfl rfl (vp_in_iff.mpr (by decide)) dX8_goes_36 ?_
        refine lv_topi (fun a_6 ea_6 => ?_)
        have ea_6 : a_6 = h31 0 := ea_6
        obtain rfl : a_6 = 1 := ea_6.trans (gD.yes (by decide))
        refine lv_if_eq (tgt := 45) hx hb dX8_goes_37 (by decide) (fun c => absurd c (by decide)) (fun _ => ?_)
        refine lv_aload_n hx hb dX8_goes_40 rfl (lv_at hl 2 rfl) ?_
        refine lv_iload_n hx hb dX8_goes_41 rfl (lv_at hl 1 rfl) ?_
        obtain ⟨h_7, a_7, b_7, x_7, m_7, i1_7, i2_7, i3_7, i4_7, i5_7, i6_7, i7_7, i8_7, i9_7, i10_7, i11_7⟩ := gm
        have hPc := hP.sub (ws' := [(mo, .inr (6, [.int th, .int tm, .int (nI sr), .int (nI nc), .ref m4, .ref m5, .ref m6, .ref m7, .ref m8, .ref m9, .ref m10, .ref m11, .ref m12, .int pw, .int rn, .int (nI no), .ref m16, .ref m17, .ref m18, .int (nI bz), .int (nI dg), .int (nI db), .int (nI df), .int (nI sp), .int tg, .int lf, .int mm, .ref m27, .int fo, .ref m29, .ref m30, .ref m31])), (m7, .inl (y7, 96, .inl h7)), (m29, .inl (y29, 8, .inl h29)), (m31, .inl (y31, 4, .inl h31))]) [0, 1, 2, 4] rfl
        have hDc := hD.sub (ws' := [(mo, .inr (6, [.int th, .int tm, .int (nI sr), .int (nI nc), .ref m4, .ref m5, .ref m6, .ref m7, .ref m8, .ref m9, .ref m10, .ref m11, .ref m12, .int pw, .int rn, .int (nI no), .ref m16, .ref m17, .ref m18, .int (nI bz), .int (nI dg), .int (nI db), .int (nI df), .int (nI sp), .int tg, .int lf, .int mm, .ref m27, .int fo, .ref m29, .ref m30, .ref m31])), (m7, .inl (y7, 96, .inl h7)), (m29, .inl (y29, 8, .inl h29)), (m31, .inl (y31, 4, .inl h31))]) [0, 1, 2, 4] (by decide) rfl
        have hKc := hK.sub (tys' := [(y7, .int), (y29, .int), (y31, .boolean)]) [0, 1, 3] rfl
        have hFc := va_free (wc := [(mo, .inr (6, [.int th, .int tm, .int (nI sr), .int (nI nc), .ref m4, .ref m5, .ref m6, .ref m7, .ref m8, .ref m9, .ref m10, .ref m11, .ref m12, .int pw, .int rn, .int (nI no), .ref m16, .ref m17, .ref m18, .int (nI bz), .int (nI dg), .int (nI db), .int (nI df), .int (nI sp), .int tg, .int lf, .int mm, .ref m27, .int fo, .ref m29, .ref m30, .ref m31])), (m7, .inl (y7, 96, .inl h7)), (m29, .inl (y29, 8, .inl h29)), (m31, .inl (y31, 4, .inl h31))]) hD hS hA [0, 1, 2, 4] rfl
        refine va_callv (va_runV (As := [.int 0]) (rest := []) ⟨hx, hb, hml, hown, hts⟩ (m_undo l dC dI _ mo m4 m5 m6 m7 m8 m9 m10 m11 m12 m16 m17 m18 m27 m29 m30 m31 th tm pw rn tg lf mm fo sr nc no bz dg db df sp y7 y29 y31 h7 h29 h31 0 a_7 b_7 (by omega) i2_7 i3_7 i1_7) (cwV 1 hts gX8_goes_X8_undo rfl rfl rfl (by decide +kernel) ⟨Nat.le_of_ble_eq_true rfl, Nat.le_of_ble_eq_true rfl⟩) ⟨pt_blindQ, va_recv hK hP (ci := 6) (q0 := 0) rfl rfl, pt_preQ hPc hKc hDc hN⟩ rfl rfl hl.1 rfl (lv_room (Nat.le_of_ble_eq_true rfl)) dX8_goes_42 ⟨Nat.le_of_ble_eq_true rfl, Nat.le_of_ble_eq_true rfl⟩) hS (fun q _ h => hFc q h) hFc (fun u_8 t H1 locs ht hvm hw_8 hB hz1 hk1 hS => ?_)
        obtain ⟨v_8, n_8, F_8⟩ := u_8
        obtain ⟨hP1, hK1, hD1⟩ := hB
        try dsimp only at hw_8
        rw [ht] at hP1
        have hK1 := va_K.moved hvm.symm hK1
        obtain ⟨hP, hD⟩ := va_join (wr := [(m30, .inl (y30, 4, .inl h30))]) (w1 := [(mo, .inr (6, [.int th, .int tm, .int (nI sr), .int (nI nc), .ref m4, .ref m5, .ref m6, .ref m7, .ref m8, .ref m9, .ref m10, .ref m11, .ref m12, .int pw, .int rn, .int (nI no), .ref m16, .ref m17, .ref m18, .int (nI bz), .int (nI dg), .int (nI db), .int (nI df), .int (nI sp), .int tg, .int lf, .int mm, .ref m27, .int fo, .ref m29, .ref m30, .ref m31])), (m7, .inl (y7, 96, .inl (upd (upd h7 a_7 (h7 b_7)) b_7 0))), (m29, .inl (y29, 8, .inl h29)), (m31, .inl (y31, 4, .inl (upd h31 0 0)))]) hP hD [0, 1, 2, 4] [3] rfl rfl (by decide) (by decide) hk1 hFc hP1 hD1
        have hK := hK.app hK1
        generalize H1 = H at hP hS ⊢
        have hP : va_P (dC, dI) vwCl [(m30, .inl (y30, 4, .inl h30)), (mo, .inr (6, [.int th, .int tm, .int (nI sr), .int (nI nc), .ref m4, .ref m5, .ref m6, .ref m7, .ref m8, .ref m9, .ref m10, .ref m11, .ref m12, .int pw, .int rn, .int (nI no), .ref m16, .ref m17, .ref m18, .int (nI bz), .int (nI dg), .int (nI db), .int (nI df), .int (nI sp), .int tg, .int lf, .int mm, .ref m27, .int fo, .ref m29, .ref m30, .ref m31])), (m7, .inl (y7, 96, .inl (upd (upd h7 a_7 (h7 b_7)) b_7 0))), (m29, .inl (y29, 8, .inl h29)), (m31, .inl (y31, 4, .inl (upd h31 0 0)))] H := hP
        have hD : va_D A [(m30, .inl (y30, 4, .inl h30)), (mo, .inr (6, [.int th, .int tm, .int (nI sr), .int (nI nc), .ref m4, .ref m5, .ref m6, .ref m7, .ref m8, .ref m9, .ref m10, .ref m11, .ref m12, .int pw, .int rn, .int (nI no), .ref m16, .ref m17, .ref m18, .int (nI bz), .int (nI dg), .int (nI db), .int (nI df), .int (nI sp), .int tg, .int lf, .int mm, .ref m27, .int fo, .ref m29, .ref m30, .ref m31])), (m7, .inl (y7, 96, .inl (upd (upd h7 a_7 (h7 b_7)) b_7 0))), (m29, .inl (y29, 8, .inl h29)), (m31, .inl (y31, 4, .inl (upd h31 0 0)))] := hD
        have hK : va_K (dC, dI) vwCl [(y7, .int), (y29, .int), (y30, .int), (y31, .boolean)] s := hK
        rw [mundo' i6_7 i7_7 i10_7 i11_7] at hP hD
        have hP : va_P (dC, dI) vwCl [(m30, .inl (y30, 4, .inl h30)), (mo, .inr (6, [.int th, .int tm, .int (nI sr), .int (nI nc), .ref m4, .ref m5, .ref m6, .ref m7, .ref m8, .ref m9, .ref m10, .ref m11, .ref m12, .int pw, .int rn, .int (nI no), .ref m16, .ref m17, .ref m18, .int (nI bz), .int (nI dg), .int (nI db), .int (nI df), .int (nI sp), .int tg, .int lf, .int mm, .ref m27, .int fo, .ref m29, .ref m30, .ref m31])), (m7, .inl (y7, 96, .inl h_7)), (m29, .inl (y29, 8, .inl h29)), (m31, .inl (y31, 4, .inl (upd h31 0 0)))] H := hP
        have hD : va_D A [(m30, .inl (y30, 4, .inl h30)), (mo, .inr (6, [.int th, .int tm, .int (nI sr), .int (nI nc), .ref m4, .ref m5, .ref m6, .ref m7, .ref m8, .ref m9, .ref m10, .ref m11, .ref m12, .int pw, .int rn, .int (nI no), .ref m16, .ref m17, .ref m18, .int (nI bz), .int (nI dg), .int (nI db), .int (nI df), .int (nI sp), .int tg, .int lf, .int mm, .ref m27, .int fo, .ref m29, .ref m30, .ref m31])), (m7, .inl (y7, 96, .inl h_7)), (m29, .inl (y29, 8, .inl h29)), (m31, .inl (y31, 4, .inl (upd h31 0 0)))] := hD
        have C_7 : ∀ i, mC (h_7 i) := fun i => by rw [← mundo' i6_7 i7_7 i10_7 i11_7]; exact s_upd (fun i => s_upd gC (gC _) i) (Or.inr ⟨0, by omega, rfl⟩) i
        refine lv_aload_n hx hb dX8_goes_45 rfl (lv_at hl 2 rfl) ?_
        refine lv_iload_n hx hb dX8_goes_46 rfl (lv_at hl 3 rfl) ?_
        refine lv_iload_n hx hb dX8_goes_47 rfl (lv_at hl 1 rfl) ?_
        have hPc := hP.sub (ws' := [(mo, .inr (6, [.int th, .int tm, .int (nI sr), .int (nI nc), .ref m4, .ref m5, .ref m6, .ref m7, .ref m8, .ref m9, .ref m10, .ref m11, .ref m12, .int pw, .int rn, .int (nI no), .ref m16, .ref m17, .ref m18, .int (nI bz), .int (nI dg), .int (nI db), .int (nI df), .int (nI sp), .int tg, .int lf, .int mm, .ref m27, .int fo, .ref m29, .ref m30, .ref m31])), (m7, .inl (y7, 96, .inl h_7)), (m29, .inl (y29, 8, .inl h29)), (m30, .inl (y30, 4, .inl h30)), (m31, .inl (y31, 4, .inl (upd h31 0 0)))]) [1, 2, 3, 0, 4] rfl
        have hDc := hD.sub (ws' := [(mo, .inr (6, [.int th, .int tm, .int (nI sr), .int (nI nc), .ref m4, .ref m5, .ref m6, .ref m7, .ref m8, .ref m9, .ref m10, .ref m11, .ref m12, .int pw, .int rn, .int (nI no), .ref m16, .ref m17, .ref m18, .int (nI bz), .int (nI dg), .int (nI db), .int (nI df), .int (nI sp), .int tg, .int lf, .int mm, .ref m27, .int fo, .ref m29, .ref m30, .ref m31])), (m7, .inl (y7, 96, .inl h_7)), (m29, .inl (y29, 8, .inl h29)), (m30, .inl (y30, 4, .inl h30)), (m31, .inl (y31, 4, .inl (upd h31 0 0)))]) [1, 2, 3, 0, 4] (by decide) rfl
        have hKc := hK.sub (tys' := [(y7, .int), (y29, .int), (y30, .int), (y31, .boolean)]) [0, 1, 2, 3] rfl
        have hFc := va_free (wc := [(mo, .inr (6, [.int th, .int tm, .int (nI sr), .int (nI nc), .ref m4, .ref m5, .ref m6, .ref m7, .ref m8, .ref m9, .ref m10, .ref m11, .ref m12, .int pw, .int rn, .int (nI no), .ref m16, .ref m17, .ref m18, .int (nI bz), .int (nI dg), .int (nI db), .int (nI df), .int (nI sp), .int tg, .int lf, .int mm, .ref m27, .int fo, .ref m29, .ref m30, .ref m31])), (m7, .inl (y7, 96, .inl h_7)), (m29, .inl (y29, 8, .inl h29)), (m30, .inl (y30, 4, .inl h30)), (m31, .inl (y31, 4, .inl (upd h31 0 0)))]) hD hS hA [1, 2, 3, 0, 4] rfl
        refine va_calli (va_runV (As := [.int (nI tg9), .int 0]) (rest := []) ⟨hx, hb, hml, hown, hts⟩ (m_turns l dC dI _ mo m4 m5 m6 m7 m8 m9 m10 m11 m12 m16 m17 m18 m27 m29 m30 m31 th tm pw rn tg lf mm fo sr nc no bz dg db df sp y7 y29 y30 y31 h_7 h29 h30 (upd h31 0 0) tg9 0 t0 htg (by decide) (by omega) gp0 C_7) (cwV 2 hts gX8_goes_X8_turns rfl rfl rfl (by decide +kernel) ⟨Nat.le_of_ble_eq_true rfl, Nat.le_of_ble_eq_true rfl⟩) ⟨pt_blindQ, va_recv hK hP (ci := 6) (q0 := 1) rfl rfl, pt_preQ hPc hKc hDc hN⟩ rfl rfl hl.1 rfl (lv_room (Nat.le_of_ble_eq_true rfl)) dX8_goes_48 ⟨Nat.le_of_ble_eq_true rfl, Nat.le_of_ble_eq_true rfl⟩) hS (fun q _ h => hFc q h) hFc (fun r_9 u_9 t H1 locs ht hvm hw_9 hB hz1 hk1 hS => ?_)
        obtain ⟨v_9, n_9, F_9⟩ := u_9
        obtain ⟨hP1, hK1, hD1⟩ := hB
        try dsimp only at hw_9
        rw [ht] at hP1
        have hK1 := va_K.moved hvm.symm hK1
        obtain ⟨hP, hD⟩ := va_join (wr := []) (w1 := [(mo, .inr (6, [.int th, .int tm, .int (nI sr), .int (nI nc), .ref m4, .ref m5, .ref m6, .ref m7, .ref m8, .ref m9, .ref m10, .ref m11, .ref m12, .int pw, .int rn, .int (nI no), .ref m16, .ref m17, .ref m18, .int (nI bz), .int (nI dg), .int (nI db), .int (nI df), .int (nI sp), .int tg, .int lf, .int mm, .ref m27, .int fo, .ref m29, .ref m30, .ref m31])), (m7, .inl (y7, 96, .inl (F_9 0))), (m29, .inl (y29, 8, .inl (F_9 1))), (m30, .inl (y30, 4, .inl (F_9 2))), (m31, .inl (y31, 4, .inl (F_9 3)))]) hP hD [1, 2, 3, 0, 4] [] rfl rfl (by decide) (by decide) hk1 hFc hP1 hD1
        have hK := hK.app hK1
        generalize H1 = H at hP hS ⊢
        have hP : va_P (dC, dI) vwCl [(mo, .inr (6, [.int th, .int tm, .int (nI sr), .int (nI nc), .ref m4, .ref m5, .ref m6, .ref m7, .ref m8, .ref m9, .ref m10, .ref m11, .ref m12, .int pw, .int rn, .int (nI no), .ref m16, .ref m17, .ref m18, .int (nI bz), .int (nI dg), .int (nI db), .int (nI df), .int (nI sp), .int tg, .int lf, .int mm, .ref m27, .int fo, .ref m29, .ref m30, .ref m31])), (m7, .inl (y7, 96, .inl (F_9 0))), (m29, .inl (y29, 8, .inl (F_9 1))), (m30, .inl (y30, 4, .inl (F_9 2))), (m31, .inl (y31, 4, .inl (F_9 3)))] H := hP
        have hD : va_D A [(mo, .inr (6, [.int th, .int tm, .int (nI sr), .int (nI nc), .ref m4, .ref m5, .ref m6, .ref m7, .ref m8, .ref m9, .ref m10, .ref m11, .ref m12, .int pw, .int rn, .int (nI no), .ref m16, .ref m17, .ref m18, .int (nI bz), .int (nI dg), .int (nI db), .int (nI df), .int (nI sp), .int tg, .int lf, .int mm, .ref m27, .int fo, .ref m29, .ref m30, .ref m31])), (m7, .inl (y7, 96, .inl (F_9 0))), (m29, .inl (y29, 8, .inl (F_9 1))), (m30, .inl (y30, 4, .inl (F_9 2))), (m31, .inl (y31, 4, .inl (F_9 3)))] := hD
        have hK : va_K (dC, dI) vwCl [(y7, .int), (y29, .int), (y30, .int), (y31, .boolean)] s := hK
        rcases hw_9 with ⟨rfl, e1_9, e2_9, e3_9, e4_9, e5_9⟩ | ⟨rfl, a_9, b_9, x_9, t_9, e1_9, e2_9, e3_9, e4_9, e5_9, e6_9, e7_9, e8_9, e9_9, e10_9, e11_9, e12_9, e13_9, e14_9, e15_9, e16_9⟩
        · skip
          rw [e1_9, e2_9, e3_9] at hP hD
          have hP : va_P (dC, dI) vwCl [(mo, .inr (6, [.int th, .int tm, .int (nI sr), .int (nI nc), .ref m4, .ref m5, .ref m6, .ref m7, .ref m8, .ref m9, .ref m10, .ref m11, .ref m12, .int pw, .int rn, .int (nI no), .ref m16, .ref m17, .ref m18, .int (nI bz), .int (nI dg), .int (nI db), .int (nI df), .int (nI sp), .int tg, .int lf, .int mm, .ref m27, .int fo, .ref m29, .ref m30, .ref m31])), (m7, .inl (y7, 96, .inl h_7)), (m29, .inl (y29, 8, .inl h29)), (m30, .inl (y30, 4, .inl (F_9 2))), (m31, .inl (y31, 4, .inl (upd h31 0 0)))] H := hP
          have hD : va_D A [(mo, .inr (6, [.int th, .int tm, .int (nI sr), .int (nI nc), .ref m4, .ref m5, .ref m6, .ref m7, .ref m8, .ref m9, .ref m10, .ref m11, .ref m12, .int pw, .int rn, .int (nI no), .ref m16, .ref m17, .ref m18, .int (nI bz), .int (nI dg), .int (nI db), .int (nI df), .int (nI sp), .int tg, .int lf, .int mm, .ref m27, .int fo, .ref m29, .ref m30, .ref m31])), (m7, .inl (y7, 96, .inl h_7)), (m29, .inl (y29, 8, .inl h29)), (m30, .inl (y30, 4, .inl (F_9 2))), (m31, .inl (y31, 4, .inl (upd h31 0 0)))] := hD
          refine lv_if_ne (tgt := 60) hx hb dX8_goes_51 (by decide) (fun c => absurd (by decide) c) (fun _ => ?_)
          refine lv_iinc (v := (-1)) (lv' := [(3, .int (-1)), (4, .int 0), (0, .ref mo), (1, .int (nI tg9)), (2, .int 3)]) hx hb dX8_goes_54 hl (k := 1) rfl (by decide) (by decide) rfl (fun ls hl => ?_)
          refine lv_goto (tgt := 22) hx hb dX8_goes_57 (by decide) ?_
          exact ih (0) H locs ls (by omega) ⟨0, (-1), 0, h_7, h29, F_9 2, upd h31 0 0, 0, t0, t1, t2, lv_sub hl [1, 0, 2, 3, 4] rfl, by omega, rfl, Or.inl rfl, m_7, mD.down gD, ⟨by omega, by omega, by omega⟩, ⟨fun q => absurd q (by decide), fun q => absurd q (by decide), fun q => absurd q (by decide)⟩, ⟨fun _ => rfl, fun q => absurd q (by decide)⟩, fun q => absurd q (by decide), ⟨fun _ => rfl, fun q => absurd q (by decide), fun q => absurd q (by decide), fun q => absurd q (by decide)⟩, C_7, hP.sub [0, 1, 2, 3, 4] rfl, hD.sub [0, 1, 2, 3, 4] (by decide) rfl, hS⟩
        · skip
          rw [e14_9, e15_9, e16_9] at hP hD
          have m_9 : mdo (upd h29 0 (nI (100 * a_9 + b_9))) (tg9 / 24) f7 1 (upd (upd h_7 b_9 (nI x_9)) a_9 0) := ⟨_, a_9, b_9, x_9, mdo.upd 0 _ (Nat.le_refl _) m_7, pk_us, e5_9, e6_9, e7_9, e8_9, e9_9, e10_9, e11_9, e12_9, e13_9, rfl⟩
          have hP : va_P (dC, dI) vwCl [(mo, .inr (6, [.int th, .int tm, .int (nI sr), .int (nI nc), .ref m4, .ref m5, .ref m6, .ref m7, .ref m8, .ref m9, .ref m10, .ref m11, .ref m12, .int pw, .int rn, .int (nI no), .ref m16, .ref m17, .ref m18, .int (nI bz), .int (nI dg), .int (nI db), .int (nI df), .int (nI sp), .int tg, .int lf, .int mm, .ref m27, .int fo, .ref m29, .ref m30, .ref m31])), (m7, .inl (y7, 96, .inl (upd (upd h_7 b_9 (nI x_9)) a_9 0))), (m29, .inl (y29, 8, .inl (upd h29 0 (nI (100 * a_9 + b_9))))), (m30, .inl (y30, 4, .inl (F_9 2))), (m31, .inl (y31, 4, .inl (upd (upd h31 0 0) 0 1)))] H := hP
          have hD : va_D A [(mo, .inr (6, [.int th, .int tm, .int (nI sr), .int (nI nc), .ref m4, .ref m5, .ref m6, .ref m7, .ref m8, .ref m9, .ref m10, .ref m11, .ref m12, .int pw, .int rn, .int (nI no), .ref m16, .ref m17, .ref m18, .int (nI bz), .int (nI dg), .int (nI db), .int (nI df), .int (nI sp), .int tg, .int lf, .int mm, .ref m27, .int fo, .ref m29, .ref m30, .ref m31])), (m7, .inl (y7, 96, .inl (upd (upd h_7 b_9 (nI x_9)) a_9 0))), (m29, .inl (y29, 8, .inl (upd h29 0 (nI (100 * a_9 + b_9))))), (m30, .inl (y30, 4, .inl (F_9 2))), (m31, .inl (y31, 4, .inl (upd (upd h31 0 0) 0 1)))] := hD
          refine lv_if_ne (tgt := 60) hx hb dX8_goes_51 (by decide) (fun _ => ?_) (fun c => absurd c (by decide))
          refine lv_iload_n hx hb dX8_goes_60 rfl (lv_at hl 1 rfl) ?_
          refine lv_iload_n hx hb dX8_goes_61 rfl (lv_at hl 4 rfl) ?_
          refine lv_iconst (v := 1) hx hb dX8_goes_62 (by decide) ?_
          refine lv_isub hx hb dX8_goes_63 ?_
          refine pt_topi 2 (by decide) ?_
          refine lv_icmp_ne (tgt := 77) hx hb dX8_goes_64 (by decide) (fun _ => ?_) (fun c => absurd c (by decide))
          refine lv_iinc (v := 1) (lv' := [(3, .int 1), (4, .int 0), (0, .ref mo), (1, .int (nI tg9)), (2, .int 3)]) hx hb dX8_goes_77 hl (k := 1) rfl (by decide) (by decide) rfl (fun ls hl => ?_)
          refine lv_aload_n hx hb dX8_goes_80 rfl (lv_at hl 2 rfl) ?_
          refine va_get (D := (dC, dI)) (ci := 6) (v := .ref m30) (C := RX8) (T := TX8) (N := 32) hx hb hts iX8 hown hK hP 0 rfl rfl 30 (by decide) (hts (.fieldLink RX8 57 "ParkTowerModel" "pick" "[I") (by decide +kernel)) (fun _ h9 => h9) rfl dX8_goes_81 ?_
          refine lv_iload_n hx hb dX8_goes_84 rfl (lv_at hl 0 rfl) ?_
          refine lv_iconst (v := (-1)) hx hb dX8_goes_85 (by decide) ?_
          refine va_iast hx hb hK hP hD hS 3 2 rfl rfl (vp_in_iff.mpr (by decide)) dX8_goes_86 (fun H locs hP hD hS => ?_)
          have hP : va_P (dC, dI) vwCl [(mo, .inr (6, [.int th, .int tm, .int (nI sr), .int (nI nc), .ref m4, .ref m5, .ref m6, .ref m7, .ref m8, .ref m9, .ref m10, .ref m11, .ref m12, .int pw, .int rn, .int (nI no), .ref m16, .ref m17, .ref m18, .int (nI bz), .int (nI dg), .int (nI db), .int (nI df), .int (nI sp), .int tg, .int lf, .int mm, .ref m27, .int fo, .ref m29, .ref m30, .ref m31])), (m7, .inl (y7, 96, .inl (upd (upd h_7 b_9 (nI x_9)) a_9 0))), (m29, .inl (y29, 8, .inl (upd h29 0 (nI (100 * a_9 + b_9))))), (m30, .inl (y30, 4, .inl (upd (F_9 2) 1 (-1)))), (m31, .inl (y31, 4, .inl (upd (upd h31 0 0) 0 1)))] H := hP
          have hD : va_D A [(mo, .inr (6, [.int th, .int tm, .int (nI sr), .int (nI nc), .ref m4, .ref m5, .ref m6, .ref m7, .ref m8, .ref m9, .ref m10, .ref m11, .ref m12, .int pw, .int rn, .int (nI no), .ref m16, .ref m17, .ref m18, .int (nI bz), .int (nI dg), .int (nI db), .int (nI df), .int (nI sp), .int tg, .int lf, .int mm, .ref m27, .int fo, .ref m29, .ref m30, .ref m31])), (m7, .inl (y7, 96, .inl (upd (upd h_7 b_9 (nI x_9)) a_9 0))), (m29, .inl (y29, 8, .inl (upd h29 0 (nI (100 * a_9 + b_9))))), (m30, .inl (y30, 4, .inl (upd (F_9 2) 1 (-1)))), (m31, .inl (y31, 4, .inl (upd (upd h31 0 0) 0 1)))] := hD
          refine lv_goto (tgt := 22) hx hb dX8_goes_87 (by decide) ?_
          exact ih ((577 - t_9) * 1000000 + (577 - 0) * 1000) H locs ls (by omega) ⟨2, 1, 0, upd (upd h_7 b_9 (nI x_9)) a_9 0, upd h29 0 (nI (100 * a_9 + b_9)), upd (F_9 2) 1 (-1), upd (upd h31 0 0) 0 1, 1, t_9, 0, t2, lv_sub hl [1, 0, 2, 3, 4] rfl, by omega, rfl, Or.inl rfl, m_9, mD.up (mD.down gD), ⟨by omega, by omega, by omega⟩, ⟨fun _ => (pk_un (by decide)).trans (e3_9), fun _ => pk_us, fun q => absurd q (by decide)⟩, ⟨fun q => absurd q (by decide), fun _ => Or.inl rfl⟩, fun q => absurd q (by decide), ⟨fun q => absurd q (by decide), fun q => absurd q (by decide), fun _ => rfl, fun q => absurd q (by decide)⟩, mC_moved C_7 e12_9, hP.sub [0, 1, 2, 3, 4] rfl, hD.sub [0, 1, 2, 3, 4] (by decide) rfl, hS⟩
    · skip
      rcases (show jj = 1 ∨ jj = 2 by have := gj.2 (by decide); omega) with rfl | rfl
      · skip
        have hl : lv_has ls 6 [(4, .int 0), (3, .int 1), (0, .ref mo), (1, .int (nI tg9)), (2, .int 3)] := hl
        have hmu : mu = (577 - t0) * 1000000 + (577 - t1) * 1000 := gz.2.2.1 rfl
        have gp0 : h30 0 = pI t0 := gp.1 (by decide)
        have gp1 : h30 1 = pI t1 := gp.2.1 (by decide)
        refine lv_iload_n hx hb dX8_goes_22 rfl (lv_at hl 1 rfl) ?_
        refine lv_if_lt (tgt := 90) hx hb dX8_goes_23 (by decide) (fun c => absurd c (by decide)) (fun _ => ?_)
        refine lv_iload hx hb dX8_goes_26 (lv_at hl 0 rfl) ?_
        refine lv_if_ne (tgt := 90) hx hb dX8_goes_28 (by decide) (fun c => absurd (by decide) c) (fun _ => ?_)
        refine lv_aload_n hx hb dX8_goes_31 rfl (lv_at hl 2 rfl) ?_
        refine va_get (D := (dC, dI)) (ci := 6) (v := .ref m31) (C := RX8) (T := TX8) (N := 32) hx hb hts iX8 hown hK hP 0 rfl rfl 31 (by decide) (hts (.fieldLink RX8 60 "ParkTowerModel" "isDone" "[Z") (by decide +kernel)) (fun _ h9 => h9) rfl dX8_goes_32 ?_
        refine lv_iload_n hx hb dX8_goes_35 rfl (lv_at hl 1 rfl) ?_
        refine va_zald hx hb hK hP 4 3 rfl rfl (vp_in_iff.mpr (by decide)) dX8_goes_36 ?_
        refine lv_topi (fun a_10 ea_10 => ?_)
        have ea_10 : a_10 = h31 1 := ea_10
        obtain rfl : a_10 = 0 := ea_10.trans (gD.no (by decide))
        refine lv_if_eq (tgt := 45) hx hb dX8_goes_37 (by decide) (fun _ => ?_) (fun c => absurd (by decide) c)
        refine lv_aload_n hx hb dX8_goes_45 rfl (lv_at hl 2 rfl) ?_
        refine lv_iload_n hx hb dX8_goes_46 rfl (lv_at hl 3 rfl) ?_
        refine lv_iload_n hx hb dX8_goes_47 rfl (lv_at hl 1 rfl) ?_
        have hPc := hP.sub (ws' := [(mo, .inr (6, [.int th, .int tm, .int (nI sr), .int (nI nc), .ref m4, .ref m5, .ref m6, .ref m7, .ref m8, .ref m9, .ref m10, .ref m11, .ref m12, .int pw, .int rn, .int (nI no), .ref m16, .ref m17, .ref m18, .int (nI bz), .int (nI dg), .int (nI db), .int (nI df), .int (nI sp), .int tg, .int lf, .int mm, .ref m27, .int fo, .ref m29, .ref m30, .ref m31])), (m7, .inl (y7, 96, .inl h7)), (m29, .inl (y29, 8, .inl h29)), (m30, .inl (y30, 4, .inl h30)), (m31, .inl (y31, 4, .inl h31))]) [0, 1, 2, 3, 4] rfl
        have hDc := hD.sub (ws' := [(mo, .inr (6, [.int th, .int tm, .int (nI sr), .int (nI nc), .ref m4, .ref m5, .ref m6, .ref m7, .ref m8, .ref m9, .ref m10, .ref m11, .ref m12, .int pw, .int rn, .int (nI no), .ref m16, .ref m17, .ref m18, .int (nI bz), .int (nI dg), .int (nI db), .int (nI df), .int (nI sp), .int tg, .int lf, .int mm, .ref m27, .int fo, .ref m29, .ref m30, .ref m31])), (m7, .inl (y7, 96, .inl h7)), (m29, .inl (y29, 8, .inl h29)), (m30, .inl (y30, 4, .inl h30)), (m31, .inl (y31, 4, .inl h31))]) [0, 1, 2, 3, 4] (by decide) rfl
        have hKc := hK.sub (tys' := [(y7, .int), (y29, .int), (y30, .int), (y31, .boolean)]) [0, 1, 2, 3] rfl
        have hFc := va_free (wc := [(mo, .inr (6, [.int th, .int tm, .int (nI sr), .int (nI nc), .ref m4, .ref m5, .ref m6, .ref m7, .ref m8, .ref m9, .ref m10, .ref m11, .ref m12, .int pw, .int rn, .int (nI no), .ref m16, .ref m17, .ref m18, .int (nI bz), .int (nI dg), .int (nI db), .int (nI df), .int (nI sp), .int tg, .int lf, .int mm, .ref m27, .int fo, .ref m29, .ref m30, .ref m31])), (m7, .inl (y7, 96, .inl h7)), (m29, .inl (y29, 8, .inl h29)), (m30, .inl (y30, 4, .inl h30)), (m31, .inl (y31, 4, .inl h31))]) hD hS hA [0, 1, 2, 3, 4] rfl
        refine va_calli (va_runV (As := [.int (nI tg9), .int 1]) (rest := []) ⟨hx, hb, hml, hown, hts⟩ (m_turns l dC dI _ mo m4 m5 m6 m7 m8 m9 m10 m11 m12 m16 m17 m18 m27 m29 m30 m31 th tm pw rn tg lf mm fo sr nc no bz dg db df sp y7 y29 y30 y31 h7 h29 h30 h31 tg9 1 t1 htg (by decide) (by omega) gp1 gC) (cwV 2 hts gX8_goes_X8_turns rfl rfl rfl (by decide +kernel) ⟨Nat.le_of_ble_eq_true rfl, Nat.le_of_ble_eq_true rfl⟩) ⟨pt_blindQ, va_recv hK hP (ci := 6) (q0 := 0) rfl rfl, pt_preQ hPc hKc hDc hN⟩ rfl rfl hl.1 rfl (lv_room (Nat.le_of_ble_eq_true rfl)) dX8_goes_48 ⟨Nat.le_of_ble_eq_true rfl, Nat.le_of_ble_eq_true rfl⟩) hS (fun q _ h => hFc q h) hFc (fun r_11 u_11 t H1 locs ht hvm hw_11 hB hz1 hk1 hS => ?_)
        obtain ⟨v_11, n_11, F_11⟩ := u_11
        obtain ⟨hP1, hK1, hD1⟩ := hB
        try dsimp only at hw_11
        rw [ht] at hP1
        have hK1 := va_K.moved hvm.symm hK1
        obtain ⟨hP, hD⟩ := va_join (wr := []) (w1 := [(mo, .inr (6, [.int th, .int tm, .int (nI sr), .int (nI nc), .ref m4, .ref m5, .ref m6, .ref m7, .ref m8, .ref m9, .ref m10, .ref m11, .ref m12, .int pw, .int rn, .int (nI no), .ref m16, .ref m17, .ref m18, .int (nI bz), .int (nI dg), .int (nI db), .int (nI df), .int (nI sp), .int tg, .int lf, .int mm, .ref m27, .int fo, .ref m29, .ref m30, .ref m31])), (m7, .inl (y7, 96, .inl (F_11 0))), (m29, .inl (y29, 8, .inl (F_11 1))), (m30, .inl (y30, 4, .inl (F_11 2))), (m31, .inl (y31, 4, .inl (F_11 3)))]) hP hD [0, 1, 2, 3, 4] [] rfl rfl (by decide) (by decide) hk1 hFc hP1 hD1
        have hK := hK.app hK1
        generalize H1 = H at hP hS ⊢
        have hP : va_P (dC, dI) vwCl [(mo, .inr (6, [.int th, .int tm, .int (nI sr), .int (nI nc), .ref m4, .ref m5, .ref m6, .ref m7, .ref m8, .ref m9, .ref m10, .ref m11, .ref m12, .int pw, .int rn, .int (nI no), .ref m16, .ref m17, .ref m18, .int (nI bz), .int (nI dg), .int (nI db), .int (nI df), .int (nI sp), .int tg, .int lf, .int mm, .ref m27, .int fo, .ref m29, .ref m30, .ref m31])), (m7, .inl (y7, 96, .inl (F_11 0))), (m29, .inl (y29, 8, .inl (F_11 1))), (m30, .inl (y30, 4, .inl (F_11 2))), (m31, .inl (y31, 4, .inl (F_11 3)))] H := hP
        have hD : va_D A [(mo, .inr (6, [.int th, .int tm, .int (nI sr), .int (nI nc), .ref m4, .ref m5, .ref m6, .ref m7, .ref m8, .ref m9, .ref m10, .ref m11, .ref m12, .int pw, .int rn, .int (nI no), .ref m16, .ref m17, .ref m18, .int (nI bz), .int (nI dg), .int (nI db), .int (nI df), .int (nI sp), .int tg, .int lf, .int mm, .ref m27, .int fo, .ref m29, .ref m30, .ref m31])), (m7, .inl (y7, 96, .inl (F_11 0))), (m29, .inl (y29, 8, .inl (F_11 1))), (m30, .inl (y30, 4, .inl (F_11 2))), (m31, .inl (y31, 4, .inl (F_11 3)))] := hD
        have hK : va_K (dC, dI) vwCl [(y7, .int), (y29, .int), (y30, .int), (y31, .boolean)] s := hK
        rcases hw_11 with ⟨rfl, e1_11, e2_11, e3_11, e4_11, e5_11⟩ | ⟨rfl, a_11, b_11, x_11, t_11, e1_11, e2_11, e3_11, e4_11, e5_11, e6_11, e7_11, e8_11, e9_11, e10_11, e11_11, e12_11, e13_11, e14_11, e15_11, e16_11⟩
        · skip
          rw [e1_11, e2_11, e3_11] at hP hD
          have hP : va_P (dC, dI) vwCl [(mo, .inr (6, [.int th, .int tm, .int (nI sr), .int (nI nc), .ref m4, .ref m5, .ref m6, .ref m7, .ref m8, .ref m9, .ref m10, .ref m11, .ref m12, .int pw, .int rn, .int (nI no), .ref m16, .ref m17, .ref m18, .int (nI bz), .int (nI dg), .int (nI db), .int (nI df), .int (nI sp), .int tg, .int lf, .int mm, .ref m27, .int fo, .ref m29, .ref m30, .ref m31])), (m7, .inl (y7, 96, .inl h7)), (m29, .inl (y29, 8, .inl h29)), (m30, .inl (y30, 4, .inl (F_11 2))), (m31, .inl (y31, 4, .inl h31))] H := hP
          have hD : va_D A [(mo, .inr (6, [.int th, .int tm, .int (nI sr), .int (nI nc), .ref m4, .ref m5, .ref m6, .ref m7, .ref m8, .ref m9, .ref m10, .ref m11, .ref m12, .int pw, .int rn, .int (nI no), .ref m16, .ref m17, .ref m18, .int (nI bz), .int (nI dg), .int (nI db), .int (nI df), .int (nI sp), .int tg, .int lf, .int mm, .ref m27, .int fo, .ref m29, .ref m30, .ref m31])), (m7, .inl (y7, 96, .inl h7)), (m29, .inl (y29, 8, .inl h29)), (m30, .inl (y30, 4, .inl (F_11 2))), (m31, .inl (y31, 4, .inl h31))] := hD
          refine lv_if_ne (tgt := 60) hx hb dX8_goes_51 (by decide) (fun c => absurd (by decide) c) (fun _ => ?_)
          refine lv_iinc (v := 0) (lv' := [(3, .int 0), (4, .int 0), (0, .ref mo), (1, .int (nI tg9)), (2, .int 3)]) hx hb dX8_goes_54 hl (k := 1) rfl (by decide) (by decide) rfl (fun ls hl => ?_)
          refine lv_goto (tgt := 22) hx hb dX8_goes_57 (by decide) ?_
          exact ih ((577 - t0) * 1000000) H locs ls (by omega) ⟨1, 0, 0, h7, h29, F_11 2, h31, 1, t0, t1, t2, lv_sub hl [1, 0, 2, 3, 4] rfl, by omega, rfl, Or.inl rfl, gm, gD, ⟨by omega, by omega, by omega⟩, ⟨fun _ => (e5_11 0 (by decide)).trans gp0, fun q => absurd q (by decide), fun q => absurd q (by decide)⟩, ⟨fun q => absurd q (by decide), fun _ => Or.inr rfl⟩, fun q => absurd q (by decide), ⟨fun q => absurd q (by decide), fun _ => rfl, fun q => absurd q (by decide), fun q => absurd q (by decide)⟩, gC, hP.sub [0, 1, 2, 3, 4] rfl, hD.sub [0, 1, 2, 3, 4] (by decide) rfl, hS⟩
        · skip
          rw [e14_11, e15_11, e16_11] at hP hD
          have m_11 : mdo (upd h29 1 (nI (100 * a_11 + b_11))) (tg9 / 24) f7 2 (upd (upd h7 b_11 (nI x_11)) a_11 0) := ⟨_, a_11, b_11, x_11, mdo.upd 1 _ (Nat.le_refl _) gm, pk_us, e5_11, e6_11, e7_11, e8_11, e9_11, e10_11, e11_11, e12_11, e13_11, rfl⟩
          have hP : va_P (dC, dI) vwCl [(mo, .inr (6, [.int th, .int tm, .int (nI sr), .int (nI nc), .ref m4, .ref m5, .ref m6, .ref m7, .ref m8, .ref m9, .ref m10, .ref m11, .ref m12, .int pw, .int rn, .int (nI no), .ref m16, .ref m17, .ref m18, .int (nI bz), .int (nI dg), .int (nI db), .int (nI df), .int (nI sp), .int tg, .int lf, .int mm, .ref m27, .int fo, .ref m29, .ref m30, .ref m31])), (m7, .inl (y7, 96, .inl (upd (upd h7 b_11 (nI x_11)) a_11 0))), (m29, .inl (y29, 8, .inl (upd h29 1 (nI (100 * a_11 + b_11))))), (m30, .inl (y30, 4, .inl (F_11 2))), (m31, .inl (y31, 4, .inl (upd h31 1 1)))] H := hP
          have hD : va_D A [(mo, .inr (6, [.int th, .int tm, .int (nI sr), .int (nI nc), .ref m4, .ref m5, .ref m6, .ref m7, .ref m8, .ref m9, .ref m10, .ref m11, .ref m12, .int pw, .int rn, .int (nI no), .ref m16, .ref m17, .ref m18, .int (nI bz), .int (nI dg), .int (nI db), .int (nI df), .int (nI sp), .int tg, .int lf, .int mm, .ref m27, .int fo, .ref m29, .ref m30, .ref m31])), (m7, .inl (y7, 96, .inl (upd (upd h7 b_11 (nI x_11)) a_11 0))), (m29, .inl (y29, 8, .inl (upd h29 1 (nI (100 * a_11 + b_11))))), (m30, .inl (y30, 4, .inl (F_11 2))), (m31, .inl (y31, 4, .inl (upd h31 1 1)))] := hD
          refine lv_if_ne (tgt := 60) hx hb dX8_goes_51 (by decide) (fun _ => ?_) (fun c => absurd c (by decide))
          refine lv_iload_n hx hb dX8_goes_60 rfl (lv_at hl 1 rfl) ?_
          refine lv_iload_n hx hb dX8_goes_61 rfl (lv_at hl 4 rfl) ?_
          refine lv_iconst (v := 1) hx hb dX8_goes_62 (by decide) ?_
          refine lv_isub hx hb dX8_goes_63 ?_
          refine pt_topi 2 (by decide) ?_
          refine lv_icmp_ne (tgt := 77) hx hb dX8_goes_64 (by decide) (fun _ => ?_) (fun c => absurd c (by decide))
          refine lv_iinc (v := 2) (lv' := [(3, .int 2), (4, .int 0), (0, .ref mo), (1, .int (nI tg9)), (2, .int 3)]) hx hb dX8_goes_77 hl (k := 1) rfl (by decide) (by decide) rfl (fun ls hl => ?_)
          refine lv_aload_n hx hb dX8_goes_80 rfl (lv_at hl 2 rfl) ?_
          refine va_get (D := (dC, dI)) (ci := 6) (v := .ref m30) (C := RX8) (T := TX8) (N := 32) hx hb hts iX8 hown hK hP 0 rfl rfl 30 (by decide) (hts (.fieldLink RX8 57 "ParkTowerModel" "pick" "[I") (by decide +kernel)) (fun _ h9 => h9) rfl dX8_goes_81 ?_
          refine lv_iload_n hx hb dX8_goes_84 rfl (lv_at hl 0 rfl) ?_
          refine lv_iconst (v := (-1)) hx hb dX8_goes_85 (by decide) ?_
          refine va_iast hx hb hK hP hD hS 3 2 rfl rfl (vp_in_iff.mpr (by decide)) dX8_goes_86 (fun H locs hP hD hS => ?_)
          have hP : va_P (dC, dI) vwCl [(mo, .inr (6, [.int th, .int tm, .int (nI sr), .int (nI nc), .ref m4, .ref m5, .ref m6, .ref m7, .ref m8, .ref m9, .ref m10, .ref m11, .ref m12, .int pw, .int rn, .int (nI no), .ref m16, .ref m17, .ref m18, .int (nI bz), .int (nI dg), .int (nI db), .int (nI df), .int (nI sp), .int tg, .int lf, .int mm, .ref m27, .int fo, .ref m29, .ref m30, .ref m31])), (m7, .inl (y7, 96, .inl (upd (upd h7 b_11 (nI x_11)) a_11 0))), (m29, .inl (y29, 8, .inl (upd h29 1 (nI (100 * a_11 + b_11))))), (m30, .inl (y30, 4, .inl (upd (F_11 2) 2 (-1)))), (m31, .inl (y31, 4, .inl (upd h31 1 1)))] H := hP
          have hD : va_D A [(mo, .inr (6, [.int th, .int tm, .int (nI sr), .int (nI nc), .ref m4, .ref m5, .ref m6, .ref m7, .ref m8, .ref m9, .ref m10, .ref m11, .ref m12, .int pw, .int rn, .int (nI no), .ref m16, .ref m17, .ref m18, .int (nI bz), .int (nI dg), .int (nI db), .int (nI df), .int (nI sp), .int tg, .int lf, .int mm, .ref m27, .int fo, .ref m29, .ref m30, .ref m31])), (m7, .inl (y7, 96, .inl (upd (upd h7 b_11 (nI x_11)) a_11 0))), (m29, .inl (y29, 8, .inl (upd h29 1 (nI (100 * a_11 + b_11))))), (m30, .inl (y30, 4, .inl (upd (F_11 2) 2 (-1)))), (m31, .inl (y31, 4, .inl (upd h31 1 1)))] := hD
          refine lv_goto (tgt := 22) hx hb dX8_goes_87 (by decide) ?_
          exact ih ((577 - t0) * 1000000 + (577 - t_11) * 1000 + (577 - 0)) H locs ls (by omega) ⟨3, 2, 0, upd (upd h7 b_11 (nI x_11)) a_11 0, upd h29 1 (nI (100 * a_11 + b_11)), upd (F_11 2) 2 (-1), upd h31 1 1, 2, t0, t_11, 0, lv_sub hl [1, 0, 2, 3, 4] rfl, by omega, rfl, Or.inl rfl, m_11, mD.up gD, ⟨by omega, by omega, by omega⟩, ⟨fun _ => (pk_un (by decide)).trans ((e4_11 0 (by decide)).trans gp0), fun _ => (pk_un (by decide)).trans (e3_11), fun _ => pk_us⟩, ⟨fun q => absurd q (by decide), fun _ => Or.inl rfl⟩, fun q => absurd q (by decide), ⟨fun q => absurd q (by decide), fun q => absurd q (by decide), fun q => absurd q (by decide), fun _ => rfl⟩, mC_moved gC e12_11, hP.sub [0, 1, 2, 3, 4] rfl, hD.sub [0, 1, 2, 3, 4] (by decide) rfl, hS⟩
      · skip
        have hl : lv_has ls 6 [(4, .int 0), (3, .int 1), (0, .ref mo), (1, .int (nI tg9)), (2, .int 3)] := hl
        have hmu : mu = (577 - t0) * 1000000 + (577 - t1) * 1000 := gz.2.2.1 rfl
        have gp0 : h30 0 = pI t0 := gp.1 (by decide)
        have gp1 : h30 1 = pI t1 := gp.2.1 (by decide)
        refine lv_iload_n hx hb dX8_goes_22 rfl (lv_at hl 1 rfl) ?_
        refine lv_if_lt (tgt := 90) hx hb dX8_goes_23 (by decide) (fun c => absurd c (by decide)) (fun _ => ?_)
        refine lv_iload hx hb dX8_goes_26 (lv_at hl 0 rfl) ?_
        refine lv_if_ne (tgt := 90) hx hb dX8_goes_28 (by decide) (fun c => absurd (by decide) c) (fun _ => ?_)
        refine lv_aload_n hx hb dX8_goes_31 rfl (lv_at hl 2 rfl) ?_
        refine va_get (D := (dC, dI)) (ci := 6) (v := .ref m31) (C := RX8) (T := TX8) (N := 32) hx hb hts iX8 hown hK hP 0 rfl rfl 31 (by decide) (hts (.fieldLink RX8 60 "ParkTowerModel" "isDone" "[Z") (by decide +kernel)) (fun _ h9 => h9) rfl dX8_goes_32 ?_
        refine lv_iload_n hx hb dX8_goes_35 rfl (lv_at hl 1 rfl) ?_
        refine va_zald hx hb hK hP 4 3 rfl rfl (vp_in_iff.mpr (by decide)) dX8_goes_36 ?_
        refine lv_topi (fun a_12 ea_12 => ?_)
        have ea_12 : a_12 = h31 1 := ea_12
        obtain rfl : a_12 = 1 := ea_12.trans (gD.yes (by decide))
        refine lv_if_eq (tgt := 45) hx hb dX8_goes_37 (by decide) (fun c => absurd c (by decide)) (fun _ => ?_)
        refine lv_aload_n hx hb dX8_goes_40 rfl (lv_at hl 2 rfl) ?_
        refine lv_iload_n hx hb dX8_goes_41 rfl (lv_at hl 1 rfl) ?_
        obtain ⟨h_13, a_13, b_13, x_13, m_13, i1_13, i2_13, i3_13, i4_13, i5_13, i6_13, i7_13, i8_13, i9_13, i10_13, i11_13⟩ := gm
        have hPc := hP.sub (ws' := [(mo, .inr (6, [.int th, .int tm, .int (nI sr), .int (nI nc), .ref m4, .ref m5, .ref m6, .ref m7, .ref m8, .ref m9, .ref m10, .ref m11, .ref m12, .int pw, .int rn, .int (nI no), .ref m16, .ref m17, .ref m18, .int (nI bz), .int (nI dg), .int (nI db), .int (nI df), .int (nI sp), .int tg, .int lf, .int mm, .ref m27, .int fo, .ref m29, .ref m30, .ref m31])), (m7, .inl (y7, 96, .inl h7)), (m29, .inl (y29, 8, .inl h29)), (m31, .inl (y31, 4, .inl h31))]) [0, 1, 2, 4] rfl
        have hDc := hD.sub (ws' := [(mo, .inr (6, [.int th, .int tm, .int (nI sr), .int (nI nc), .ref m4, .ref m5, .ref m6, .ref m7, .ref m8, .ref m9, .ref m10, .ref m11, .ref m12, .int pw, .int rn, .int (nI no), .ref m16, .ref m17, .ref m18, .int (nI bz), .int (nI dg), .int (nI db), .int (nI df), .int (nI sp), .int tg, .int lf, .int mm, .ref m27, .int fo, .ref m29, .ref m30, .ref m31])), (m7, .inl (y7, 96, .inl h7)), (m29, .inl (y29, 8, .inl h29)), (m31, .inl (y31, 4, .inl h31))]) [0, 1, 2, 4] (by decide) rfl
        have hKc := hK.sub (tys' := [(y7, .int), (y29, .int), (y31, .boolean)]) [0, 1, 3] rfl
        have hFc := va_free (wc := [(mo, .inr (6, [.int th, .int tm, .int (nI sr), .int (nI nc), .ref m4, .ref m5, .ref m6, .ref m7, .ref m8, .ref m9, .ref m10, .ref m11, .ref m12, .int pw, .int rn, .int (nI no), .ref m16, .ref m17, .ref m18, .int (nI bz), .int (nI dg), .int (nI db), .int (nI df), .int (nI sp), .int tg, .int lf, .int mm, .ref m27, .int fo, .ref m29, .ref m30, .ref m31])), (m7, .inl (y7, 96, .inl h7)), (m29, .inl (y29, 8, .inl h29)), (m31, .inl (y31, 4, .inl h31))]) hD hS hA [0, 1, 2, 4] rfl
        refine va_callv (va_runV (As := [.int 1]) (rest := []) ⟨hx, hb, hml, hown, hts⟩ (m_undo l dC dI _ mo m4 m5 m6 m7 m8 m9 m10 m11 m12 m16 m17 m18 m27 m29 m30 m31 th tm pw rn tg lf mm fo sr nc no bz dg db df sp y7 y29 y31 h7 h29 h31 1 a_13 b_13 (by omega) i2_13 i3_13 i1_13) (cwV 1 hts gX8_goes_X8_undo rfl rfl rfl (by decide +kernel) ⟨Nat.le_of_ble_eq_true rfl, Nat.le_of_ble_eq_true rfl⟩) ⟨pt_blindQ, va_recv hK hP (ci := 6) (q0 := 0) rfl rfl, pt_preQ hPc hKc hDc hN⟩ rfl rfl hl.1 rfl (lv_room (Nat.le_of_ble_eq_true rfl)) dX8_goes_42 ⟨Nat.le_of_ble_eq_true rfl, Nat.le_of_ble_eq_true rfl⟩) hS (fun q _ h => hFc q h) hFc (fun u_14 t H1 locs ht hvm hw_14 hB hz1 hk1 hS => ?_)
        obtain ⟨v_14, n_14, F_14⟩ := u_14
        obtain ⟨hP1, hK1, hD1⟩ := hB
        try dsimp only at hw_14
        rw [ht] at hP1
        have hK1 := va_K.moved hvm.symm hK1
        obtain ⟨hP, hD⟩ := va_join (wr := [(m30, .inl (y30, 4, .inl h30))]) (w1 := [(mo, .inr (6, [.int th, .int tm, .int (nI sr), .int (nI nc), .ref m4, .ref m5, .ref m6, .ref m7, .ref m8, .ref m9, .ref m10, .ref m11, .ref m12, .int pw, .int rn, .int (nI no), .ref m16, .ref m17, .ref m18, .int (nI bz), .int (nI dg), .int (nI db), .int (nI df), .int (nI sp), .int tg, .int lf, .int mm, .ref m27, .int fo, .ref m29, .ref m30, .ref m31])), (m7, .inl (y7, 96, .inl (upd (upd h7 a_13 (h7 b_13)) b_13 0))), (m29, .inl (y29, 8, .inl h29)), (m31, .inl (y31, 4, .inl (upd h31 1 0)))]) hP hD [0, 1, 2, 4] [3] rfl rfl (by decide) (by decide) hk1 hFc hP1 hD1
        have hK := hK.app hK1
        generalize H1 = H at hP hS ⊢
        have hP : va_P (dC, dI) vwCl [(m30, .inl (y30, 4, .inl h30)), (mo, .inr (6, [.int th, .int tm, .int (nI sr), .int (nI nc), .ref m4, .ref m5, .ref m6, .ref m7, .ref m8, .ref m9, .ref m10, .ref m11, .ref m12, .int pw, .int rn, .int (nI no), .ref m16, .ref m17, .ref m18, .int (nI bz), .int (nI dg), .int (nI db), .int (nI df), .int (nI sp), .int tg, .int lf, .int mm, .ref m27, .int fo, .ref m29, .ref m30, .ref m31])), (m7, .inl (y7, 96, .inl (upd (upd h7 a_13 (h7 b_13)) b_13 0))), (m29, .inl (y29, 8, .inl h29)), (m31, .inl (y31, 4, .inl (upd h31 1 0)))] H := hP
        have hD : va_D A [(m30, .inl (y30, 4, .inl h30)), (mo, .inr (6, [.int th, .int tm, .int (nI sr), .int (nI nc), .ref m4, .ref m5, .ref m6, .ref m7, .ref m8, .ref m9, .ref m10, .ref m11, .ref m12, .int pw, .int rn, .int (nI no), .ref m16, .ref m17, .ref m18, .int (nI bz), .int (nI dg), .int (nI db), .int (nI df), .int (nI sp), .int tg, .int lf, .int mm, .ref m27, .int fo, .ref m29, .ref m30, .ref m31])), (m7, .inl (y7, 96, .inl (upd (upd h7 a_13 (h7 b_13)) b_13 0))), (m29, .inl (y29, 8, .inl h29)), (m31, .inl (y31, 4, .inl (upd h31 1 0)))] := hD
        have hK : va_K (dC, dI) vwCl [(y7, .int), (y29, .int), (y30, .int), (y31, .boolean)] s := hK
        rw [mundo' i6_13 i7_13 i10_13 i11_13] at hP hD
        have hP : va_P (dC, dI) vwCl [(m30, .inl (y30, 4, .inl h30)), (mo, .inr (6, [.int th, .int tm, .int (nI sr), .int (nI nc), .ref m4, .ref m5, .ref m6, .ref m7, .ref m8, .ref m9, .ref m10, .ref m11, .ref m12, .int pw, .int rn, .int (nI no), .ref m16, .ref m17, .ref m18, .int (nI bz), .int (nI dg), .int (nI db), .int (nI df), .int (nI sp), .int tg, .int lf, .int mm, .ref m27, .int fo, .ref m29, .ref m30, .ref m31])), (m7, .inl (y7, 96, .inl h_13)), (m29, .inl (y29, 8, .inl h29)), (m31, .inl (y31, 4, .inl (upd h31 1 0)))] H := hP
        have hD : va_D A [(m30, .inl (y30, 4, .inl h30)), (mo, .inr (6, [.int th, .int tm, .int (nI sr), .int (nI nc), .ref m4, .ref m5, .ref m6, .ref m7, .ref m8, .ref m9, .ref m10, .ref m11, .ref m12, .int pw, .int rn, .int (nI no), .ref m16, .ref m17, .ref m18, .int (nI bz), .int (nI dg), .int (nI db), .int (nI df), .int (nI sp), .int tg, .int lf, .int mm, .ref m27, .int fo, .ref m29, .ref m30, .ref m31])), (m7, .inl (y7, 96, .inl h_13)), (m29, .inl (y29, 8, .inl h29)), (m31, .inl (y31, 4, .inl (upd h31 1 0)))] := hD
        have C_13 : ∀ i, mC (h_13 i) := fun i => by rw [← mundo' i6_13 i7_13 i10_13 i11_13]; exact s_upd (fun i => s_upd gC (gC _) i) (Or.inr ⟨0, by omega, rfl⟩) i
        refine lv_aload_n hx hb dX8_goes_45 rfl (lv_at hl 2 rfl) ?_
        refine lv_iload_n hx hb dX8_goes_46 rfl (lv_at hl 3 rfl) ?_
        refine lv_iload_n hx hb dX8_goes_47 rfl (lv_at hl 1 rfl) ?_
        have hPc := hP.sub (ws' := [(mo, .inr (6, [.int th, .int tm, .int (nI sr), .int (nI nc), .ref m4, .ref m5, .ref m6, .ref m7, .ref m8, .ref m9, .ref m10, .ref m11, .ref m12, .int pw, .int rn, .int (nI no), .ref m16, .ref m17, .ref m18, .int (nI bz), .int (nI dg), .int (nI db), .int (nI df), .int (nI sp), .int tg, .int lf, .int mm, .ref m27, .int fo, .ref m29, .ref m30, .ref m31])), (m7, .inl (y7, 96, .inl h_13)), (m29, .inl (y29, 8, .inl h29)), (m30, .inl (y30, 4, .inl h30)), (m31, .inl (y31, 4, .inl (upd h31 1 0)))]) [1, 2, 3, 0, 4] rfl
        have hDc := hD.sub (ws' := [(mo, .inr (6, [.int th, .int tm, .int (nI sr), .int (nI nc), .ref m4, .ref m5, .ref m6, .ref m7, .ref m8, .ref m9, .ref m10, .ref m11, .ref m12, .int pw, .int rn, .int (nI no), .ref m16, .ref m17, .ref m18, .int (nI bz), .int (nI dg), .int (nI db), .int (nI df), .int (nI sp), .int tg, .int lf, .int mm, .ref m27, .int fo, .ref m29, .ref m30, .ref m31])), (m7, .inl (y7, 96, .inl h_13)), (m29, .inl (y29, 8, .inl h29)), (m30, .inl (y30, 4, .inl h30)), (m31, .inl (y31, 4, .inl (upd h31 1 0)))]) [1, 2, 3, 0, 4] (by decide) rfl
        have hKc := hK.sub (tys' := [(y7, .int), (y29, .int), (y30, .int), (y31, .boolean)]) [0, 1, 2, 3] rfl
        have hFc := va_free (wc := [(mo, .inr (6, [.int th, .int tm, .int (nI sr), .int (nI nc), .ref m4, .ref m5, .ref m6, .ref m7, .ref m8, .ref m9, .ref m10, .ref m11, .ref m12, .int pw, .int rn, .int (nI no), .ref m16, .ref m17, .ref m18, .int (nI bz), .int (nI dg), .int (nI db), .int (nI df), .int (nI sp), .int tg, .int lf, .int mm, .ref m27, .int fo, .ref m29, .ref m30, .ref m31])), (m7, .inl (y7, 96, .inl h_13)), (m29, .inl (y29, 8, .inl h29)), (m30, .inl (y30, 4, .inl h30)), (m31, .inl (y31, 4, .inl (upd h31 1 0)))]) hD hS hA [1, 2, 3, 0, 4] rfl
        refine va_calli (va_runV (As := [.int (nI tg9), .int 1]) (rest := []) ⟨hx, hb, hml, hown, hts⟩ (m_turns l dC dI _ mo m4 m5 m6 m7 m8 m9 m10 m11 m12 m16 m17 m18 m27 m29 m30 m31 th tm pw rn tg lf mm fo sr nc no bz dg db df sp y7 y29 y30 y31 h_13 h29 h30 (upd h31 1 0) tg9 1 t1 htg (by decide) (by omega) gp1 C_13) (cwV 2 hts gX8_goes_X8_turns rfl rfl rfl (by decide +kernel) ⟨Nat.le_of_ble_eq_true rfl, Nat.le_of_ble_eq_true rfl⟩) ⟨pt_blindQ, va_recv hK hP (ci := 6) (q0 := 1) rfl rfl, pt_preQ hPc hKc hDc hN⟩ rfl rfl hl.1 rfl (lv_room (Nat.le_of_ble_eq_true rfl)) dX8_goes_48 ⟨Nat.le_of_ble_eq_true rfl, Nat.le_of_ble_eq_true rfl⟩) hS (fun q _ h => hFc q h) hFc (fun r_15 u_15 t H1 locs ht hvm hw_15 hB hz1 hk1 hS => ?_)
        obtain ⟨v_15, n_15, F_15⟩ := u_15
        obtain ⟨hP1, hK1, hD1⟩ := hB
        try dsimp only at hw_15
        rw [ht] at hP1
        have hK1 := va_K.moved hvm.symm hK1
        obtain ⟨hP, hD⟩ := va_join (wr := []) (w1 := [(mo, .inr (6, [.int th, .int tm, .int (nI sr), .int (nI nc), .ref m4, .ref m5, .ref m6, .ref m7, .ref m8, .ref m9, .ref m10, .ref m11, .ref m12, .int pw, .int rn, .int (nI no), .ref m16, .ref m17, .ref m18, .int (nI bz), .int (nI dg), .int (nI db), .int (nI df), .int (nI sp), .int tg, .int lf, .int mm, .ref m27, .int fo, .ref m29, .ref m30, .ref m31])), (m7, .inl (y7, 96, .inl (F_15 0))), (m29, .inl (y29, 8, .inl (F_15 1))), (m30, .inl (y30, 4, .inl (F_15 2))), (m31, .inl (y31, 4, .inl (F_15 3)))]) hP hD [1, 2, 3, 0, 4] [] rfl rfl (by decide) (by decide) hk1 hFc hP1 hD1
        have hK := hK.app hK1
        generalize H1 = H at hP hS ⊢
        have hP : va_P (dC, dI) vwCl [(mo, .inr (6, [.int th, .int tm, .int (nI sr), .int (nI nc), .ref m4, .ref m5, .ref m6, .ref m7, .ref m8, .ref m9, .ref m10, .ref m11, .ref m12, .int pw, .int rn, .int (nI no), .ref m16, .ref m17, .ref m18, .int (nI bz), .int (nI dg), .int (nI db), .int (nI df), .int (nI sp), .int tg, .int lf, .int mm, .ref m27, .int fo, .ref m29, .ref m30, .ref m31])), (m7, .inl (y7, 96, .inl (F_15 0))), (m29, .inl (y29, 8, .inl (F_15 1))), (m30, .inl (y30, 4, .inl (F_15 2))), (m31, .inl (y31, 4, .inl (F_15 3)))] H := hP
        have hD : va_D A [(mo, .inr (6, [.int th, .int tm, .int (nI sr), .int (nI nc), .ref m4, .ref m5, .ref m6, .ref m7, .ref m8, .ref m9, .ref m10, .ref m11, .ref m12, .int pw, .int rn, .int (nI no), .ref m16, .ref m17, .ref m18, .int (nI bz), .int (nI dg), .int (nI db), .int (nI df), .int (nI sp), .int tg, .int lf, .int mm, .ref m27, .int fo, .ref m29, .ref m30, .ref m31])), (m7, .inl (y7, 96, .inl (F_15 0))), (m29, .inl (y29, 8, .inl (F_15 1))), (m30, .inl (y30, 4, .inl (F_15 2))), (m31, .inl (y31, 4, .inl (F_15 3)))] := hD
        have hK : va_K (dC, dI) vwCl [(y7, .int), (y29, .int), (y30, .int), (y31, .boolean)] s := hK
        rcases hw_15 with ⟨rfl, e1_15, e2_15, e3_15, e4_15, e5_15⟩ | ⟨rfl, a_15, b_15, x_15, t_15, e1_15, e2_15, e3_15, e4_15, e5_15, e6_15, e7_15, e8_15, e9_15, e10_15, e11_15, e12_15, e13_15, e14_15, e15_15, e16_15⟩
        · skip
          rw [e1_15, e2_15, e3_15] at hP hD
          have hP : va_P (dC, dI) vwCl [(mo, .inr (6, [.int th, .int tm, .int (nI sr), .int (nI nc), .ref m4, .ref m5, .ref m6, .ref m7, .ref m8, .ref m9, .ref m10, .ref m11, .ref m12, .int pw, .int rn, .int (nI no), .ref m16, .ref m17, .ref m18, .int (nI bz), .int (nI dg), .int (nI db), .int (nI df), .int (nI sp), .int tg, .int lf, .int mm, .ref m27, .int fo, .ref m29, .ref m30, .ref m31])), (m7, .inl (y7, 96, .inl h_13)), (m29, .inl (y29, 8, .inl h29)), (m30, .inl (y30, 4, .inl (F_15 2))), (m31, .inl (y31, 4, .inl (upd h31 1 0)))] H := hP
          have hD : va_D A [(mo, .inr (6, [.int th, .int tm, .int (nI sr), .int (nI nc), .ref m4, .ref m5, .ref m6, .ref m7, .ref m8, .ref m9, .ref m10, .ref m11, .ref m12, .int pw, .int rn, .int (nI no), .ref m16, .ref m17, .ref m18, .int (nI bz), .int (nI dg), .int (nI db), .int (nI df), .int (nI sp), .int tg, .int lf, .int mm, .ref m27, .int fo, .ref m29, .ref m30, .ref m31])), (m7, .inl (y7, 96, .inl h_13)), (m29, .inl (y29, 8, .inl h29)), (m30, .inl (y30, 4, .inl (F_15 2))), (m31, .inl (y31, 4, .inl (upd h31 1 0)))] := hD
          refine lv_if_ne (tgt := 60) hx hb dX8_goes_51 (by decide) (fun c => absurd (by decide) c) (fun _ => ?_)
          refine lv_iinc (v := 0) (lv' := [(3, .int 0), (4, .int 0), (0, .ref mo), (1, .int (nI tg9)), (2, .int 3)]) hx hb dX8_goes_54 hl (k := 1) rfl (by decide) (by decide) rfl (fun ls hl => ?_)
          refine lv_goto (tgt := 22) hx hb dX8_goes_57 (by decide) ?_
          exact ih ((577 - t0) * 1000000) H locs ls (by omega) ⟨1, 0, 0, h_13, h29, F_15 2, upd h31 1 0, 1, t0, t1, t2, lv_sub hl [1, 0, 2, 3, 4] rfl, by omega, rfl, Or.inl rfl, m_13, mD.down gD, ⟨by omega, by omega, by omega⟩, ⟨fun _ => (e5_15 0 (by decide)).trans gp0, fun q => absurd q (by decide), fun q => absurd q (by decide)⟩, ⟨fun q => absurd q (by decide), fun _ => Or.inr rfl⟩, fun q => absurd q (by decide), ⟨fun q => absurd q (by decide), fun _ => rfl, fun q => absurd q (by decide), fun q => absurd q (by decide)⟩, C_13, hP.sub [0, 1, 2, 3, 4] rfl, hD.sub [0, 1, 2, 3, 4] (by decide) rfl, hS⟩
        · skip
          rw [e14_15, e15_15, e16_15] at hP hD
          have m_15 : mdo (upd h29 1 (nI (100 * a_15 + b_15))) (tg9 / 24) f7 2 (upd (upd h_13 b_15 (nI x_15)) a_15 0) := ⟨_, a_15, b_15, x_15, mdo.upd 1 _ (Nat.le_refl _) m_13, pk_us, e5_15, e6_15, e7_15, e8_15, e9_15, e10_15, e11_15, e12_15, e13_15, rfl⟩
          have hP : va_P (dC, dI) vwCl [(mo, .inr (6, [.int th, .int tm, .int (nI sr), .int (nI nc), .ref m4, .ref m5, .ref m6, .ref m7, .ref m8, .ref m9, .ref m10, .ref m11, .ref m12, .int pw, .int rn, .int (nI no), .ref m16, .ref m17, .ref m18, .int (nI bz), .int (nI dg), .int (nI db), .int (nI df), .int (nI sp), .int tg, .int lf, .int mm, .ref m27, .int fo, .ref m29, .ref m30, .ref m31])), (m7, .inl (y7, 96, .inl (upd (upd h_13 b_15 (nI x_15)) a_15 0))), (m29, .inl (y29, 8, .inl (upd h29 1 (nI (100 * a_15 + b_15))))), (m30, .inl (y30, 4, .inl (F_15 2))), (m31, .inl (y31, 4, .inl (upd (upd h31 1 0) 1 1)))] H := hP
          have hD : va_D A [(mo, .inr (6, [.int th, .int tm, .int (nI sr), .int (nI nc), .ref m4, .ref m5, .ref m6, .ref m7, .ref m8, .ref m9, .ref m10, .ref m11, .ref m12, .int pw, .int rn, .int (nI no), .ref m16, .ref m17, .ref m18, .int (nI bz), .int (nI dg), .int (nI db), .int (nI df), .int (nI sp), .int tg, .int lf, .int mm, .ref m27, .int fo, .ref m29, .ref m30, .ref m31])), (m7, .inl (y7, 96, .inl (upd (upd h_13 b_15 (nI x_15)) a_15 0))), (m29, .inl (y29, 8, .inl (upd h29 1 (nI (100 * a_15 + b_15))))), (m30, .inl (y30, 4, .inl (F_15 2))), (m31, .inl (y31, 4, .inl (upd (upd h31 1 0) 1 1)))] := hD
          refine lv_if_ne (tgt := 60) hx hb dX8_goes_51 (by decide) (fun _ => ?_) (fun c => absurd c (by decide))
          refine lv_iload_n hx hb dX8_goes_60 rfl (lv_at hl 1 rfl) ?_
          refine lv_iload_n hx hb dX8_goes_61 rfl (lv_at hl 4 rfl) ?_
          refine lv_iconst (v := 1) hx hb dX8_goes_62 (by decide) ?_
          refine lv_isub hx hb dX8_goes_63 ?_
          refine pt_topi 2 (by decide) ?_
          refine lv_icmp_ne (tgt := 77) hx hb dX8_goes_64 (by decide) (fun _ => ?_) (fun c => absurd c (by decide))
          refine lv_iinc (v := 2) (lv' := [(3, .int 2), (4, .int 0), (0, .ref mo), (1, .int (nI tg9)), (2, .int 3)]) hx hb dX8_goes_77 hl (k := 1) rfl (by decide) (by decide) rfl (fun ls hl => ?_)
          refine lv_aload_n hx hb dX8_goes_80 rfl (lv_at hl 2 rfl) ?_
          refine va_get (D := (dC, dI)) (ci := 6) (v := .ref m30) (C := RX8) (T := TX8) (N := 32) hx hb hts iX8 hown hK hP 0 rfl rfl 30 (by decide) (hts (.fieldLink RX8 57 "ParkTowerModel" "pick" "[I") (by decide +kernel)) (fun _ h9 => h9) rfl dX8_goes_81 ?_
          refine lv_iload_n hx hb dX8_goes_84 rfl (lv_at hl 0 rfl) ?_
          refine lv_iconst (v := (-1)) hx hb dX8_goes_85 (by decide) ?_
          refine va_iast hx hb hK hP hD hS 3 2 rfl rfl (vp_in_iff.mpr (by decide)) dX8_goes_86 (fun H locs hP hD hS => ?_)
          have hP : va_P (dC, dI) vwCl [(mo, .inr (6, [.int th, .int tm, .int (nI sr), .int (nI nc), .ref m4, .ref m5, .ref m6, .ref m7, .ref m8, .ref m9, .ref m10, .ref m11, .ref m12, .int pw, .int rn, .int (nI no), .ref m16, .ref m17, .ref m18, .int (nI bz), .int (nI dg), .int (nI db), .int (nI df), .int (nI sp), .int tg, .int lf, .int mm, .ref m27, .int fo, .ref m29, .ref m30, .ref m31])), (m7, .inl (y7, 96, .inl (upd (upd h_13 b_15 (nI x_15)) a_15 0))), (m29, .inl (y29, 8, .inl (upd h29 1 (nI (100 * a_15 + b_15))))), (m30, .inl (y30, 4, .inl (upd (F_15 2) 2 (-1)))), (m31, .inl (y31, 4, .inl (upd (upd h31 1 0) 1 1)))] H := hP
          have hD : va_D A [(mo, .inr (6, [.int th, .int tm, .int (nI sr), .int (nI nc), .ref m4, .ref m5, .ref m6, .ref m7, .ref m8, .ref m9, .ref m10, .ref m11, .ref m12, .int pw, .int rn, .int (nI no), .ref m16, .ref m17, .ref m18, .int (nI bz), .int (nI dg), .int (nI db), .int (nI df), .int (nI sp), .int tg, .int lf, .int mm, .ref m27, .int fo, .ref m29, .ref m30, .ref m31])), (m7, .inl (y7, 96, .inl (upd (upd h_13 b_15 (nI x_15)) a_15 0))), (m29, .inl (y29, 8, .inl (upd h29 1 (nI (100 * a_15 + b_15))))), (m30, .inl (y30, 4, .inl (upd (F_15 2) 2 (-1)))), (m31, .inl (y31, 4, .inl (upd (upd h31 1 0) 1 1)))] := hD
          refine lv_goto (tgt := 22) hx hb dX8_goes_87 (by decide) ?_
          exact ih ((577 - t0) * 1000000 + (577 - t_15) * 1000 + (577 - 0)) H locs ls (by omega) ⟨3, 2, 0, upd (upd h_13 b_15 (nI x_15)) a_15 0, upd h29 1 (nI (100 * a_15 + b_15)), upd (F_15 2) 2 (-1), upd (upd h31 1 0) 1 1, 2, t0, t_15, 0, lv_sub hl [1, 0, 2, 3, 4] rfl, by omega, rfl, Or.inl rfl, m_15, mD.up (mD.down gD), ⟨by omega, by omega, by omega⟩, ⟨fun _ => (pk_un (by decide)).trans ((e4_15 0 (by decide)).trans gp0), fun _ => (pk_un (by decide)).trans (e3_15), fun _ => pk_us⟩, ⟨fun q => absurd q (by decide), fun _ => Or.inl rfl⟩, fun q => absurd q (by decide), ⟨fun q => absurd q (by decide), fun q => absurd q (by decide), fun q => absurd q (by decide), fun _ => rfl⟩, mC_moved C_13 e12_15, hP.sub [0, 1, 2, 3, 4] rfl, hD.sub [0, 1, 2, 3, 4] (by decide) rfl, hS⟩
    · skip
      rcases (show jj = 2 ∨ jj = 3 by have := gj.2 (by decide); omega) with rfl | rfl
      · skip
        have hl : lv_has ls 6 [(4, .int 0), (3, .int 2), (0, .ref mo), (1, .int (nI tg9)), (2, .int 3)] := hl
        have hmu : mu = (577 - t0) * 1000000 + (577 - t1) * 1000 + (577 - t2) := gz.2.2.2 rfl
        have gp0 : h30 0 = pI t0 := gp.1 (by decide)
        have gp1 : h30 1 = pI t1 := gp.2.1 (by decide)
        have gp2 : h30 2 = pI t2 := gp.2.2 (by decide)
        refine lv_iload_n hx hb dX8_goes_22 rfl (lv_at hl 1 rfl) ?_
        refine lv_if_lt (tgt := 90) hx hb dX8_goes_23 (by decide) (fun c => absurd c (by decide)) (fun _ => ?_)
        refine lv_iload hx hb dX8_goes_26 (lv_at hl 0 rfl) ?_
        refine lv_if_ne (tgt := 90) hx hb dX8_goes_28 (by decide) (fun c => absurd (by decide) c) (fun _ => ?_)
        refine lv_aload_n hx hb dX8_goes_31 rfl (lv_at hl 2 rfl) ?_
        refine va_get (D := (dC, dI)) (ci := 6) (v := .ref m31) (C := RX8) (T := TX8) (N := 32) hx hb hts iX8 hown hK hP 0 rfl rfl 31 (by decide) (hts (.fieldLink RX8 60 "ParkTowerModel" "isDone" "[Z") (by decide +kernel)) (fun _ h9 => h9) rfl dX8_goes_32 ?_
        refine lv_iload_n hx hb dX8_goes_35 rfl (lv_at hl 1 rfl) ?_
        refine va_zald hx hb hK hP 4 3 rfl rfl (vp_in_iff.mpr (by decide)) dX8_goes_36 ?_
        refine lv_topi (fun a_16 ea_16 => ?_)
        have ea_16 : a_16 = h31 2 := ea_16
        obtain rfl : a_16 = 0 := ea_16.trans (gD.no (by decide))
        refine lv_if_eq (tgt := 45) hx hb dX8_goes_37 (by decide) (fun _ => ?_) (fun c => absurd (by decide) c)
        refine lv_aload_n hx hb dX8_goes_45 rfl (lv_at hl 2 rfl) ?_
        refine lv_iload_n hx hb dX8_goes_46 rfl (lv_at hl 3 rfl) ?_
        refine lv_iload_n hx hb dX8_goes_47 rfl (lv_at hl 1 rfl) ?_
        have hPc := hP.sub (ws' := [(mo, .inr (6, [.int th, .int tm, .int (nI sr), .int (nI nc), .ref m4, .ref m5, .ref m6, .ref m7, .ref m8, .ref m9, .ref m10, .ref m11, .ref m12, .int pw, .int rn, .int (nI no), .ref m16, .ref m17, .ref m18, .int (nI bz), .int (nI dg), .int (nI db), .int (nI df), .int (nI sp), .int tg, .int lf, .int mm, .ref m27, .int fo, .ref m29, .ref m30, .ref m31])), (m7, .inl (y7, 96, .inl h7)), (m29, .inl (y29, 8, .inl h29)), (m30, .inl (y30, 4, .inl h30)), (m31, .inl (y31, 4, .inl h31))]) [0, 1, 2, 3, 4] rfl
        have hDc := hD.sub (ws' := [(mo, .inr (6, [.int th, .int tm, .int (nI sr), .int (nI nc), .ref m4, .ref m5, .ref m6, .ref m7, .ref m8, .ref m9, .ref m10, .ref m11, .ref m12, .int pw, .int rn, .int (nI no), .ref m16, .ref m17, .ref m18, .int (nI bz), .int (nI dg), .int (nI db), .int (nI df), .int (nI sp), .int tg, .int lf, .int mm, .ref m27, .int fo, .ref m29, .ref m30, .ref m31])), (m7, .inl (y7, 96, .inl h7)), (m29, .inl (y29, 8, .inl h29)), (m30, .inl (y30, 4, .inl h30)), (m31, .inl (y31, 4, .inl h31))]) [0, 1, 2, 3, 4] (by decide) rfl
        have hKc := hK.sub (tys' := [(y7, .int), (y29, .int), (y30, .int), (y31, .boolean)]) [0, 1, 2, 3] rfl
        have hFc := va_free (wc := [(mo, .inr (6, [.int th, .int tm, .int (nI sr), .int (nI nc), .ref m4, .ref m5, .ref m6, .ref m7, .ref m8, .ref m9, .ref m10, .ref m11, .ref m12, .int pw, .int rn, .int (nI no), .ref m16, .ref m17, .ref m18, .int (nI bz), .int (nI dg), .int (nI db), .int (nI df), .int (nI sp), .int tg, .int lf, .int mm, .ref m27, .int fo, .ref m29, .ref m30, .ref m31])), (m7, .inl (y7, 96, .inl h7)), (m29, .inl (y29, 8, .inl h29)), (m30, .inl (y30, 4, .inl h30)), (m31, .inl (y31, 4, .inl h31))]) hD hS hA [0, 1, 2, 3, 4] rfl
        refine va_calli (va_runV (As := [.int (nI tg9), .int 2]) (rest := []) ⟨hx, hb, hml, hown, hts⟩ (m_turns l dC dI _ mo m4 m5 m6 m7 m8 m9 m10 m11 m12 m16 m17 m18 m27 m29 m30 m31 th tm pw rn tg lf mm fo sr nc no bz dg db df sp y7 y29 y30 y31 h7 h29 h30 h31 tg9 2 t2 htg (by decide) (by omega) gp2 gC) (cwV 2 hts gX8_goes_X8_turns rfl rfl rfl (by decide +kernel) ⟨Nat.le_of_ble_eq_true rfl, Nat.le_of_ble_eq_true rfl⟩) ⟨pt_blindQ, va_recv hK hP (ci := 6) (q0 := 0) rfl rfl, pt_preQ hPc hKc hDc hN⟩ rfl rfl hl.1 rfl (lv_room (Nat.le_of_ble_eq_true rfl)) dX8_goes_48 ⟨Nat.le_of_ble_eq_true rfl, Nat.le_of_ble_eq_true rfl⟩) hS (fun q _ h => hFc q h) hFc (fun r_17 u_17 t H1 locs ht hvm hw_17 hB hz1 hk1 hS => ?_)
        obtain ⟨v_17, n_17, F_17⟩ := u_17
        obtain ⟨hP1, hK1, hD1⟩ := hB
        try dsimp only at hw_17
        rw [ht] at hP1
        have hK1 := va_K.moved hvm.symm hK1
        obtain ⟨hP, hD⟩ := va_join (wr := []) (w1 := [(mo, .inr (6, [.int th, .int tm, .int (nI sr), .int (nI nc), .ref m4, .ref m5, .ref m6, .ref m7, .ref m8, .ref m9, .ref m10, .ref m11, .ref m12, .int pw, .int rn, .int (nI no), .ref m16, .ref m17, .ref m18, .int (nI bz), .int (nI dg), .int (nI db), .int (nI df), .int (nI sp), .int tg, .int lf, .int mm, .ref m27, .int fo, .ref m29, .ref m30, .ref m31])), (m7, .inl (y7, 96, .inl (F_17 0))), (m29, .inl (y29, 8, .inl (F_17 1))), (m30, .inl (y30, 4, .inl (F_17 2))), (m31, .inl (y31, 4, .inl (F_17 3)))]) hP hD [0, 1, 2, 3, 4] [] rfl rfl (by decide) (by decide) hk1 hFc hP1 hD1
        have hK := hK.app hK1
        generalize H1 = H at hP hS ⊢
        have hP : va_P (dC, dI) vwCl [(mo, .inr (6, [.int th, .int tm, .int (nI sr), .int (nI nc), .ref m4, .ref m5, .ref m6, .ref m7, .ref m8, .ref m9, .ref m10, .ref m11, .ref m12, .int pw, .int rn, .int (nI no), .ref m16, .ref m17, .ref m18, .int (nI bz), .int (nI dg), .int (nI db), .int (nI df), .int (nI sp), .int tg, .int lf, .int mm, .ref m27, .int fo, .ref m29, .ref m30, .ref m31])), (m7, .inl (y7, 96, .inl (F_17 0))), (m29, .inl (y29, 8, .inl (F_17 1))), (m30, .inl (y30, 4, .inl (F_17 2))), (m31, .inl (y31, 4, .inl (F_17 3)))] H := hP
        have hD : va_D A [(mo, .inr (6, [.int th, .int tm, .int (nI sr), .int (nI nc), .ref m4, .ref m5, .ref m6, .ref m7, .ref m8, .ref m9, .ref m10, .ref m11, .ref m12, .int pw, .int rn, .int (nI no), .ref m16, .ref m17, .ref m18, .int (nI bz), .int (nI dg), .int (nI db), .int (nI df), .int (nI sp), .int tg, .int lf, .int mm, .ref m27, .int fo, .ref m29, .ref m30, .ref m31])), (m7, .inl (y7, 96, .inl (F_17 0))), (m29, .inl (y29, 8, .inl (F_17 1))), (m30, .inl (y30, 4, .inl (F_17 2))), (m31, .inl (y31, 4, .inl (F_17 3)))] := hD
        have hK : va_K (dC, dI) vwCl [(y7, .int), (y29, .int), (y30, .int), (y31, .boolean)] s := hK
        rcases hw_17 with ⟨rfl, e1_17, e2_17, e3_17, e4_17, e5_17⟩ | ⟨rfl, a_17, b_17, x_17, t_17, e1_17, e2_17, e3_17, e4_17, e5_17, e6_17, e7_17, e8_17, e9_17, e10_17, e11_17, e12_17, e13_17, e14_17, e15_17, e16_17⟩
        · skip
          rw [e1_17, e2_17, e3_17] at hP hD
          have hP : va_P (dC, dI) vwCl [(mo, .inr (6, [.int th, .int tm, .int (nI sr), .int (nI nc), .ref m4, .ref m5, .ref m6, .ref m7, .ref m8, .ref m9, .ref m10, .ref m11, .ref m12, .int pw, .int rn, .int (nI no), .ref m16, .ref m17, .ref m18, .int (nI bz), .int (nI dg), .int (nI db), .int (nI df), .int (nI sp), .int tg, .int lf, .int mm, .ref m27, .int fo, .ref m29, .ref m30, .ref m31])), (m7, .inl (y7, 96, .inl h7)), (m29, .inl (y29, 8, .inl h29)), (m30, .inl (y30, 4, .inl (F_17 2))), (m31, .inl (y31, 4, .inl h31))] H := hP
          have hD : va_D A [(mo, .inr (6, [.int th, .int tm, .int (nI sr), .int (nI nc), .ref m4, .ref m5, .ref m6, .ref m7, .ref m8, .ref m9, .ref m10, .ref m11, .ref m12, .int pw, .int rn, .int (nI no), .ref m16, .ref m17, .ref m18, .int (nI bz), .int (nI dg), .int (nI db), .int (nI df), .int (nI sp), .int tg, .int lf, .int mm, .ref m27, .int fo, .ref m29, .ref m30, .ref m31])), (m7, .inl (y7, 96, .inl h7)), (m29, .inl (y29, 8, .inl h29)), (m30, .inl (y30, 4, .inl (F_17 2))), (m31, .inl (y31, 4, .inl h31))] := hD
          refine lv_if_ne (tgt := 60) hx hb dX8_goes_51 (by decide) (fun c => absurd (by decide) c) (fun _ => ?_)
          refine lv_iinc (v := 1) (lv' := [(3, .int 1), (4, .int 0), (0, .ref mo), (1, .int (nI tg9)), (2, .int 3)]) hx hb dX8_goes_54 hl (k := 1) rfl (by decide) (by decide) rfl (fun ls hl => ?_)
          refine lv_goto (tgt := 22) hx hb dX8_goes_57 (by decide) ?_
          exact ih ((577 - t0) * 1000000 + (577 - t1) * 1000) H locs ls (by omega) ⟨2, 1, 0, h7, h29, F_17 2, h31, 2, t0, t1, t2, lv_sub hl [1, 0, 2, 3, 4] rfl, by omega, rfl, Or.inl rfl, gm, gD, ⟨by omega, by omega, by omega⟩, ⟨fun _ => (e5_17 0 (by decide)).trans gp0, fun _ => (e5_17 1 (by decide)).trans gp1, fun q => absurd q (by decide)⟩, ⟨fun q => absurd q (by decide), fun _ => Or.inr rfl⟩, fun q => absurd q (by decide), ⟨fun q => absurd q (by decide), fun q => absurd q (by decide), fun _ => rfl, fun q => absurd q (by decide)⟩, gC, hP.sub [0, 1, 2, 3, 4] rfl, hD.sub [0, 1, 2, 3, 4] (by decide) rfl, hS⟩
        · skip
          rw [e14_17, e15_17, e16_17] at hP hD
          have m_17 : mdo (upd h29 2 (nI (100 * a_17 + b_17))) (tg9 / 24) f7 3 (upd (upd h7 b_17 (nI x_17)) a_17 0) := ⟨_, a_17, b_17, x_17, mdo.upd 2 _ (Nat.le_refl _) gm, pk_us, e5_17, e6_17, e7_17, e8_17, e9_17, e10_17, e11_17, e12_17, e13_17, rfl⟩
          have hP : va_P (dC, dI) vwCl [(mo, .inr (6, [.int th, .int tm, .int (nI sr), .int (nI nc), .ref m4, .ref m5, .ref m6, .ref m7, .ref m8, .ref m9, .ref m10, .ref m11, .ref m12, .int pw, .int rn, .int (nI no), .ref m16, .ref m17, .ref m18, .int (nI bz), .int (nI dg), .int (nI db), .int (nI df), .int (nI sp), .int tg, .int lf, .int mm, .ref m27, .int fo, .ref m29, .ref m30, .ref m31])), (m7, .inl (y7, 96, .inl (upd (upd h7 b_17 (nI x_17)) a_17 0))), (m29, .inl (y29, 8, .inl (upd h29 2 (nI (100 * a_17 + b_17))))), (m30, .inl (y30, 4, .inl (F_17 2))), (m31, .inl (y31, 4, .inl (upd h31 2 1)))] H := hP
          have hD : va_D A [(mo, .inr (6, [.int th, .int tm, .int (nI sr), .int (nI nc), .ref m4, .ref m5, .ref m6, .ref m7, .ref m8, .ref m9, .ref m10, .ref m11, .ref m12, .int pw, .int rn, .int (nI no), .ref m16, .ref m17, .ref m18, .int (nI bz), .int (nI dg), .int (nI db), .int (nI df), .int (nI sp), .int tg, .int lf, .int mm, .ref m27, .int fo, .ref m29, .ref m30, .ref m31])), (m7, .inl (y7, 96, .inl (upd (upd h7 b_17 (nI x_17)) a_17 0))), (m29, .inl (y29, 8, .inl (upd h29 2 (nI (100 * a_17 + b_17))))), (m30, .inl (y30, 4, .inl (F_17 2))), (m31, .inl (y31, 4, .inl (upd h31 2 1)))] := hD
          refine lv_if_ne (tgt := 60) hx hb dX8_goes_51 (by decide) (fun _ => ?_) (fun c => absurd c (by decide))
          refine lv_iload_n hx hb dX8_goes_60 rfl (lv_at hl 1 rfl) ?_
          refine lv_iload_n hx hb dX8_goes_61 rfl (lv_at hl 4 rfl) ?_
          refine lv_iconst (v := 1) hx hb dX8_goes_62 (by decide) ?_
          refine lv_isub hx hb dX8_goes_63 ?_
          refine pt_topi 2 (by decide) ?_
          refine lv_icmp_ne (tgt := 77) hx hb dX8_goes_64 (by decide) (fun c => absurd (by decide) c) (fun _ => ?_)
          refine lv_aload_n hx hb dX8_goes_67 rfl (lv_at hl 2 rfl) ?_
          refine lv_iload_n hx hb dX8_goes_68 rfl (lv_at hl 3 rfl) ?_
          refine pt_cSi (va_runV (As := [.int (nI tg9)]) (rest := []) ⟨hx, hb, hml, hown, hts⟩ (m_isReached l dC dI mo m4 m5 m6 m7 m8 m9 m10 m11 m12 m16 m17 m18 m27 m29 m30 m31 th tm pw rn tg lf mm fo sr nc no bz dg db df sp y7 (upd (upd h7 b_17 (nI x_17)) a_17 0) tg9 (by omega)) (cwV 1 hts gX8_goes_X8_isReached rfl rfl rfl (by decide +kernel) ⟨Nat.le_of_ble_eq_true rfl, Nat.le_of_ble_eq_true rfl⟩) ⟨pt_blind, va_recv hK hP (ci := 6) (q0 := 0) rfl rfl, pt_pre (w := [(mo, .inr (6, [.int th, .int tm, .int (nI sr), .int (nI nc), .ref m4, .ref m5, .ref m6, .ref m7, .ref m8, .ref m9, .ref m10, .ref m11, .ref m12, .int pw, .int rn, .int (nI no), .ref m16, .ref m17, .ref m18, .int (nI bz), .int (nI dg), .int (nI db), .int (nI df), .int (nI sp), .int tg, .int lf, .int mm, .ref m27, .int fo, .ref m29, .ref m30, .ref m31])), (m7, .inl (y7, 96, .inl (upd (upd h7 b_17 (nI x_17)) a_17 0)))]) (tys := [(y7, .int)]) (hP.sub [0, 1] rfl) (hK.sub [0] rfl) hN⟩ rfl rfl hl.1 rfl (lv_room (Nat.le_of_ble_eq_true rfl)) dX8_goes_69 ⟨Nat.le_of_ble_eq_true rfl, Nat.le_of_ble_eq_true rfl⟩) (fun r_18 hr_18 => ?_)
          rcases hr_18 with rfl | rfl
          · skip
            refine lv_istore (lv' := [(4, .int 0), (3, .int 2), (0, .ref mo), (1, .int (nI tg9)), (2, .int 3)]) hx hb dX8_goes_72 hl (by decide) rfl (fun ls hl => ?_)
            refine lv_goto (tgt := 22) hx hb dX8_goes_74 (by decide) ?_
            exact ih ((577 - t0) * 1000000 + (577 - t1) * 1000 + (577 - t_17)) H locs ls (by omega) ⟨3, 2, 0, upd (upd h7 b_17 (nI x_17)) a_17 0, upd h29 2 (nI (100 * a_17 + b_17)), F_17 2, upd h31 2 1, 3, t0, t1, t_17, lv_sub hl [0, 1, 2, 3, 4] rfl, by omega, rfl, Or.inl rfl, m_17, mD.up gD, ⟨by omega, by omega, by omega⟩, ⟨fun _ => (e4_17 0 (by decide)).trans gp0, fun _ => (e4_17 1 (by decide)).trans gp1, fun _ => e3_17⟩, ⟨fun q => absurd q (by decide), fun _ => Or.inr rfl⟩, fun q => absurd q (by decide), ⟨fun q => absurd q (by decide), fun q => absurd q (by decide), fun q => absurd q (by decide), fun _ => rfl⟩, mC_moved gC e12_17, hP.sub [0, 1, 2, 3, 4] rfl, hD.sub [0, 1, 2, 3, 4] (by decide) rfl, hS⟩
          · skip
            refine lv_istore (lv' := [(4, .int 1), (3, .int 2), (0, .ref mo), (1, .int (nI tg9)), (2, .int 3)]) hx hb dX8_goes_72 hl (by decide) rfl (fun ls hl => ?_)
            refine lv_goto (tgt := 22) hx hb dX8_goes_74 (by decide) ?_
            exact ih ((577 - t0) * 1000000 + (577 - t1) * 1000 + (577 - t_17)) H locs ls (by omega) ⟨3, 2, 1, upd (upd h7 b_17 (nI x_17)) a_17 0, upd h29 2 (nI (100 * a_17 + b_17)), F_17 2, upd h31 2 1, 3, t0, t1, t_17, lv_sub hl [0, 1, 2, 3, 4] rfl, by omega, rfl, Or.inr rfl, m_17, mD.up gD, ⟨by omega, by omega, by omega⟩, ⟨fun _ => (e4_17 0 (by decide)).trans gp0, fun _ => (e4_17 1 (by decide)).trans gp1, fun _ => e3_17⟩, ⟨fun q => absurd q (by decide), fun _ => Or.inr rfl⟩, fun _ => rfl, ⟨fun q => absurd q (by decide), fun q => absurd q (by decide), fun q => absurd q (by decide), fun _ => rfl⟩, mC_moved gC e12_17, hP.sub [0, 1, 2, 3, 4] rfl, hD.sub [0, 1, 2, 3, 4] (by decide) rfl, hS⟩
      · skip
        have hl : lv_has ls 6 [(4, .int 0), (3, .int 2), (0, .ref mo), (1, .int (nI tg9)), (2, .int 3)] := hl
        have hmu : mu = (577 - t0) * 1000000 + (577 - t1) * 1000 + (577 - t2) := gz.2.2.2 rfl
        have gp0 : h30 0 = pI t0 := gp.1 (by decide)
        have gp1 : h30 1 = pI t1 := gp.2.1 (by decide)
        have gp2 : h30 2 = pI t2 := gp.2.2 (by decide)
        refine lv_iload_n hx hb dX8_goes_22 rfl (lv_at hl 1 rfl) ?_
        refine lv_if_lt (tgt := 90) hx hb dX8_goes_23 (by decide) (fun c => absurd c (by decide)) (fun _ => ?_)
        refine lv_iload hx hb dX8_goes_26 (lv_at hl 0 rfl) ?_
        refine lv_if_ne (tgt := 90) hx hb dX8_goes_28 (by decide) (fun c => absurd (by decide) c) (fun _ => ?_)
        refine lv_aload_n hx hb dX8_goes_31 rfl (lv_at hl 2 rfl) ?_
        refine va_get (D := (dC, dI)) (ci := 6) (v := .ref m31) (C := RX8) (T := TX8) (N := 32) hx hb hts iX8 hown hK hP 0 rfl rfl 31 (by decide) (hts (.fieldLink RX8 60 "ParkTowerModel" "isDone" "[Z") (by decide +kernel)) (fun _ h9 => h9) rfl dX8_goes_32 ?_
        refine lv_iload_n hx hb dX8_goes_35 rfl (lv_at hl 1 rfl) ?_
        refine va_zald hx hb hK hP 4 3 rfl rfl (vp_in_iff.mpr (by decide)) dX8_goes_36 ?_
        refine lv_topi (fun a_19 ea_19 => ?_)
        have ea_19 : a_19 = h31 2 := ea_19
        obtain rfl : a_19 = 1 := ea_19.trans (gD.yes (by decide))
        refine lv_if_eq (tgt := 45) hx hb dX8_goes_37 (by decide) (fun c => absurd c (by decide)) (fun _ => ?_)
        refine lv_aload_n hx hb dX8_goes_40 rfl (lv_at hl 2 rfl) ?_
        refine lv_iload_n hx hb dX8_goes_41 rfl (lv_at hl 1 rfl) ?_
        obtain ⟨h_20, a_20, b_20, x_20, m_20, i1_20, i2_20, i3_20, i4_20, i5_20, i6_20, i7_20, i8_20, i9_20, i10_20, i11_20⟩ := gm
        have hPc := hP.sub (ws' := [(mo, .inr (6, [.int th, .int tm, .int (nI sr), .int (nI nc), .ref m4, .ref m5, .ref m6, .ref m7, .ref m8, .ref m9, .ref m10, .ref m11, .ref m12, .int pw, .int rn, .int (nI no), .ref m16, .ref m17, .ref m18, .int (nI bz), .int (nI dg), .int (nI db), .int (nI df), .int (nI sp), .int tg, .int lf, .int mm, .ref m27, .int fo, .ref m29, .ref m30, .ref m31])), (m7, .inl (y7, 96, .inl h7)), (m29, .inl (y29, 8, .inl h29)), (m31, .inl (y31, 4, .inl h31))]) [0, 1, 2, 4] rfl
        have hDc := hD.sub (ws' := [(mo, .inr (6, [.int th, .int tm, .int (nI sr), .int (nI nc), .ref m4, .ref m5, .ref m6, .ref m7, .ref m8, .ref m9, .ref m10, .ref m11, .ref m12, .int pw, .int rn, .int (nI no), .ref m16, .ref m17, .ref m18, .int (nI bz), .int (nI dg), .int (nI db), .int (nI df), .int (nI sp), .int tg, .int lf, .int mm, .ref m27, .int fo, .ref m29, .ref m30, .ref m31])), (m7, .inl (y7, 96, .inl h7)), (m29, .inl (y29, 8, .inl h29)), (m31, .inl (y31, 4, .inl h31))]) [0, 1, 2, 4] (by decide) rfl
        have hKc := hK.sub (tys' := [(y7, .int), (y29, .int), (y31, .boolean)]) [0, 1, 3] rfl
        have hFc := va_free (wc := [(mo, .inr (6, [.int th, .int tm, .int (nI sr), .int (nI nc), .ref m4, .ref m5, .ref m6, .ref m7, .ref m8, .ref m9, .ref m10, .ref m11, .ref m12, .int pw, .int rn, .int (nI no), .ref m16, .ref m17, .ref m18, .int (nI bz), .int (nI dg), .int (nI db), .int (nI df), .int (nI sp), .int tg, .int lf, .int mm, .ref m27, .int fo, .ref m29, .ref m30, .ref m31])), (m7, .inl (y7, 96, .inl h7)), (m29, .inl (y29, 8, .inl h29)), (m31, .inl (y31, 4, .inl h31))]) hD hS hA [0, 1, 2, 4] rfl
        refine va_callv (va_runV (As := [.int 2]) (rest := []) ⟨hx, hb, hml, hown, hts⟩ (m_undo l dC dI _ mo m4 m5 m6 m7 m8 m9 m10 m11 m12 m16 m17 m18 m27 m29 m30 m31 th tm pw rn tg lf mm fo sr nc no bz dg db df sp y7 y29 y31 h7 h29 h31 2 a_20 b_20 (by omega) i2_20 i3_20 i1_20) (cwV 1 hts gX8_goes_X8_undo rfl rfl rfl (by decide +kernel) ⟨Nat.le_of_ble_eq_true rfl, Nat.le_of_ble_eq_true rfl⟩) ⟨pt_blindQ, va_recv hK hP (ci := 6) (q0 := 0) rfl rfl, pt_preQ hPc hKc hDc hN⟩ rfl rfl hl.1 rfl (lv_room (Nat.le_of_ble_eq_true rfl)) dX8_goes_42 ⟨Nat.le_of_ble_eq_true rfl, Nat.le_of_ble_eq_true rfl⟩) hS (fun q _ h => hFc q h) hFc (fun u_21 t H1 locs ht hvm hw_21 hB hz1 hk1 hS => ?_)
        obtain ⟨v_21, n_21, F_21⟩ := u_21
        obtain ⟨hP1, hK1, hD1⟩ := hB
        try dsimp only at hw_21
        rw [ht] at hP1
        have hK1 := va_K.moved hvm.symm hK1
        obtain ⟨hP, hD⟩ := va_join (wr := [(m30, .inl (y30, 4, .inl h30))]) (w1 := [(mo, .inr (6, [.int th, .int tm, .int (nI sr), .int (nI nc), .ref m4, .ref m5, .ref m6, .ref m7, .ref m8, .ref m9, .ref m10, .ref m11, .ref m12, .int pw, .int rn, .int (nI no), .ref m16, .ref m17, .ref m18, .int (nI bz), .int (nI dg), .int (nI db), .int (nI df), .int (nI sp), .int tg, .int lf, .int mm, .ref m27, .int fo, .ref m29, .ref m30, .ref m31])), (m7, .inl (y7, 96, .inl (upd (upd h7 a_20 (h7 b_20)) b_20 0))), (m29, .inl (y29, 8, .inl h29)), (m31, .inl (y31, 4, .inl (upd h31 2 0)))]) hP hD [0, 1, 2, 4] [3] rfl rfl (by decide) (by decide) hk1 hFc hP1 hD1
        have hK := hK.app hK1
        generalize H1 = H at hP hS ⊢
        have hP : va_P (dC, dI) vwCl [(m30, .inl (y30, 4, .inl h30)), (mo, .inr (6, [.int th, .int tm, .int (nI sr), .int (nI nc), .ref m4, .ref m5, .ref m6, .ref m7, .ref m8, .ref m9, .ref m10, .ref m11, .ref m12, .int pw, .int rn, .int (nI no), .ref m16, .ref m17, .ref m18, .int (nI bz), .int (nI dg), .int (nI db), .int (nI df), .int (nI sp), .int tg, .int lf, .int mm, .ref m27, .int fo, .ref m29, .ref m30, .ref m31])), (m7, .inl (y7, 96, .inl (upd (upd h7 a_20 (h7 b_20)) b_20 0))), (m29, .inl (y29, 8, .inl h29)), (m31, .inl (y31, 4, .inl (upd h31 2 0)))] H := hP
        have hD : va_D A [(m30, .inl (y30, 4, .inl h30)), (mo, .inr (6, [.int th, .int tm, .int (nI sr), .int (nI nc), .ref m4, .ref m5, .ref m6, .ref m7, .ref m8, .ref m9, .ref m10, .ref m11, .ref m12, .int pw, .int rn, .int (nI no), .ref m16, .ref m17, .ref m18, .int (nI bz), .int (nI dg), .int (nI db), .int (nI df), .int (nI sp), .int tg, .int lf, .int mm, .ref m27, .int fo, .ref m29, .ref m30, .ref m31])), (m7, .inl (y7, 96, .inl (upd (upd h7 a_20 (h7 b_20)) b_20 0))), (m29, .inl (y29, 8, .inl h29)), (m31, .inl (y31, 4, .inl (upd h31 2 0)))] := hD
        have hK : va_K (dC, dI) vwCl [(y7, .int), (y29, .int), (y30, .int), (y31, .boolean)] s := hK
        rw [mundo' i6_20 i7_20 i10_20 i11_20] at hP hD
        have hP : va_P (dC, dI) vwCl [(m30, .inl (y30, 4, .inl h30)), (mo, .inr (6, [.int th, .int tm, .int (nI sr), .int (nI nc), .ref m4, .ref m5, .ref m6, .ref m7, .ref m8, .ref m9, .ref m10, .ref m11, .ref m12, .int pw, .int rn, .int (nI no), .ref m16, .ref m17, .ref m18, .int (nI bz), .int (nI dg), .int (nI db), .int (nI df), .int (nI sp), .int tg, .int lf, .int mm, .ref m27, .int fo, .ref m29, .ref m30, .ref m31])), (m7, .inl (y7, 96, .inl h_20)), (m29, .inl (y29, 8, .inl h29)), (m31, .inl (y31, 4, .inl (upd h31 2 0)))] H := hP
        have hD : va_D A [(m30, .inl (y30, 4, .inl h30)), (mo, .inr (6, [.int th, .int tm, .int (nI sr), .int (nI nc), .ref m4, .ref m5, .ref m6, .ref m7, .ref m8, .ref m9, .ref m10, .ref m11, .ref m12, .int pw, .int rn, .int (nI no), .ref m16, .ref m17, .ref m18, .int (nI bz), .int (nI dg), .int (nI db), .int (nI df), .int (nI sp), .int tg, .int lf, .int mm, .ref m27, .int fo, .ref m29, .ref m30, .ref m31])), (m7, .inl (y7, 96, .inl h_20)), (m29, .inl (y29, 8, .inl h29)), (m31, .inl (y31, 4, .inl (upd h31 2 0)))] := hD
        have C_20 : ∀ i, mC (h_20 i) := fun i => by rw [← mundo' i6_20 i7_20 i10_20 i11_20]; exact s_upd (fun i => s_upd gC (gC _) i) (Or.inr ⟨0, by omega, rfl⟩) i
        refine lv_aload_n hx hb dX8_goes_45 rfl (lv_at hl 2 rfl) ?_
        refine lv_iload_n hx hb dX8_goes_46 rfl (lv_at hl 3 rfl) ?_
        refine lv_iload_n hx hb dX8_goes_47 rfl (lv_at hl 1 rfl) ?_
        have hPc := hP.sub (ws' := [(mo, .inr (6, [.int th, .int tm, .int (nI sr), .int (nI nc), .ref m4, .ref m5, .ref m6, .ref m7, .ref m8, .ref m9, .ref m10, .ref m11, .ref m12, .int pw, .int rn, .int (nI no), .ref m16, .ref m17, .ref m18, .int (nI bz), .int (nI dg), .int (nI db), .int (nI df), .int (nI sp), .int tg, .int lf, .int mm, .ref m27, .int fo, .ref m29, .ref m30, .ref m31])), (m7, .inl (y7, 96, .inl h_20)), (m29, .inl (y29, 8, .inl h29)), (m30, .inl (y30, 4, .inl h30)), (m31, .inl (y31, 4, .inl (upd h31 2 0)))]) [1, 2, 3, 0, 4] rfl
        have hDc := hD.sub (ws' := [(mo, .inr (6, [.int th, .int tm, .int (nI sr), .int (nI nc), .ref m4, .ref m5, .ref m6, .ref m7, .ref m8, .ref m9, .ref m10, .ref m11, .ref m12, .int pw, .int rn, .int (nI no), .ref m16, .ref m17, .ref m18, .int (nI bz), .int (nI dg), .int (nI db), .int (nI df), .int (nI sp), .int tg, .int lf, .int mm, .ref m27, .int fo, .ref m29, .ref m30, .ref m31])), (m7, .inl (y7, 96, .inl h_20)), (m29, .inl (y29, 8, .inl h29)), (m30, .inl (y30, 4, .inl h30)), (m31, .inl (y31, 4, .inl (upd h31 2 0)))]) [1, 2, 3, 0, 4] (by decide) rfl
        have hKc := hK.sub (tys' := [(y7, .int), (y29, .int), (y30, .int), (y31, .boolean)]) [0, 1, 2, 3] rfl
        have hFc := va_free (wc := [(mo, .inr (6, [.int th, .int tm, .int (nI sr), .int (nI nc), .ref m4, .ref m5, .ref m6, .ref m7, .ref m8, .ref m9, .ref m10, .ref m11, .ref m12, .int pw, .int rn, .int (nI no), .ref m16, .ref m17, .ref m18, .int (nI bz), .int (nI dg), .int (nI db), .int (nI df), .int (nI sp), .int tg, .int lf, .int mm, .ref m27, .int fo, .ref m29, .ref m30, .ref m31])), (m7, .inl (y7, 96, .inl h_20)), (m29, .inl (y29, 8, .inl h29)), (m30, .inl (y30, 4, .inl h30)), (m31, .inl (y31, 4, .inl (upd h31 2 0)))]) hD hS hA [1, 2, 3, 0, 4] rfl
        refine va_calli (va_runV (As := [.int (nI tg9), .int 2]) (rest := []) ⟨hx, hb, hml, hown, hts⟩ (m_turns l dC dI _ mo m4 m5 m6 m7 m8 m9 m10 m11 m12 m16 m17 m18 m27 m29 m30 m31 th tm pw rn tg lf mm fo sr nc no bz dg db df sp y7 y29 y30 y31 h_20 h29 h30 (upd h31 2 0) tg9 2 t2 htg (by decide) (by omega) gp2 C_20) (cwV 2 hts gX8_goes_X8_turns rfl rfl rfl (by decide +kernel) ⟨Nat.le_of_ble_eq_true rfl, Nat.le_of_ble_eq_true rfl⟩) ⟨pt_blindQ, va_recv hK hP (ci := 6) (q0 := 1) rfl rfl, pt_preQ hPc hKc hDc hN⟩ rfl rfl hl.1 rfl (lv_room (Nat.le_of_ble_eq_true rfl)) dX8_goes_48 ⟨Nat.le_of_ble_eq_true rfl, Nat.le_of_ble_eq_true rfl⟩) hS (fun q _ h => hFc q h) hFc (fun r_22 u_22 t H1 locs ht hvm hw_22 hB hz1 hk1 hS => ?_)
        obtain ⟨v_22, n_22, F_22⟩ := u_22
        obtain ⟨hP1, hK1, hD1⟩ := hB
        try dsimp only at hw_22
        rw [ht] at hP1
        have hK1 := va_K.moved hvm.symm hK1
        obtain ⟨hP, hD⟩ := va_join (wr := []) (w1 := [(mo, .inr (6, [.int th, .int tm, .int (nI sr), .int (nI nc), .ref m4, .ref m5, .ref m6, .ref m7, .ref m8, .ref m9, .ref m10, .ref m11, .ref m12, .int pw, .int rn, .int (nI no), .ref m16, .ref m17, .ref m18, .int (nI bz), .int (nI dg), .int (nI db), .int (nI df), .int (nI sp), .int tg, .int lf, .int mm, .ref m27, .int fo, .ref m29, .ref m30, .ref m31])), (m7, .inl (y7, 96, .inl (F_22 0))), (m29, .inl (y29, 8, .inl (F_22 1))), (m30, .inl (y30, 4, .inl (F_22 2))), (m31, .inl (y31, 4, .inl (F_22 3)))]) hP hD [1, 2, 3, 0, 4] [] rfl rfl (by decide) (by decide) hk1 hFc hP1 hD1
        have hK := hK.app hK1
        generalize H1 = H at hP hS ⊢
        have hP : va_P (dC, dI) vwCl [(mo, .inr (6, [.int th, .int tm, .int (nI sr), .int (nI nc), .ref m4, .ref m5, .ref m6, .ref m7, .ref m8, .ref m9, .ref m10, .ref m11, .ref m12, .int pw, .int rn, .int (nI no), .ref m16, .ref m17, .ref m18, .int (nI bz), .int (nI dg), .int (nI db), .int (nI df), .int (nI sp), .int tg, .int lf, .int mm, .ref m27, .int fo, .ref m29, .ref m30, .ref m31])), (m7, .inl (y7, 96, .inl (F_22 0))), (m29, .inl (y29, 8, .inl (F_22 1))), (m30, .inl (y30, 4, .inl (F_22 2))), (m31, .inl (y31, 4, .inl (F_22 3)))] H := hP
        have hD : va_D A [(mo, .inr (6, [.int th, .int tm, .int (nI sr), .int (nI nc), .ref m4, .ref m5, .ref m6, .ref m7, .ref m8, .ref m9, .ref m10, .ref m11, .ref m12, .int pw, .int rn, .int (nI no), .ref m16, .ref m17, .ref m18, .int (nI bz), .int (nI dg), .int (nI db), .int (nI df), .int (nI sp), .int tg, .int lf, .int mm, .ref m27, .int fo, .ref m29, .ref m30, .ref m31])), (m7, .inl (y7, 96, .inl (F_22 0))), (m29, .inl (y29, 8, .inl (F_22 1))), (m30, .inl (y30, 4, .inl (F_22 2))), (m31, .inl (y31, 4, .inl (F_22 3)))] := hD
        have hK : va_K (dC, dI) vwCl [(y7, .int), (y29, .int), (y30, .int), (y31, .boolean)] s := hK
        rcases hw_22 with ⟨rfl, e1_22, e2_22, e3_22, e4_22, e5_22⟩ | ⟨rfl, a_22, b_22, x_22, t_22, e1_22, e2_22, e3_22, e4_22, e5_22, e6_22, e7_22, e8_22, e9_22, e10_22, e11_22, e12_22, e13_22, e14_22, e15_22, e16_22⟩
        · skip
          rw [e1_22, e2_22, e3_22] at hP hD
          have hP : va_P (dC, dI) vwCl [(mo, .inr (6, [.int th, .int tm, .int (nI sr), .int (nI nc), .ref m4, .ref m5, .ref m6, .ref m7, .ref m8, .ref m9, .ref m10, .ref m11, .ref m12, .int pw, .int rn, .int (nI no), .ref m16, .ref m17, .ref m18, .int (nI bz), .int (nI dg), .int (nI db), .int (nI df), .int (nI sp), .int tg, .int lf, .int mm, .ref m27, .int fo, .ref m29, .ref m30, .ref m31])), (m7, .inl (y7, 96, .inl h_20)), (m29, .inl (y29, 8, .inl h29)), (m30, .inl (y30, 4, .inl (F_22 2))), (m31, .inl (y31, 4, .inl (upd h31 2 0)))] H := hP
          have hD : va_D A [(mo, .inr (6, [.int th, .int tm, .int (nI sr), .int (nI nc), .ref m4, .ref m5, .ref m6, .ref m7, .ref m8, .ref m9, .ref m10, .ref m11, .ref m12, .int pw, .int rn, .int (nI no), .ref m16, .ref m17, .ref m18, .int (nI bz), .int (nI dg), .int (nI db), .int (nI df), .int (nI sp), .int tg, .int lf, .int mm, .ref m27, .int fo, .ref m29, .ref m30, .ref m31])), (m7, .inl (y7, 96, .inl h_20)), (m29, .inl (y29, 8, .inl h29)), (m30, .inl (y30, 4, .inl (F_22 2))), (m31, .inl (y31, 4, .inl (upd h31 2 0)))] := hD
          refine lv_if_ne (tgt := 60) hx hb dX8_goes_51 (by decide) (fun c => absurd (by decide) c) (fun _ => ?_)
          refine lv_iinc (v := 1) (lv' := [(3, .int 1), (4, .int 0), (0, .ref mo), (1, .int (nI tg9)), (2, .int 3)]) hx hb dX8_goes_54 hl (k := 1) rfl (by decide) (by decide) rfl (fun ls hl => ?_)
          refine lv_goto (tgt := 22) hx hb dX8_goes_57 (by decide) ?_
          exact ih ((577 - t0) * 1000000 + (577 - t1) * 1000) H locs ls (by omega) ⟨2, 1, 0, h_20, h29, F_22 2, upd h31 2 0, 2, t0, t1, t2, lv_sub hl [1, 0, 2, 3, 4] rfl, by omega, rfl, Or.inl rfl, m_20, mD.down gD, ⟨by omega, by omega, by omega⟩, ⟨fun _ => (e5_22 0 (by decide)).trans gp0, fun _ => (e5_22 1 (by decide)).trans gp1, fun q => absurd q (by decide)⟩, ⟨fun q => absurd q (by decide), fun _ => Or.inr rfl⟩, fun q => absurd q (by decide), ⟨fun q => absurd q (by decide), fun q => absurd q (by decide), fun _ => rfl, fun q => absurd q (by decide)⟩, C_20, hP.sub [0, 1, 2, 3, 4] rfl, hD.sub [0, 1, 2, 3, 4] (by decide) rfl, hS⟩
        · skip
          rw [e14_22, e15_22, e16_22] at hP hD
          have m_22 : mdo (upd h29 2 (nI (100 * a_22 + b_22))) (tg9 / 24) f7 3 (upd (upd h_20 b_22 (nI x_22)) a_22 0) := ⟨_, a_22, b_22, x_22, mdo.upd 2 _ (Nat.le_refl _) m_20, pk_us, e5_22, e6_22, e7_22, e8_22, e9_22, e10_22, e11_22, e12_22, e13_22, rfl⟩
          have hP : va_P (dC, dI) vwCl [(mo, .inr (6, [.int th, .int tm, .int (nI sr), .int (nI nc), .ref m4, .ref m5, .ref m6, .ref m7, .ref m8, .ref m9, .ref m10, .ref m11, .ref m12, .int pw, .int rn, .int (nI no), .ref m16, .ref m17, .ref m18, .int (nI bz), .int (nI dg), .int (nI db), .int (nI df), .int (nI sp), .int tg, .int lf, .int mm, .ref m27, .int fo, .ref m29, .ref m30, .ref m31])), (m7, .inl (y7, 96, .inl (upd (upd h_20 b_22 (nI x_22)) a_22 0))), (m29, .inl (y29, 8, .inl (upd h29 2 (nI (100 * a_22 + b_22))))), (m30, .inl (y30, 4, .inl (F_22 2))), (m31, .inl (y31, 4, .inl (upd (upd h31 2 0) 2 1)))] H := hP
          have hD : va_D A [(mo, .inr (6, [.int th, .int tm, .int (nI sr), .int (nI nc), .ref m4, .ref m5, .ref m6, .ref m7, .ref m8, .ref m9, .ref m10, .ref m11, .ref m12, .int pw, .int rn, .int (nI no), .ref m16, .ref m17, .ref m18, .int (nI bz), .int (nI dg), .int (nI db), .int (nI df), .int (nI sp), .int tg, .int lf, .int mm, .ref m27, .int fo, .ref m29, .ref m30, .ref m31])), (m7, .inl (y7, 96, .inl (upd (upd h_20 b_22 (nI x_22)) a_22 0))), (m29, .inl (y29, 8, .inl (upd h29 2 (nI (100 * a_22 + b_22))))), (m30, .inl (y30, 4, .inl (F_22 2))), (m31, .inl (y31, 4, .inl (upd (upd h31 2 0) 2 1)))] := hD
          refine lv_if_ne (tgt := 60) hx hb dX8_goes_51 (by decide) (fun _ => ?_) (fun c => absurd c (by decide))
          refine lv_iload_n hx hb dX8_goes_60 rfl (lv_at hl 1 rfl) ?_
          refine lv_iload_n hx hb dX8_goes_61 rfl (lv_at hl 4 rfl) ?_
          refine lv_iconst (v := 1) hx hb dX8_goes_62 (by decide) ?_
          refine lv_isub hx hb dX8_goes_63 ?_
          refine pt_topi 2 (by decide) ?_
          refine lv_icmp_ne (tgt := 77) hx hb dX8_goes_64 (by decide) (fun c => absurd (by decide) c) (fun _ => ?_)
          refine lv_aload_n hx hb dX8_goes_67 rfl (lv_at hl 2 rfl) ?_
          refine lv_iload_n hx hb dX8_goes_68 rfl (lv_at hl 3 rfl) ?_
          refine pt_cSi (va_runV (As := [.int (nI tg9)]) (rest := []) ⟨hx, hb, hml, hown, hts⟩ (m_isReached l dC dI mo m4 m5 m6 m7 m8 m9 m10 m11 m12 m16 m17 m18 m27 m29 m30 m31 th tm pw rn tg lf mm fo sr nc no bz dg db df sp y7 (upd (upd h_20 b_22 (nI x_22)) a_22 0) tg9 (by omega)) (cwV 1 hts gX8_goes_X8_isReached rfl rfl rfl (by decide +kernel) ⟨Nat.le_of_ble_eq_true rfl, Nat.le_of_ble_eq_true rfl⟩) ⟨pt_blind, va_recv hK hP (ci := 6) (q0 := 0) rfl rfl, pt_pre (w := [(mo, .inr (6, [.int th, .int tm, .int (nI sr), .int (nI nc), .ref m4, .ref m5, .ref m6, .ref m7, .ref m8, .ref m9, .ref m10, .ref m11, .ref m12, .int pw, .int rn, .int (nI no), .ref m16, .ref m17, .ref m18, .int (nI bz), .int (nI dg), .int (nI db), .int (nI df), .int (nI sp), .int tg, .int lf, .int mm, .ref m27, .int fo, .ref m29, .ref m30, .ref m31])), (m7, .inl (y7, 96, .inl (upd (upd h_20 b_22 (nI x_22)) a_22 0)))]) (tys := [(y7, .int)]) (hP.sub [0, 1] rfl) (hK.sub [0] rfl) hN⟩ rfl rfl hl.1 rfl (lv_room (Nat.le_of_ble_eq_true rfl)) dX8_goes_69 ⟨Nat.le_of_ble_eq_true rfl, Nat.le_of_ble_eq_true rfl⟩) (fun r_23 hr_23 => ?_)
          rcases hr_23 with rfl | rfl
          · skip
            refine lv_istore (lv' := [(4, .int 0), (3, .int 2), (0, .ref mo), (1, .int (nI tg9)), (2, .int 3)]) hx hb dX8_goes_72 hl (by decide) rfl (fun ls hl => ?_)
            refine lv_goto (tgt := 22) hx hb dX8_goes_74 (by decide) ?_
            exact ih ((577 - t0) * 1000000 + (577 - t1) * 1000 + (577 - t_22)) H locs ls (by omega) ⟨3, 2, 0, upd (upd h_20 b_22 (nI x_22)) a_22 0, upd h29 2 (nI (100 * a_22 + b_22)), F_22 2, upd (upd h31 2 0) 2 1, 3, t0, t1, t_22, lv_sub hl [0, 1, 2, 3, 4] rfl, by omega, rfl, Or.inl rfl, m_22, mD.up (mD.down gD), ⟨by omega, by omega, by omega⟩, ⟨fun _ => (e4_22 0 (by decide)).trans gp0, fun _ => (e4_22 1 (by decide)).trans gp1, fun _ => e3_22⟩, ⟨fun q => absurd q (by decide), fun _ => Or.inr rfl⟩, fun q => absurd q (by decide), ⟨fun q => absurd q (by decide), fun q => absurd q (by decide), fun q => absurd q (by decide), fun _ => rfl⟩, mC_moved C_20 e12_22, hP.sub [0, 1, 2, 3, 4] rfl, hD.sub [0, 1, 2, 3, 4] (by decide) rfl, hS⟩
          · skip
            refine lv_istore (lv' := [(4, .int 1), (3, .int 2), (0, .ref mo), (1, .int (nI tg9)), (2, .int 3)]) hx hb dX8_goes_72 hl (by decide) rfl (fun ls hl => ?_)
            refine lv_goto (tgt := 22) hx hb dX8_goes_74 (by decide) ?_
            exact ih ((577 - t0) * 1000000 + (577 - t1) * 1000 + (577 - t_22)) H locs ls (by omega) ⟨3, 2, 1, upd (upd h_20 b_22 (nI x_22)) a_22 0, upd h29 2 (nI (100 * a_22 + b_22)), F_22 2, upd (upd h31 2 0) 2 1, 3, t0, t1, t_22, lv_sub hl [0, 1, 2, 3, 4] rfl, by omega, rfl, Or.inr rfl, m_22, mD.up (mD.down gD), ⟨by omega, by omega, by omega⟩, ⟨fun _ => (e4_22 0 (by decide)).trans gp0, fun _ => (e4_22 1 (by decide)).trans gp1, fun _ => e3_22⟩, ⟨fun q => absurd q (by decide), fun _ => Or.inr rfl⟩, fun _ => rfl, ⟨fun q => absurd q (by decide), fun q => absurd q (by decide), fun q => absurd q (by decide), fun _ => rfl⟩, mC_moved C_20 e12_22, hP.sub [0, 1, 2, 3, 4] rfl, hD.sub [0, 1, 2, 3, 4] (by decide) rfl, hS⟩
  · skip
    rcases (show kk = 0 ∨ kk = 1 ∨ kk = 2 ∨ kk = 3 by omega) with rfl | rfl | rfl | rfl
    · skip
      obtain rfl := gG rfl
      have hall := mdo.all gm
      have hl : lv_has ls 6 [(4, .int 1), (3, .int (-1)), (0, .ref mo), (1, .int (nI tg9)), (2, .int 3)] := hl
      have hmu : mu = 0 := gz.1 rfl
      refine lv_iload_n hx hb dX8_goes_22 rfl (lv_at hl 1 rfl) ?_
      refine lv_if_lt (tgt := 90) hx hb dX8_goes_23 (by decide) (fun _ => ?_) (fun c => absurd (by decide) c)
      refine lv_iload_n hx hb dX8_goes_90 rfl (lv_at hl 4 rfl) ?_
      refine lv_iconst (v := 1) hx hb dX8_goes_91 (by decide) ?_
      refine lv_isub hx hb dX8_goes_92 ?_
      refine pt_topi 2 (by decide) ?_
      refine lv_istore (lv' := [(5, .int 2), (4, .int 1), (3, .int (-1)), (0, .ref mo), (1, .int (nI tg9)), (2, .int 3)]) hx hb dX8_goes_93 hl (by decide) rfl (fun ls hl => ?_)
      refine lv_iload hx hb dX8_goes_95 (lv_at hl 0 rfl) ?_
      refine lv_if_lt (tgt := 122) hx hb dX8_goes_97 (by decide) (fun c => absurd c (by decide)) (fun _ => ?_)
      refine lv_aload_n hx hb dX8_goes_100 rfl (lv_at hl 3 rfl) ?_
      refine va_get (D := (dC, dI)) (ci := 6) (v := .ref m31) (C := RX8) (T := TX8) (N := 32) hx hb hts iX8 hown hK hP 0 rfl rfl 31 (by decide) (hts (.fieldLink RX8 60 "ParkTowerModel" "isDone" "[Z") (by decide +kernel)) (fun _ h9 => h9) rfl dX8_goes_101 ?_
      refine lv_iload hx hb dX8_goes_104 (lv_at hl 0 rfl) ?_
      refine va_zald hx hb hK hP 4 3 rfl rfl (vp_in_iff.mpr (by decide)) dX8_goes_106 ?_
      refine lv_topi (fun a_24 ea_24 => ?_)
      have ea_24 : a_24 = h31 2 := ea_24
      obtain rfl : a_24 = 1 := ea_24.trans (gD.yes (by decide))
      refine lv_if_eq (tgt := 116) hx hb dX8_goes_107 (by decide) (fun c => absurd c (by decide)) (fun _ => ?_)
      refine lv_aload_n hx hb dX8_goes_110 rfl (lv_at hl 3 rfl) ?_
      refine lv_iload hx hb dX8_goes_111 (lv_at hl 0 rfl) ?_
      obtain ⟨h_25, a_25, b_25, x_25, m_25, i1_25, i2_25, i3_25, i4_25, i5_25, i6_25, i7_25, i8_25, i9_25, i10_25, i11_25⟩ := gm
      have hPc := hP.sub (ws' := [(mo, .inr (6, [.int th, .int tm, .int (nI sr), .int (nI nc), .ref m4, .ref m5, .ref m6, .ref m7, .ref m8, .ref m9, .ref m10, .ref m11, .ref m12, .int pw, .int rn, .int (nI no), .ref m16, .ref m17, .ref m18, .int (nI bz), .int (nI dg), .int (nI db), .int (nI df), .int (nI sp), .int tg, .int lf, .int mm, .ref m27, .int fo, .ref m29, .ref m30, .ref m31])), (m7, .inl (y7, 96, .inl h7)), (m29, .inl (y29, 8, .inl h29)), (m31, .inl (y31, 4, .inl h31))]) [0, 1, 2, 4] rfl
      have hDc := hD.sub (ws' := [(mo, .inr (6, [.int th, .int tm, .int (nI sr), .int (nI nc), .ref m4, .ref m5, .ref m6, .ref m7, .ref m8, .ref m9, .ref m10, .ref m11, .ref m12, .int pw, .int rn, .int (nI no), .ref m16, .ref m17, .ref m18, .int (nI bz), .int (nI dg), .int (nI db), .int (nI df), .int (nI sp), .int tg, .int lf, .int mm, .ref m27, .int fo, .ref m29, .ref m30, .ref m31])), (m7, .inl (y7, 96, .inl h7)), (m29, .inl (y29, 8, .inl h29)), (m31, .inl (y31, 4, .inl h31))]) [0, 1, 2, 4] (by decide) rfl
      have hKc := hK.sub (tys' := [(y7, .int), (y29, .int), (y31, .boolean)]) [0, 1, 3] rfl
      have hFc := va_free (wc := [(mo, .inr (6, [.int th, .int tm, .int (nI sr), .int (nI nc), .ref m4, .ref m5, .ref m6, .ref m7, .ref m8, .ref m9, .ref m10, .ref m11, .ref m12, .int pw, .int rn, .int (nI no), .ref m16, .ref m17, .ref m18, .int (nI bz), .int (nI dg), .int (nI db), .int (nI df), .int (nI sp), .int tg, .int lf, .int mm, .ref m27, .int fo, .ref m29, .ref m30, .ref m31])), (m7, .inl (y7, 96, .inl h7)), (m29, .inl (y29, 8, .inl h29)), (m31, .inl (y31, 4, .inl h31))]) hD hS hA [0, 1, 2, 4] rfl
      refine va_callv (va_runV (As := [.int 2]) (rest := []) ⟨hx, hb, hml, hown, hts⟩ (m_undo l dC dI _ mo m4 m5 m6 m7 m8 m9 m10 m11 m12 m16 m17 m18 m27 m29 m30 m31 th tm pw rn tg lf mm fo sr nc no bz dg db df sp y7 y29 y31 h7 h29 h31 2 a_25 b_25 (by omega) i2_25 i3_25 i1_25) (cwV 1 hts gX8_goes_X8_undo rfl rfl rfl (by decide +kernel) ⟨Nat.le_of_ble_eq_true rfl, Nat.le_of_ble_eq_true rfl⟩) ⟨pt_blindQ, va_recv hK hP (ci := 6) (q0 := 0) rfl rfl, pt_preQ hPc hKc hDc hN⟩ rfl rfl hl.1 rfl (lv_room (Nat.le_of_ble_eq_true rfl)) dX8_goes_113 ⟨Nat.le_of_ble_eq_true rfl, Nat.le_of_ble_eq_true rfl⟩) hS (fun q _ h => hFc q h) hFc (fun u_26 t H1 locs ht hvm hw_26 hB hz1 hk1 hS => ?_)
      obtain ⟨v_26, n_26, F_26⟩ := u_26
      obtain ⟨hP1, hK1, hD1⟩ := hB
      try dsimp only at hw_26
      rw [ht] at hP1
      have hK1 := va_K.moved hvm.symm hK1
      obtain ⟨hP, hD⟩ := va_join (wr := [(m30, .inl (y30, 4, .inl h30))]) (w1 := [(mo, .inr (6, [.int th, .int tm, .int (nI sr), .int (nI nc), .ref m4, .ref m5, .ref m6, .ref m7, .ref m8, .ref m9, .ref m10, .ref m11, .ref m12, .int pw, .int rn, .int (nI no), .ref m16, .ref m17, .ref m18, .int (nI bz), .int (nI dg), .int (nI db), .int (nI df), .int (nI sp), .int tg, .int lf, .int mm, .ref m27, .int fo, .ref m29, .ref m30, .ref m31])), (m7, .inl (y7, 96, .inl (upd (upd h7 a_25 (h7 b_25)) b_25 0))), (m29, .inl (y29, 8, .inl h29)), (m31, .inl (y31, 4, .inl (upd h31 2 0)))]) hP hD [0, 1, 2, 4] [3] rfl rfl (by decide) (by decide) hk1 hFc hP1 hD1
      have hK := hK.app hK1
      generalize H1 = H at hP hS ⊢
      have hP : va_P (dC, dI) vwCl [(m30, .inl (y30, 4, .inl h30)), (mo, .inr (6, [.int th, .int tm, .int (nI sr), .int (nI nc), .ref m4, .ref m5, .ref m6, .ref m7, .ref m8, .ref m9, .ref m10, .ref m11, .ref m12, .int pw, .int rn, .int (nI no), .ref m16, .ref m17, .ref m18, .int (nI bz), .int (nI dg), .int (nI db), .int (nI df), .int (nI sp), .int tg, .int lf, .int mm, .ref m27, .int fo, .ref m29, .ref m30, .ref m31])), (m7, .inl (y7, 96, .inl (upd (upd h7 a_25 (h7 b_25)) b_25 0))), (m29, .inl (y29, 8, .inl h29)), (m31, .inl (y31, 4, .inl (upd h31 2 0)))] H := hP
      have hD : va_D A [(m30, .inl (y30, 4, .inl h30)), (mo, .inr (6, [.int th, .int tm, .int (nI sr), .int (nI nc), .ref m4, .ref m5, .ref m6, .ref m7, .ref m8, .ref m9, .ref m10, .ref m11, .ref m12, .int pw, .int rn, .int (nI no), .ref m16, .ref m17, .ref m18, .int (nI bz), .int (nI dg), .int (nI db), .int (nI df), .int (nI sp), .int tg, .int lf, .int mm, .ref m27, .int fo, .ref m29, .ref m30, .ref m31])), (m7, .inl (y7, 96, .inl (upd (upd h7 a_25 (h7 b_25)) b_25 0))), (m29, .inl (y29, 8, .inl h29)), (m31, .inl (y31, 4, .inl (upd h31 2 0)))] := hD
      have hK : va_K (dC, dI) vwCl [(y7, .int), (y29, .int), (y30, .int), (y31, .boolean)] s := hK
      rw [mundo' i6_25 i7_25 i10_25 i11_25] at hP hD
      have hP : va_P (dC, dI) vwCl [(m30, .inl (y30, 4, .inl h30)), (mo, .inr (6, [.int th, .int tm, .int (nI sr), .int (nI nc), .ref m4, .ref m5, .ref m6, .ref m7, .ref m8, .ref m9, .ref m10, .ref m11, .ref m12, .int pw, .int rn, .int (nI no), .ref m16, .ref m17, .ref m18, .int (nI bz), .int (nI dg), .int (nI db), .int (nI df), .int (nI sp), .int tg, .int lf, .int mm, .ref m27, .int fo, .ref m29, .ref m30, .ref m31])), (m7, .inl (y7, 96, .inl h_25)), (m29, .inl (y29, 8, .inl h29)), (m31, .inl (y31, 4, .inl (upd h31 2 0)))] H := hP
      have hD : va_D A [(m30, .inl (y30, 4, .inl h30)), (mo, .inr (6, [.int th, .int tm, .int (nI sr), .int (nI nc), .ref m4, .ref m5, .ref m6, .ref m7, .ref m8, .ref m9, .ref m10, .ref m11, .ref m12, .int pw, .int rn, .int (nI no), .ref m16, .ref m17, .ref m18, .int (nI bz), .int (nI dg), .int (nI db), .int (nI df), .int (nI sp), .int tg, .int lf, .int mm, .ref m27, .int fo, .ref m29, .ref m30, .ref m31])), (m7, .inl (y7, 96, .inl h_25)), (m29, .inl (y29, 8, .inl h29)), (m31, .inl (y31, 4, .inl (upd h31 2 0)))] := hD
      have C_25 : ∀ i, mC (h_25 i) := fun i => by rw [← mundo' i6_25 i7_25 i10_25 i11_25]; exact s_upd (fun i => s_upd gC (gC _) i) (Or.inr ⟨0, by omega, rfl⟩) i
      refine lv_iinc (v := 1) (lv' := [(5, .int 1), (4, .int 1), (3, .int (-1)), (0, .ref mo), (1, .int (nI tg9)), (2, .int 3)]) hx hb dX8_goes_116 hl (k := 0) rfl (by decide) (by decide) rfl (fun ls hl => ?_)
      refine lv_goto (tgt := 95) hx hb dX8_goes_119 (by decide) ?_
      refine lv_iload hx hb dX8_goes_95 (lv_at hl 0 rfl) ?_
      refine lv_if_lt (tgt := 122) hx hb dX8_goes_97 (by decide) (fun c => absurd c (by decide)) (fun _ => ?_)
      refine lv_aload_n hx hb dX8_goes_100 rfl (lv_at hl 3 rfl) ?_
      refine va_get (D := (dC, dI)) (ci := 6) (v := .ref m31) (C := RX8) (T := TX8) (N := 32) hx hb hts iX8 hown hK hP 1 rfl rfl 31 (by decide) (hts (.fieldLink RX8 60 "ParkTowerModel" "isDone" "[Z") (by decide +kernel)) (fun _ h9 => h9) rfl dX8_goes_101 ?_
      refine lv_iload hx hb dX8_goes_104 (lv_at hl 0 rfl) ?_
      refine va_zald hx hb hK hP 4 3 rfl rfl (vp_in_iff.mpr (by decide)) dX8_goes_106 ?_
      refine lv_topi (fun a_27 ea_27 => ?_)
      have ea_27 : a_27 = (upd h31 2 0) 1 := ea_27
      obtain rfl : a_27 = 1 := ea_27.trans ((mD.down gD).yes (by decide))
      refine lv_if_eq (tgt := 116) hx hb dX8_goes_107 (by decide) (fun c => absurd c (by decide)) (fun _ => ?_)
      refine lv_aload_n hx hb dX8_goes_110 rfl (lv_at hl 3 rfl) ?_
      refine lv_iload hx hb dX8_goes_111 (lv_at hl 0 rfl) ?_
      obtain ⟨h_28, a_28, b_28, x_28, m_28, i1_28, i2_28, i3_28, i4_28, i5_28, i6_28, i7_28, i8_28, i9_28, i10_28, i11_28⟩ := m_25
      have hPc := hP.sub (ws' := [(mo, .inr (6, [.int th, .int tm, .int (nI sr), .int (nI nc), .ref m4, .ref m5, .ref m6, .ref m7, .ref m8, .ref m9, .ref m10, .ref m11, .ref m12, .int pw, .int rn, .int (nI no), .ref m16, .ref m17, .ref m18, .int (nI bz), .int (nI dg), .int (nI db), .int (nI df), .int (nI sp), .int tg, .int lf, .int mm, .ref m27, .int fo, .ref m29, .ref m30, .ref m31])), (m7, .inl (y7, 96, .inl h_25)), (m29, .inl (y29, 8, .inl h29)), (m31, .inl (y31, 4, .inl (upd h31 2 0)))]) [1, 2, 3, 4] rfl
      have hDc := hD.sub (ws' := [(mo, .inr (6, [.int th, .int tm, .int (nI sr), .int (nI nc), .ref m4, .ref m5, .ref m6, .ref m7, .ref m8, .ref m9, .ref m10, .ref m11, .ref m12, .int pw, .int rn, .int (nI no), .ref m16, .ref m17, .ref m18, .int (nI bz), .int (nI dg), .int (nI db), .int (nI df), .int (nI sp), .int tg, .int lf, .int mm, .ref m27, .int fo, .ref m29, .ref m30, .ref m31])), (m7, .inl (y7, 96, .inl h_25)), (m29, .inl (y29, 8, .inl h29)), (m31, .inl (y31, 4, .inl (upd h31 2 0)))]) [1, 2, 3, 4] (by decide) rfl
      have hKc := hK.sub (tys' := [(y7, .int), (y29, .int), (y31, .boolean)]) [0, 1, 3] rfl
      have hFc := va_free (wc := [(mo, .inr (6, [.int th, .int tm, .int (nI sr), .int (nI nc), .ref m4, .ref m5, .ref m6, .ref m7, .ref m8, .ref m9, .ref m10, .ref m11, .ref m12, .int pw, .int rn, .int (nI no), .ref m16, .ref m17, .ref m18, .int (nI bz), .int (nI dg), .int (nI db), .int (nI df), .int (nI sp), .int tg, .int lf, .int mm, .ref m27, .int fo, .ref m29, .ref m30, .ref m31])), (m7, .inl (y7, 96, .inl h_25)), (m29, .inl (y29, 8, .inl h29)), (m31, .inl (y31, 4, .inl (upd h31 2 0)))]) hD hS hA [1, 2, 3, 4] rfl
      refine va_callv (va_runV (As := [.int 1]) (rest := []) ⟨hx, hb, hml, hown, hts⟩ (m_undo l dC dI _ mo m4 m5 m6 m7 m8 m9 m10 m11 m12 m16 m17 m18 m27 m29 m30 m31 th tm pw rn tg lf mm fo sr nc no bz dg db df sp y7 y29 y31 h_25 h29 (upd h31 2 0) 1 a_28 b_28 (by omega) i2_28 i3_28 i1_28) (cwV 1 hts gX8_goes_X8_undo rfl rfl rfl (by decide +kernel) ⟨Nat.le_of_ble_eq_true rfl, Nat.le_of_ble_eq_true rfl⟩) ⟨pt_blindQ, va_recv hK hP (ci := 6) (q0 := 1) rfl rfl, pt_preQ hPc hKc hDc hN⟩ rfl rfl hl.1 rfl (lv_room (Nat.le_of_ble_eq_true rfl)) dX8_goes_113 ⟨Nat.le_of_ble_eq_true rfl, Nat.le_of_ble_eq_true rfl⟩) hS (fun q _ h => hFc q h) hFc (fun u_29 t H1 locs ht hvm hw_29 hB hz1 hk1 hS => ?_)
      obtain ⟨v_29, n_29, F_29⟩ := u_29
      obtain ⟨hP1, hK1, hD1⟩ := hB
      try dsimp only at hw_29
      rw [ht] at hP1
      have hK1 := va_K.moved hvm.symm hK1
      obtain ⟨hP, hD⟩ := va_join (wr := [(m30, .inl (y30, 4, .inl h30))]) (w1 := [(mo, .inr (6, [.int th, .int tm, .int (nI sr), .int (nI nc), .ref m4, .ref m5, .ref m6, .ref m7, .ref m8, .ref m9, .ref m10, .ref m11, .ref m12, .int pw, .int rn, .int (nI no), .ref m16, .ref m17, .ref m18, .int (nI bz), .int (nI dg), .int (nI db), .int (nI df), .int (nI sp), .int tg, .int lf, .int mm, .ref m27, .int fo, .ref m29, .ref m30, .ref m31])), (m7, .inl (y7, 96, .inl (upd (upd h_25 a_28 (h_25 b_28)) b_28 0))), (m29, .inl (y29, 8, .inl h29)), (m31, .inl (y31, 4, .inl (upd (upd h31 2 0) 1 0)))]) hP hD [1, 2, 3, 4] [0] rfl rfl (by decide) (by decide) hk1 hFc hP1 hD1
      have hK := hK.app hK1
      generalize H1 = H at hP hS ⊢
      have hP : va_P (dC, dI) vwCl [(m30, .inl (y30, 4, .inl h30)), (mo, .inr (6, [.int th, .int tm, .int (nI sr), .int (nI nc), .ref m4, .ref m5, .ref m6, .ref m7, .ref m8, .ref m9, .ref m10, .ref m11, .ref m12, .int pw, .int rn, .int (nI no), .ref m16, .ref m17, .ref m18, .int (nI bz), .int (nI dg), .int (nI db), .int (nI df), .int (nI sp), .int tg, .int lf, .int mm, .ref m27, .int fo, .ref m29, .ref m30, .ref m31])), (m7, .inl (y7, 96, .inl (upd (upd h_25 a_28 (h_25 b_28)) b_28 0))), (m29, .inl (y29, 8, .inl h29)), (m31, .inl (y31, 4, .inl (upd (upd h31 2 0) 1 0)))] H := hP
      have hD : va_D A [(m30, .inl (y30, 4, .inl h30)), (mo, .inr (6, [.int th, .int tm, .int (nI sr), .int (nI nc), .ref m4, .ref m5, .ref m6, .ref m7, .ref m8, .ref m9, .ref m10, .ref m11, .ref m12, .int pw, .int rn, .int (nI no), .ref m16, .ref m17, .ref m18, .int (nI bz), .int (nI dg), .int (nI db), .int (nI df), .int (nI sp), .int tg, .int lf, .int mm, .ref m27, .int fo, .ref m29, .ref m30, .ref m31])), (m7, .inl (y7, 96, .inl (upd (upd h_25 a_28 (h_25 b_28)) b_28 0))), (m29, .inl (y29, 8, .inl h29)), (m31, .inl (y31, 4, .inl (upd (upd h31 2 0) 1 0)))] := hD
      have hK : va_K (dC, dI) vwCl [(y7, .int), (y29, .int), (y30, .int), (y31, .boolean)] s := hK
      rw [mundo' i6_28 i7_28 i10_28 i11_28] at hP hD
      have hP : va_P (dC, dI) vwCl [(m30, .inl (y30, 4, .inl h30)), (mo, .inr (6, [.int th, .int tm, .int (nI sr), .int (nI nc), .ref m4, .ref m5, .ref m6, .ref m7, .ref m8, .ref m9, .ref m10, .ref m11, .ref m12, .int pw, .int rn, .int (nI no), .ref m16, .ref m17, .ref m18, .int (nI bz), .int (nI dg), .int (nI db), .int (nI df), .int (nI sp), .int tg, .int lf, .int mm, .ref m27, .int fo, .ref m29, .ref m30, .ref m31])), (m7, .inl (y7, 96, .inl h_28)), (m29, .inl (y29, 8, .inl h29)), (m31, .inl (y31, 4, .inl (upd (upd h31 2 0) 1 0)))] H := hP
      have hD : va_D A [(m30, .inl (y30, 4, .inl h30)), (mo, .inr (6, [.int th, .int tm, .int (nI sr), .int (nI nc), .ref m4, .ref m5, .ref m6, .ref m7, .ref m8, .ref m9, .ref m10, .ref m11, .ref m12, .int pw, .int rn, .int (nI no), .ref m16, .ref m17, .ref m18, .int (nI bz), .int (nI dg), .int (nI db), .int (nI df), .int (nI sp), .int tg, .int lf, .int mm, .ref m27, .int fo, .ref m29, .ref m30, .ref m31])), (m7, .inl (y7, 96, .inl h_28)), (m29, .inl (y29, 8, .inl h29)), (m31, .inl (y31, 4, .inl (upd (upd h31 2 0) 1 0)))] := hD
      have C_28 : ∀ i, mC (h_28 i) := fun i => by rw [← mundo' i6_28 i7_28 i10_28 i11_28]; exact s_upd (fun i => s_upd C_25 (C_25 _) i) (Or.inr ⟨0, by omega, rfl⟩) i
      refine lv_iinc (v := 0) (lv' := [(5, .int 0), (4, .int 1), (3, .int (-1)), (0, .ref mo), (1, .int (nI tg9)), (2, .int 3)]) hx hb dX8_goes_116 hl (k := 0) rfl (by decide) (by decide) rfl (fun ls hl => ?_)
      refine lv_goto (tgt := 95) hx hb dX8_goes_119 (by decide) ?_
      refine lv_iload hx hb dX8_goes_95 (lv_at hl 0 rfl) ?_
      refine lv_if_lt (tgt := 122) hx hb dX8_goes_97 (by decide) (fun c => absurd c (by decide)) (fun _ => ?_)
      refine lv_aload_n hx hb dX8_goes_100 rfl (lv_at hl 3 rfl) ?_
      refine va_get (D := (dC, dI)) (ci := 6) (v := .ref m31) (C := RX8) (T := TX8) (N := 32) hx hb hts iX8 hown hK hP 1 rfl rfl 31 (by decide) (hts (.fieldLink RX8 60 "ParkTowerModel" "isDone" "[Z") (by decide +kernel)) (fun _ h9 => h9) rfl dX8_goes_101 ?_
      refine lv_iload hx hb dX8_goes_104 (lv_at hl 0 rfl) ?_
      refine va_zald hx hb hK hP 4 3 rfl rfl (vp_in_iff.mpr (by decide)) dX8_goes_106 ?_
      refine lv_topi (fun a_30 ea_30 => ?_)
      have ea_30 : a_30 = (upd (upd h31 2 0) 1 0) 0 := ea_30
      obtain rfl : a_30 = 1 := ea_30.trans ((mD.down (mD.down gD)).yes (by decide))
      refine lv_if_eq (tgt := 116) hx hb dX8_goes_107 (by decide) (fun c => absurd c (by decide)) (fun _ => ?_)
      refine lv_aload_n hx hb dX8_goes_110 rfl (lv_at hl 3 rfl) ?_
      refine lv_iload hx hb dX8_goes_111 (lv_at hl 0 rfl) ?_
      obtain ⟨h_31, a_31, b_31, x_31, m_31, i1_31, i2_31, i3_31, i4_31, i5_31, i6_31, i7_31, i8_31, i9_31, i10_31, i11_31⟩ := m_28
      have hPc := hP.sub (ws' := [(mo, .inr (6, [.int th, .int tm, .int (nI sr), .int (nI nc), .ref m4, .ref m5, .ref m6, .ref m7, .ref m8, .ref m9, .ref m10, .ref m11, .ref m12, .int pw, .int rn, .int (nI no), .ref m16, .ref m17, .ref m18, .int (nI bz), .int (nI dg), .int (nI db), .int (nI df), .int (nI sp), .int tg, .int lf, .int mm, .ref m27, .int fo, .ref m29, .ref m30, .ref m31])), (m7, .inl (y7, 96, .inl h_28)), (m29, .inl (y29, 8, .inl h29)), (m31, .inl (y31, 4, .inl (upd (upd h31 2 0) 1 0)))]) [1, 2, 3, 4] rfl
      have hDc := hD.sub (ws' := [(mo, .inr (6, [.int th, .int tm, .int (nI sr), .int (nI nc), .ref m4, .ref m5, .ref m6, .ref m7, .ref m8, .ref m9, .ref m10, .ref m11, .ref m12, .int pw, .int rn, .int (nI no), .ref m16, .ref m17, .ref m18, .int (nI bz), .int (nI dg), .int (nI db), .int (nI df), .int (nI sp), .int tg, .int lf, .int mm, .ref m27, .int fo, .ref m29, .ref m30, .ref m31])), (m7, .inl (y7, 96, .inl h_28)), (m29, .inl (y29, 8, .inl h29)), (m31, .inl (y31, 4, .inl (upd (upd h31 2 0) 1 0)))]) [1, 2, 3, 4] (by decide) rfl
      have hKc := hK.sub (tys' := [(y7, .int), (y29, .int), (y31, .boolean)]) [0, 1, 3] rfl
      have hFc := va_free (wc := [(mo, .inr (6, [.int th, .int tm, .int (nI sr), .int (nI nc), .ref m4, .ref m5, .ref m6, .ref m7, .ref m8, .ref m9, .ref m10, .ref m11, .ref m12, .int pw, .int rn, .int (nI no), .ref m16, .ref m17, .ref m18, .int (nI bz), .int (nI dg), .int (nI db), .int (nI df), .int (nI sp), .int tg, .int lf, .int mm, .ref m27, .int fo, .ref m29, .ref m30, .ref m31])), (m7, .inl (y7, 96, .inl h_28)), (m29, .inl (y29, 8, .inl h29)), (m31, .inl (y31, 4, .inl (upd (upd h31 2 0) 1 0)))]) hD hS hA [1, 2, 3, 4] rfl
      refine va_callv (va_runV (As := [.int 0]) (rest := []) ⟨hx, hb, hml, hown, hts⟩ (m_undo l dC dI _ mo m4 m5 m6 m7 m8 m9 m10 m11 m12 m16 m17 m18 m27 m29 m30 m31 th tm pw rn tg lf mm fo sr nc no bz dg db df sp y7 y29 y31 h_28 h29 (upd (upd h31 2 0) 1 0) 0 a_31 b_31 (by omega) i2_31 i3_31 i1_31) (cwV 1 hts gX8_goes_X8_undo rfl rfl rfl (by decide +kernel) ⟨Nat.le_of_ble_eq_true rfl, Nat.le_of_ble_eq_true rfl⟩) ⟨pt_blindQ, va_recv hK hP (ci := 6) (q0 := 1) rfl rfl, pt_preQ hPc hKc hDc hN⟩ rfl rfl hl.1 rfl (lv_room (Nat.le_of_ble_eq_true rfl)) dX8_goes_113 ⟨Nat.le_of_ble_eq_true rfl, Nat.le_of_ble_eq_true rfl⟩) hS (fun q _ h => hFc q h) hFc (fun u_32 t H1 locs ht hvm hw_32 hB hz1 hk1 hS => ?_)
      obtain ⟨v_32, n_32, F_32⟩ := u_32
      obtain ⟨hP1, hK1, hD1⟩ := hB
      try dsimp only at hw_32
      rw [ht] at hP1
      have hK1 := va_K.moved hvm.symm hK1
      obtain ⟨hP, hD⟩ := va_join (wr := [(m30, .inl (y30, 4, .inl h30))]) (w1 := [(mo, .inr (6, [.int th, .int tm, .int (nI sr), .int (nI nc), .ref m4, .ref m5, .ref m6, .ref m7, .ref m8, .ref m9, .ref m10, .ref m11, .ref m12, .int pw, .int rn, .int (nI no), .ref m16, .ref m17, .ref m18, .int (nI bz), .int (nI dg), .int (nI db), .int (nI df), .int (nI sp), .int tg, .int lf, .int mm, .ref m27, .int fo, .ref m29, .ref m30, .ref m31])), (m7, .inl (y7, 96, .inl (upd (upd h_28 a_31 (h_28 b_31)) b_31 0))), (m29, .inl (y29, 8, .inl h29)), (m31, .inl (y31, 4, .inl (upd (upd (upd h31 2 0) 1 0) 0 0)))]) hP hD [1, 2, 3, 4] [0] rfl rfl (by decide) (by decide) hk1 hFc hP1 hD1
      have hK := hK.app hK1
      generalize H1 = H at hP hS ⊢
      have hP : va_P (dC, dI) vwCl [(m30, .inl (y30, 4, .inl h30)), (mo, .inr (6, [.int th, .int tm, .int (nI sr), .int (nI nc), .ref m4, .ref m5, .ref m6, .ref m7, .ref m8, .ref m9, .ref m10, .ref m11, .ref m12, .int pw, .int rn, .int (nI no), .ref m16, .ref m17, .ref m18, .int (nI bz), .int (nI dg), .int (nI db), .int (nI df), .int (nI sp), .int tg, .int lf, .int mm, .ref m27, .int fo, .ref m29, .ref m30, .ref m31])), (m7, .inl (y7, 96, .inl (upd (upd h_28 a_31 (h_28 b_31)) b_31 0))), (m29, .inl (y29, 8, .inl h29)), (m31, .inl (y31, 4, .inl (upd (upd (upd h31 2 0) 1 0) 0 0)))] H := hP
      have hD : va_D A [(m30, .inl (y30, 4, .inl h30)), (mo, .inr (6, [.int th, .int tm, .int (nI sr), .int (nI nc), .ref m4, .ref m5, .ref m6, .ref m7, .ref m8, .ref m9, .ref m10, .ref m11, .ref m12, .int pw, .int rn, .int (nI no), .ref m16, .ref m17, .ref m18, .int (nI bz), .int (nI dg), .int (nI db), .int (nI df), .int (nI sp), .int tg, .int lf, .int mm, .ref m27, .int fo, .ref m29, .ref m30, .ref m31])), (m7, .inl (y7, 96, .inl (upd (upd h_28 a_31 (h_28 b_31)) b_31 0))), (m29, .inl (y29, 8, .inl h29)), (m31, .inl (y31, 4, .inl (upd (upd (upd h31 2 0) 1 0) 0 0)))] := hD
      have hK : va_K (dC, dI) vwCl [(y7, .int), (y29, .int), (y30, .int), (y31, .boolean)] s := hK
      rw [mundo' i6_31 i7_31 i10_31 i11_31] at hP hD
      have hP : va_P (dC, dI) vwCl [(m30, .inl (y30, 4, .inl h30)), (mo, .inr (6, [.int th, .int tm, .int (nI sr), .int (nI nc), .ref m4, .ref m5, .ref m6, .ref m7, .ref m8, .ref m9, .ref m10, .ref m11, .ref m12, .int pw, .int rn, .int (nI no), .ref m16, .ref m17, .ref m18, .int (nI bz), .int (nI dg), .int (nI db), .int (nI df), .int (nI sp), .int tg, .int lf, .int mm, .ref m27, .int fo, .ref m29, .ref m30, .ref m31])), (m7, .inl (y7, 96, .inl h_31)), (m29, .inl (y29, 8, .inl h29)), (m31, .inl (y31, 4, .inl (upd (upd (upd h31 2 0) 1 0) 0 0)))] H := hP
      have hD : va_D A [(m30, .inl (y30, 4, .inl h30)), (mo, .inr (6, [.int th, .int tm, .int (nI sr), .int (nI nc), .ref m4, .ref m5, .ref m6, .ref m7, .ref m8, .ref m9, .ref m10, .ref m11, .ref m12, .int pw, .int rn, .int (nI no), .ref m16, .ref m17, .ref m18, .int (nI bz), .int (nI dg), .int (nI db), .int (nI df), .int (nI sp), .int tg, .int lf, .int mm, .ref m27, .int fo, .ref m29, .ref m30, .ref m31])), (m7, .inl (y7, 96, .inl h_31)), (m29, .inl (y29, 8, .inl h29)), (m31, .inl (y31, 4, .inl (upd (upd (upd h31 2 0) 1 0) 0 0)))] := hD
      have C_31 : ∀ i, mC (h_31 i) := fun i => by rw [← mundo' i6_31 i7_31 i10_31 i11_31]; exact s_upd (fun i => s_upd C_28 (C_28 _) i) (Or.inr ⟨0, by omega, rfl⟩) i
      refine lv_iinc (v := (-1)) (lv' := [(5, .int (-1)), (4, .int 1), (3, .int (-1)), (0, .ref mo), (1, .int (nI tg9)), (2, .int 3)]) hx hb dX8_goes_116 hl (k := 0) rfl (by decide) (by decide) rfl (fun ls hl => ?_)
      refine lv_goto (tgt := 95) hx hb dX8_goes_119 (by decide) ?_
      refine lv_iload hx hb dX8_goes_95 (lv_at hl 0 rfl) ?_
      refine lv_if_lt (tgt := 122) hx hb dX8_goes_97 (by decide) (fun _ => ?_) (fun c => absurd (by decide) c)
      have e9 : h_31 = f7 := m_31
      rw [e9] at hP hD
      have hP : va_P (dC, dI) vwCl [(m30, .inl (y30, 4, .inl h30)), (mo, .inr (6, [.int th, .int tm, .int (nI sr), .int (nI nc), .ref m4, .ref m5, .ref m6, .ref m7, .ref m8, .ref m9, .ref m10, .ref m11, .ref m12, .int pw, .int rn, .int (nI no), .ref m16, .ref m17, .ref m18, .int (nI bz), .int (nI dg), .int (nI db), .int (nI df), .int (nI sp), .int tg, .int lf, .int mm, .ref m27, .int fo, .ref m29, .ref m30, .ref m31])), (m7, .inl (y7, 96, .inl f7)), (m29, .inl (y29, 8, .inl h29)), (m31, .inl (y31, 4, .inl (upd (upd (upd h31 2 0) 1 0) 0 0)))] H := hP
      have hD : va_D A [(m30, .inl (y30, 4, .inl h30)), (mo, .inr (6, [.int th, .int tm, .int (nI sr), .int (nI nc), .ref m4, .ref m5, .ref m6, .ref m7, .ref m8, .ref m9, .ref m10, .ref m11, .ref m12, .int pw, .int rn, .int (nI no), .ref m16, .ref m17, .ref m18, .int (nI bz), .int (nI dg), .int (nI db), .int (nI df), .int (nI sp), .int tg, .int lf, .int mm, .ref m27, .int fo, .ref m29, .ref m30, .ref m31])), (m7, .inl (y7, 96, .inl f7)), (m29, .inl (y29, 8, .inl h29)), (m31, .inl (y31, 4, .inl (upd (upd (upd h31 2 0) 1 0) 0 0)))] := hD
      refine lv_iload hx hb dX8_goes_122 (lv_at hl 1 rfl) ?_
      have hP9 := hP.sub (ws' := [(mo, .inr (6, [.int th, .int tm, .int (nI sr), .int (nI nc), .ref m4, .ref m5, .ref m6, .ref m7, .ref m8, .ref m9, .ref m10, .ref m11, .ref m12, .int pw, .int rn, .int (nI no), .ref m16, .ref m17, .ref m18, .int (nI bz), .int (nI dg), .int (nI db), .int (nI df), .int (nI sp), .int tg, .int lf, .int mm, .ref m27, .int fo, .ref m29, .ref m30, .ref m31])), (m7, .inl (y7, 96, .inl f7)), (m29, .inl (y29, 8, .inl h29)), (m30, .inl (y30, 4, .inl h30)), (m31, .inl (y31, 4, .inl (upd (upd (upd h31 2 0) 1 0) 0 0)))]) [1, 2, 3, 0, 4] rfl
      have hD9 := hD.sub (ws' := [(mo, .inr (6, [.int th, .int tm, .int (nI sr), .int (nI nc), .ref m4, .ref m5, .ref m6, .ref m7, .ref m8, .ref m9, .ref m10, .ref m11, .ref m12, .int pw, .int rn, .int (nI no), .ref m16, .ref m17, .ref m18, .int (nI bz), .int (nI dg), .int (nI db), .int (nI df), .int (nI sp), .int tg, .int lf, .int mm, .ref m27, .int fo, .ref m29, .ref m30, .ref m31])), (m7, .inl (y7, 96, .inl f7)), (m29, .inl (y29, 8, .inl h29)), (m30, .inl (y30, 4, .inl h30)), (m31, .inl (y31, 4, .inl (upd (upd (upd h31 2 0) 1 0) 0 0)))]) [1, 2, 3, 0, 4] (by decide) rfl
      have hK9 := hK.sub (tys' := []) [] rfl
      refine W.widen (k := 0) (n := 0) (by omega) (by omega) ?_
      exact W.zret (v := 1) (ty := .boolean) hx hb hr rfl (fun t ht hW => ⟨⟨1, (fun q_ => ([] : List Int32).getD q_ 0, fun q_ => ([] : List Nat).getD q_ 0, fun q_ => ([h29, h30, upd (upd (upd h31 2 0) 1 0) 0 0] : List (Nat → Int32)).getD q_ (fun _ => 0)), rfl, ⟨Or.inr ⟨rfl, hall⟩, mD.o (mD.down (mD.down (mD.down gD)))⟩, by rw [ht]; exact hP9, va_K.moved hW.alike hK9, hD9⟩, hS.F ht⟩) hS.2.2 dX8_goes_124
    · skip
      obtain rfl := gG rfl
      have hall := mdo.all gm
      have hl : lv_has ls 6 [(4, .int 1), (3, .int 0), (0, .ref mo), (1, .int (nI tg9)), (2, .int 3)] := hl
      have hmu : mu = (577 - t0) * 1000000 := gz.2.1 rfl
      have gp0 : h30 0 = pI t0 := gp.1 (by decide)
      refine lv_iload_n hx hb dX8_goes_22 rfl (lv_at hl 1 rfl) ?_
      refine lv_if_lt (tgt := 90) hx hb dX8_goes_23 (by decide) (fun c => absurd c (by decide)) (fun _ => ?_)
      refine lv_iload hx hb dX8_goes_26 (lv_at hl 0 rfl) ?_
      refine lv_if_ne (tgt := 90) hx hb dX8_goes_28 (by decide) (fun _ => ?_) (fun c => absurd c (by decide))
      refine lv_iload_n hx hb dX8_goes_90 rfl (lv_at hl 4 rfl) ?_
      refine lv_iconst (v := 1) hx hb dX8_goes_91 (by decide) ?_
      refine lv_isub hx hb dX8_goes_92 ?_
      refine pt_topi 2 (by decide) ?_
      refine lv_istore (lv' := [(5, .int 2), (4, .int 1), (3, .int 0), (0, .ref mo), (1, .int (nI tg9)), (2, .int 3)]) hx hb dX8_goes_93 hl (by decide) rfl (fun ls hl => ?_)
      refine lv_iload hx hb dX8_goes_95 (lv_at hl 0 rfl) ?_
      refine lv_if_lt (tgt := 122) hx hb dX8_goes_97 (by decide) (fun c => absurd c (by decide)) (fun _ => ?_)
      refine lv_aload_n hx hb dX8_goes_100 rfl (lv_at hl 3 rfl) ?_
      refine va_get (D := (dC, dI)) (ci := 6) (v := .ref m31) (C := RX8) (T := TX8) (N := 32) hx hb hts iX8 hown hK hP 0 rfl rfl 31 (by decide) (hts (.fieldLink RX8 60 "ParkTowerModel" "isDone" "[Z") (by decide +kernel)) (fun _ h9 => h9) rfl dX8_goes_101 ?_
      refine lv_iload hx hb dX8_goes_104 (lv_at hl 0 rfl) ?_
      refine va_zald hx hb hK hP 4 3 rfl rfl (vp_in_iff.mpr (by decide)) dX8_goes_106 ?_
      refine lv_topi (fun a_33 ea_33 => ?_)
      have ea_33 : a_33 = h31 2 := ea_33
      obtain rfl : a_33 = 1 := ea_33.trans (gD.yes (by decide))
      refine lv_if_eq (tgt := 116) hx hb dX8_goes_107 (by decide) (fun c => absurd c (by decide)) (fun _ => ?_)
      refine lv_aload_n hx hb dX8_goes_110 rfl (lv_at hl 3 rfl) ?_
      refine lv_iload hx hb dX8_goes_111 (lv_at hl 0 rfl) ?_
      obtain ⟨h_34, a_34, b_34, x_34, m_34, i1_34, i2_34, i3_34, i4_34, i5_34, i6_34, i7_34, i8_34, i9_34, i10_34, i11_34⟩ := gm
      have hPc := hP.sub (ws' := [(mo, .inr (6, [.int th, .int tm, .int (nI sr), .int (nI nc), .ref m4, .ref m5, .ref m6, .ref m7, .ref m8, .ref m9, .ref m10, .ref m11, .ref m12, .int pw, .int rn, .int (nI no), .ref m16, .ref m17, .ref m18, .int (nI bz), .int (nI dg), .int (nI db), .int (nI df), .int (nI sp), .int tg, .int lf, .int mm, .ref m27, .int fo, .ref m29, .ref m30, .ref m31])), (m7, .inl (y7, 96, .inl h7)), (m29, .inl (y29, 8, .inl h29)), (m31, .inl (y31, 4, .inl h31))]) [0, 1, 2, 4] rfl
      have hDc := hD.sub (ws' := [(mo, .inr (6, [.int th, .int tm, .int (nI sr), .int (nI nc), .ref m4, .ref m5, .ref m6, .ref m7, .ref m8, .ref m9, .ref m10, .ref m11, .ref m12, .int pw, .int rn, .int (nI no), .ref m16, .ref m17, .ref m18, .int (nI bz), .int (nI dg), .int (nI db), .int (nI df), .int (nI sp), .int tg, .int lf, .int mm, .ref m27, .int fo, .ref m29, .ref m30, .ref m31])), (m7, .inl (y7, 96, .inl h7)), (m29, .inl (y29, 8, .inl h29)), (m31, .inl (y31, 4, .inl h31))]) [0, 1, 2, 4] (by decide) rfl
      have hKc := hK.sub (tys' := [(y7, .int), (y29, .int), (y31, .boolean)]) [0, 1, 3] rfl
      have hFc := va_free (wc := [(mo, .inr (6, [.int th, .int tm, .int (nI sr), .int (nI nc), .ref m4, .ref m5, .ref m6, .ref m7, .ref m8, .ref m9, .ref m10, .ref m11, .ref m12, .int pw, .int rn, .int (nI no), .ref m16, .ref m17, .ref m18, .int (nI bz), .int (nI dg), .int (nI db), .int (nI df), .int (nI sp), .int tg, .int lf, .int mm, .ref m27, .int fo, .ref m29, .ref m30, .ref m31])), (m7, .inl (y7, 96, .inl h7)), (m29, .inl (y29, 8, .inl h29)), (m31, .inl (y31, 4, .inl h31))]) hD hS hA [0, 1, 2, 4] rfl
      refine va_callv (va_runV (As := [.int 2]) (rest := []) ⟨hx, hb, hml, hown, hts⟩ (m_undo l dC dI _ mo m4 m5 m6 m7 m8 m9 m10 m11 m12 m16 m17 m18 m27 m29 m30 m31 th tm pw rn tg lf mm fo sr nc no bz dg db df sp y7 y29 y31 h7 h29 h31 2 a_34 b_34 (by omega) i2_34 i3_34 i1_34) (cwV 1 hts gX8_goes_X8_undo rfl rfl rfl (by decide +kernel) ⟨Nat.le_of_ble_eq_true rfl, Nat.le_of_ble_eq_true rfl⟩) ⟨pt_blindQ, va_recv hK hP (ci := 6) (q0 := 0) rfl rfl, pt_preQ hPc hKc hDc hN⟩ rfl rfl hl.1 rfl (lv_room (Nat.le_of_ble_eq_true rfl)) dX8_goes_113 ⟨Nat.le_of_ble_eq_true rfl, Nat.le_of_ble_eq_true rfl⟩) hS (fun q _ h => hFc q h) hFc (fun u_35 t H1 locs ht hvm hw_35 hB hz1 hk1 hS => ?_)
      obtain ⟨v_35, n_35, F_35⟩ := u_35
      obtain ⟨hP1, hK1, hD1⟩ := hB
      try dsimp only at hw_35
      rw [ht] at hP1
      have hK1 := va_K.moved hvm.symm hK1
      obtain ⟨hP, hD⟩ := va_join (wr := [(m30, .inl (y30, 4, .inl h30))]) (w1 := [(mo, .inr (6, [.int th, .int tm, .int (nI sr), .int (nI nc), .ref m4, .ref m5, .ref m6, .ref m7, .ref m8, .ref m9, .ref m10, .ref m11, .ref m12, .int pw, .int rn, .int (nI no), .ref m16, .ref m17, .ref m18, .int (nI bz), .int (nI dg), .int (nI db), .int (nI df), .int (nI sp), .int tg, .int lf, .int mm, .ref m27, .int fo, .ref m29, .ref m30, .ref m31])), (m7, .inl (y7, 96, .inl (upd (upd h7 a_34 (h7 b_34)) b_34 0))), (m29, .inl (y29, 8, .inl h29)), (m31, .inl (y31, 4, .inl (upd h31 2 0)))]) hP hD [0, 1, 2, 4] [3] rfl rfl (by decide) (by decide) hk1 hFc hP1 hD1
      have hK := hK.app hK1
      generalize H1 = H at hP hS ⊢
      have hP : va_P (dC, dI) vwCl [(m30, .inl (y30, 4, .inl h30)), (mo, .inr (6, [.int th, .int tm, .int (nI sr), .int (nI nc), .ref m4, .ref m5, .ref m6, .ref m7, .ref m8, .ref m9, .ref m10, .ref m11, .ref m12, .int pw, .int rn, .int (nI no), .ref m16, .ref m17, .ref m18, .int (nI bz), .int (nI dg), .int (nI db), .int (nI df), .int (nI sp), .int tg, .int lf, .int mm, .ref m27, .int fo, .ref m29, .ref m30, .ref m31])), (m7, .inl (y7, 96, .inl (upd (upd h7 a_34 (h7 b_34)) b_34 0))), (m29, .inl (y29, 8, .inl h29)), (m31, .inl (y31, 4, .inl (upd h31 2 0)))] H := hP
      have hD : va_D A [(m30, .inl (y30, 4, .inl h30)), (mo, .inr (6, [.int th, .int tm, .int (nI sr), .int (nI nc), .ref m4, .ref m5, .ref m6, .ref m7, .ref m8, .ref m9, .ref m10, .ref m11, .ref m12, .int pw, .int rn, .int (nI no), .ref m16, .ref m17, .ref m18, .int (nI bz), .int (nI dg), .int (nI db), .int (nI df), .int (nI sp), .int tg, .int lf, .int mm, .ref m27, .int fo, .ref m29, .ref m30, .ref m31])), (m7, .inl (y7, 96, .inl (upd (upd h7 a_34 (h7 b_34)) b_34 0))), (m29, .inl (y29, 8, .inl h29)), (m31, .inl (y31, 4, .inl (upd h31 2 0)))] := hD
      have hK : va_K (dC, dI) vwCl [(y7, .int), (y29, .int), (y30, .int), (y31, .boolean)] s := hK
      rw [mundo' i6_34 i7_34 i10_34 i11_34] at hP hD
      have hP : va_P (dC, dI) vwCl [(m30, .inl (y30, 4, .inl h30)), (mo, .inr (6, [.int th, .int tm, .int (nI sr), .int (nI nc), .ref m4, .ref m5, .ref m6, .ref m7, .ref m8, .ref m9, .ref m10, .ref m11, .ref m12, .int pw, .int rn, .int (nI no), .ref m16, .ref m17, .ref m18, .int (nI bz), .int (nI dg), .int (nI db), .int (nI df), .int (nI sp), .int tg, .int lf, .int mm, .ref m27, .int fo, .ref m29, .ref m30, .ref m31])), (m7, .inl (y7, 96, .inl h_34)), (m29, .inl (y29, 8, .inl h29)), (m31, .inl (y31, 4, .inl (upd h31 2 0)))] H := hP
      have hD : va_D A [(m30, .inl (y30, 4, .inl h30)), (mo, .inr (6, [.int th, .int tm, .int (nI sr), .int (nI nc), .ref m4, .ref m5, .ref m6, .ref m7, .ref m8, .ref m9, .ref m10, .ref m11, .ref m12, .int pw, .int rn, .int (nI no), .ref m16, .ref m17, .ref m18, .int (nI bz), .int (nI dg), .int (nI db), .int (nI df), .int (nI sp), .int tg, .int lf, .int mm, .ref m27, .int fo, .ref m29, .ref m30, .ref m31])), (m7, .inl (y7, 96, .inl h_34)), (m29, .inl (y29, 8, .inl h29)), (m31, .inl (y31, 4, .inl (upd h31 2 0)))] := hD
      have C_34 : ∀ i, mC (h_34 i) := fun i => by rw [← mundo' i6_34 i7_34 i10_34 i11_34]; exact s_upd (fun i => s_upd gC (gC _) i) (Or.inr ⟨0, by omega, rfl⟩) i
      refine lv_iinc (v := 1) (lv' := [(5, .int 1), (4, .int 1), (3, .int 0), (0, .ref mo), (1, .int (nI tg9)), (2, .int 3)]) hx hb dX8_goes_116 hl (k := 0) rfl (by decide) (by decide) rfl (fun ls hl => ?_)
      refine lv_goto (tgt := 95) hx hb dX8_goes_119 (by decide) ?_
      refine lv_iload hx hb dX8_goes_95 (lv_at hl 0 rfl) ?_
      refine lv_if_lt (tgt := 122) hx hb dX8_goes_97 (by decide) (fun c => absurd c (by decide)) (fun _ => ?_)
      refine lv_aload_n hx hb dX8_goes_100 rfl (lv_at hl 3 rfl) ?_
      refine va_get (D := (dC, dI)) (ci := 6) (v := .ref m31) (C := RX8) (T := TX8) (N := 32) hx hb hts iX8 hown hK hP 1 rfl rfl 31 (by decide) (hts (.fieldLink RX8 60 "ParkTowerModel" "isDone" "[Z") (by decide +kernel)) (fun _ h9 => h9) rfl dX8_goes_101 ?_
      refine lv_iload hx hb dX8_goes_104 (lv_at hl 0 rfl) ?_
      refine va_zald hx hb hK hP 4 3 rfl rfl (vp_in_iff.mpr (by decide)) dX8_goes_106 ?_
      refine lv_topi (fun a_36 ea_36 => ?_)
      have ea_36 : a_36 = (upd h31 2 0) 1 := ea_36
      obtain rfl : a_36 = 1 := ea_36.trans ((mD.down gD).yes (by decide))
      refine lv_if_eq (tgt := 116) hx hb dX8_goes_107 (by decide) (fun c => absurd c (by decide)) (fun _ => ?_)
      refine lv_aload_n hx hb dX8_goes_110 rfl (lv_at hl 3 rfl) ?_
      refine lv_iload hx hb dX8_goes_111 (lv_at hl 0 rfl) ?_
      obtain ⟨h_37, a_37, b_37, x_37, m_37, i1_37, i2_37, i3_37, i4_37, i5_37, i6_37, i7_37, i8_37, i9_37, i10_37, i11_37⟩ := m_34
      have hPc := hP.sub (ws' := [(mo, .inr (6, [.int th, .int tm, .int (nI sr), .int (nI nc), .ref m4, .ref m5, .ref m6, .ref m7, .ref m8, .ref m9, .ref m10, .ref m11, .ref m12, .int pw, .int rn, .int (nI no), .ref m16, .ref m17, .ref m18, .int (nI bz), .int (nI dg), .int (nI db), .int (nI df), .int (nI sp), .int tg, .int lf, .int mm, .ref m27, .int fo, .ref m29, .ref m30, .ref m31])), (m7, .inl (y7, 96, .inl h_34)), (m29, .inl (y29, 8, .inl h29)), (m31, .inl (y31, 4, .inl (upd h31 2 0)))]) [1, 2, 3, 4] rfl
      have hDc := hD.sub (ws' := [(mo, .inr (6, [.int th, .int tm, .int (nI sr), .int (nI nc), .ref m4, .ref m5, .ref m6, .ref m7, .ref m8, .ref m9, .ref m10, .ref m11, .ref m12, .int pw, .int rn, .int (nI no), .ref m16, .ref m17, .ref m18, .int (nI bz), .int (nI dg), .int (nI db), .int (nI df), .int (nI sp), .int tg, .int lf, .int mm, .ref m27, .int fo, .ref m29, .ref m30, .ref m31])), (m7, .inl (y7, 96, .inl h_34)), (m29, .inl (y29, 8, .inl h29)), (m31, .inl (y31, 4, .inl (upd h31 2 0)))]) [1, 2, 3, 4] (by decide) rfl
      have hKc := hK.sub (tys' := [(y7, .int), (y29, .int), (y31, .boolean)]) [0, 1, 3] rfl
      have hFc := va_free (wc := [(mo, .inr (6, [.int th, .int tm, .int (nI sr), .int (nI nc), .ref m4, .ref m5, .ref m6, .ref m7, .ref m8, .ref m9, .ref m10, .ref m11, .ref m12, .int pw, .int rn, .int (nI no), .ref m16, .ref m17, .ref m18, .int (nI bz), .int (nI dg), .int (nI db), .int (nI df), .int (nI sp), .int tg, .int lf, .int mm, .ref m27, .int fo, .ref m29, .ref m30, .ref m31])), (m7, .inl (y7, 96, .inl h_34)), (m29, .inl (y29, 8, .inl h29)), (m31, .inl (y31, 4, .inl (upd h31 2 0)))]) hD hS hA [1, 2, 3, 4] rfl
      refine va_callv (va_runV (As := [.int 1]) (rest := []) ⟨hx, hb, hml, hown, hts⟩ (m_undo l dC dI _ mo m4 m5 m6 m7 m8 m9 m10 m11 m12 m16 m17 m18 m27 m29 m30 m31 th tm pw rn tg lf mm fo sr nc no bz dg db df sp y7 y29 y31 h_34 h29 (upd h31 2 0) 1 a_37 b_37 (by omega) i2_37 i3_37 i1_37) (cwV 1 hts gX8_goes_X8_undo rfl rfl rfl (by decide +kernel) ⟨Nat.le_of_ble_eq_true rfl, Nat.le_of_ble_eq_true rfl⟩) ⟨pt_blindQ, va_recv hK hP (ci := 6) (q0 := 1) rfl rfl, pt_preQ hPc hKc hDc hN⟩ rfl rfl hl.1 rfl (lv_room (Nat.le_of_ble_eq_true rfl)) dX8_goes_113 ⟨Nat.le_of_ble_eq_true rfl, Nat.le_of_ble_eq_true rfl⟩) hS (fun q _ h => hFc q h) hFc (fun u_38 t H1 locs ht hvm hw_38 hB hz1 hk1 hS => ?_)
      obtain ⟨v_38, n_38, F_38⟩ := u_38
      obtain ⟨hP1, hK1, hD1⟩ := hB
      try dsimp only at hw_38
      rw [ht] at hP1
      have hK1 := va_K.moved hvm.symm hK1
      obtain ⟨hP, hD⟩ := va_join (wr := [(m30, .inl (y30, 4, .inl h30))]) (w1 := [(mo, .inr (6, [.int th, .int tm, .int (nI sr), .int (nI nc), .ref m4, .ref m5, .ref m6, .ref m7, .ref m8, .ref m9, .ref m10, .ref m11, .ref m12, .int pw, .int rn, .int (nI no), .ref m16, .ref m17, .ref m18, .int (nI bz), .int (nI dg), .int (nI db), .int (nI df), .int (nI sp), .int tg, .int lf, .int mm, .ref m27, .int fo, .ref m29, .ref m30, .ref m31])), (m7, .inl (y7, 96, .inl (upd (upd h_34 a_37 (h_34 b_37)) b_37 0))), (m29, .inl (y29, 8, .inl h29)), (m31, .inl (y31, 4, .inl (upd (upd h31 2 0) 1 0)))]) hP hD [1, 2, 3, 4] [0] rfl rfl (by decide) (by decide) hk1 hFc hP1 hD1
      have hK := hK.app hK1
      generalize H1 = H at hP hS ⊢
      have hP : va_P (dC, dI) vwCl [(m30, .inl (y30, 4, .inl h30)), (mo, .inr (6, [.int th, .int tm, .int (nI sr), .int (nI nc), .ref m4, .ref m5, .ref m6, .ref m7, .ref m8, .ref m9, .ref m10, .ref m11, .ref m12, .int pw, .int rn, .int (nI no), .ref m16, .ref m17, .ref m18, .int (nI bz), .int (nI dg), .int (nI db), .int (nI df), .int (nI sp), .int tg, .int lf, .int mm, .ref m27, .int fo, .ref m29, .ref m30, .ref m31])), (m7, .inl (y7, 96, .inl (upd (upd h_34 a_37 (h_34 b_37)) b_37 0))), (m29, .inl (y29, 8, .inl h29)), (m31, .inl (y31, 4, .inl (upd (upd h31 2 0) 1 0)))] H := hP
      have hD : va_D A [(m30, .inl (y30, 4, .inl h30)), (mo, .inr (6, [.int th, .int tm, .int (nI sr), .int (nI nc), .ref m4, .ref m5, .ref m6, .ref m7, .ref m8, .ref m9, .ref m10, .ref m11, .ref m12, .int pw, .int rn, .int (nI no), .ref m16, .ref m17, .ref m18, .int (nI bz), .int (nI dg), .int (nI db), .int (nI df), .int (nI sp), .int tg, .int lf, .int mm, .ref m27, .int fo, .ref m29, .ref m30, .ref m31])), (m7, .inl (y7, 96, .inl (upd (upd h_34 a_37 (h_34 b_37)) b_37 0))), (m29, .inl (y29, 8, .inl h29)), (m31, .inl (y31, 4, .inl (upd (upd h31 2 0) 1 0)))] := hD
      have hK : va_K (dC, dI) vwCl [(y7, .int), (y29, .int), (y30, .int), (y31, .boolean)] s := hK
      rw [mundo' i6_37 i7_37 i10_37 i11_37] at hP hD
      have hP : va_P (dC, dI) vwCl [(m30, .inl (y30, 4, .inl h30)), (mo, .inr (6, [.int th, .int tm, .int (nI sr), .int (nI nc), .ref m4, .ref m5, .ref m6, .ref m7, .ref m8, .ref m9, .ref m10, .ref m11, .ref m12, .int pw, .int rn, .int (nI no), .ref m16, .ref m17, .ref m18, .int (nI bz), .int (nI dg), .int (nI db), .int (nI df), .int (nI sp), .int tg, .int lf, .int mm, .ref m27, .int fo, .ref m29, .ref m30, .ref m31])), (m7, .inl (y7, 96, .inl h_37)), (m29, .inl (y29, 8, .inl h29)), (m31, .inl (y31, 4, .inl (upd (upd h31 2 0) 1 0)))] H := hP
      have hD : va_D A [(m30, .inl (y30, 4, .inl h30)), (mo, .inr (6, [.int th, .int tm, .int (nI sr), .int (nI nc), .ref m4, .ref m5, .ref m6, .ref m7, .ref m8, .ref m9, .ref m10, .ref m11, .ref m12, .int pw, .int rn, .int (nI no), .ref m16, .ref m17, .ref m18, .int (nI bz), .int (nI dg), .int (nI db), .int (nI df), .int (nI sp), .int tg, .int lf, .int mm, .ref m27, .int fo, .ref m29, .ref m30, .ref m31])), (m7, .inl (y7, 96, .inl h_37)), (m29, .inl (y29, 8, .inl h29)), (m31, .inl (y31, 4, .inl (upd (upd h31 2 0) 1 0)))] := hD
      have C_37 : ∀ i, mC (h_37 i) := fun i => by rw [← mundo' i6_37 i7_37 i10_37 i11_37]; exact s_upd (fun i => s_upd C_34 (C_34 _) i) (Or.inr ⟨0, by omega, rfl⟩) i
      refine lv_iinc (v := 0) (lv' := [(5, .int 0), (4, .int 1), (3, .int 0), (0, .ref mo), (1, .int (nI tg9)), (2, .int 3)]) hx hb dX8_goes_116 hl (k := 0) rfl (by decide) (by decide) rfl (fun ls hl => ?_)
      refine lv_goto (tgt := 95) hx hb dX8_goes_119 (by decide) ?_
      refine lv_iload hx hb dX8_goes_95 (lv_at hl 0 rfl) ?_
      refine lv_if_lt (tgt := 122) hx hb dX8_goes_97 (by decide) (fun c => absurd c (by decide)) (fun _ => ?_)
      refine lv_aload_n hx hb dX8_goes_100 rfl (lv_at hl 3 rfl) ?_
      refine va_get (D := (dC, dI)) (ci := 6) (v := .ref m31) (C := RX8) (T := TX8) (N := 32) hx hb hts iX8 hown hK hP 1 rfl rfl 31 (by decide) (hts (.fieldLink RX8 60 "ParkTowerModel" "isDone" "[Z") (by decide +kernel)) (fun _ h9 => h9) rfl dX8_goes_101 ?_
      refine lv_iload hx hb dX8_goes_104 (lv_at hl 0 rfl) ?_
      refine va_zald hx hb hK hP 4 3 rfl rfl (vp_in_iff.mpr (by decide)) dX8_goes_106 ?_
      refine lv_topi (fun a_39 ea_39 => ?_)
      have ea_39 : a_39 = (upd (upd h31 2 0) 1 0) 0 := ea_39
      obtain rfl : a_39 = 1 := ea_39.trans ((mD.down (mD.down gD)).yes (by decide))
      refine lv_if_eq (tgt := 116) hx hb dX8_goes_107 (by decide) (fun c => absurd c (by decide)) (fun _ => ?_)
      refine lv_aload_n hx hb dX8_goes_110 rfl (lv_at hl 3 rfl) ?_
      refine lv_iload hx hb dX8_goes_111 (lv_at hl 0 rfl) ?_
      obtain ⟨h_40, a_40, b_40, x_40, m_40, i1_40, i2_40, i3_40, i4_40, i5_40, i6_40, i7_40, i8_40, i9_40, i10_40, i11_40⟩ := m_37
      have hPc := hP.sub (ws' := [(mo, .inr (6, [.int th, .int tm, .int (nI sr), .int (nI nc), .ref m4, .ref m5, .ref m6, .ref m7, .ref m8, .ref m9, .ref m10, .ref m11, .ref m12, .int pw, .int rn, .int (nI no), .ref m16, .ref m17, .ref m18, .int (nI bz), .int (nI dg), .int (nI db), .int (nI df), .int (nI sp), .int tg, .int lf, .int mm, .ref m27, .int fo, .ref m29, .ref m30, .ref m31])), (m7, .inl (y7, 96, .inl h_37)), (m29, .inl (y29, 8, .inl h29)), (m31, .inl (y31, 4, .inl (upd (upd h31 2 0) 1 0)))]) [1, 2, 3, 4] rfl
      have hDc := hD.sub (ws' := [(mo, .inr (6, [.int th, .int tm, .int (nI sr), .int (nI nc), .ref m4, .ref m5, .ref m6, .ref m7, .ref m8, .ref m9, .ref m10, .ref m11, .ref m12, .int pw, .int rn, .int (nI no), .ref m16, .ref m17, .ref m18, .int (nI bz), .int (nI dg), .int (nI db), .int (nI df), .int (nI sp), .int tg, .int lf, .int mm, .ref m27, .int fo, .ref m29, .ref m30, .ref m31])), (m7, .inl (y7, 96, .inl h_37)), (m29, .inl (y29, 8, .inl h29)), (m31, .inl (y31, 4, .inl (upd (upd h31 2 0) 1 0)))]) [1, 2, 3, 4] (by decide) rfl
      have hKc := hK.sub (tys' := [(y7, .int), (y29, .int), (y31, .boolean)]) [0, 1, 3] rfl
      have hFc := va_free (wc := [(mo, .inr (6, [.int th, .int tm, .int (nI sr), .int (nI nc), .ref m4, .ref m5, .ref m6, .ref m7, .ref m8, .ref m9, .ref m10, .ref m11, .ref m12, .int pw, .int rn, .int (nI no), .ref m16, .ref m17, .ref m18, .int (nI bz), .int (nI dg), .int (nI db), .int (nI df), .int (nI sp), .int tg, .int lf, .int mm, .ref m27, .int fo, .ref m29, .ref m30, .ref m31])), (m7, .inl (y7, 96, .inl h_37)), (m29, .inl (y29, 8, .inl h29)), (m31, .inl (y31, 4, .inl (upd (upd h31 2 0) 1 0)))]) hD hS hA [1, 2, 3, 4] rfl
      refine va_callv (va_runV (As := [.int 0]) (rest := []) ⟨hx, hb, hml, hown, hts⟩ (m_undo l dC dI _ mo m4 m5 m6 m7 m8 m9 m10 m11 m12 m16 m17 m18 m27 m29 m30 m31 th tm pw rn tg lf mm fo sr nc no bz dg db df sp y7 y29 y31 h_37 h29 (upd (upd h31 2 0) 1 0) 0 a_40 b_40 (by omega) i2_40 i3_40 i1_40) (cwV 1 hts gX8_goes_X8_undo rfl rfl rfl (by decide +kernel) ⟨Nat.le_of_ble_eq_true rfl, Nat.le_of_ble_eq_true rfl⟩) ⟨pt_blindQ, va_recv hK hP (ci := 6) (q0 := 1) rfl rfl, pt_preQ hPc hKc hDc hN⟩ rfl rfl hl.1 rfl (lv_room (Nat.le_of_ble_eq_true rfl)) dX8_goes_113 ⟨Nat.le_of_ble_eq_true rfl, Nat.le_of_ble_eq_true rfl⟩) hS (fun q _ h => hFc q h) hFc (fun u_41 t H1 locs ht hvm hw_41 hB hz1 hk1 hS => ?_)
      obtain ⟨v_41, n_41, F_41⟩ := u_41
      obtain ⟨hP1, hK1, hD1⟩ := hB
      try dsimp only at hw_41
      rw [ht] at hP1
      have hK1 := va_K.moved hvm.symm hK1
      obtain ⟨hP, hD⟩ := va_join (wr := [(m30, .inl (y30, 4, .inl h30))]) (w1 := [(mo, .inr (6, [.int th, .int tm, .int (nI sr), .int (nI nc), .ref m4, .ref m5, .ref m6, .ref m7, .ref m8, .ref m9, .ref m10, .ref m11, .ref m12, .int pw, .int rn, .int (nI no), .ref m16, .ref m17, .ref m18, .int (nI bz), .int (nI dg), .int (nI db), .int (nI df), .int (nI sp), .int tg, .int lf, .int mm, .ref m27, .int fo, .ref m29, .ref m30, .ref m31])), (m7, .inl (y7, 96, .inl (upd (upd h_37 a_40 (h_37 b_40)) b_40 0))), (m29, .inl (y29, 8, .inl h29)), (m31, .inl (y31, 4, .inl (upd (upd (upd h31 2 0) 1 0) 0 0)))]) hP hD [1, 2, 3, 4] [0] rfl rfl (by decide) (by decide) hk1 hFc hP1 hD1
      have hK := hK.app hK1
      generalize H1 = H at hP hS ⊢
      have hP : va_P (dC, dI) vwCl [(m30, .inl (y30, 4, .inl h30)), (mo, .inr (6, [.int th, .int tm, .int (nI sr), .int (nI nc), .ref m4, .ref m5, .ref m6, .ref m7, .ref m8, .ref m9, .ref m10, .ref m11, .ref m12, .int pw, .int rn, .int (nI no), .ref m16, .ref m17, .ref m18, .int (nI bz), .int (nI dg), .int (nI db), .int (nI df), .int (nI sp), .int tg, .int lf, .int mm, .ref m27, .int fo, .ref m29, .ref m30, .ref m31])), (m7, .inl (y7, 96, .inl (upd (upd h_37 a_40 (h_37 b_40)) b_40 0))), (m29, .inl (y29, 8, .inl h29)), (m31, .inl (y31, 4, .inl (upd (upd (upd h31 2 0) 1 0) 0 0)))] H := hP
      have hD : va_D A [(m30, .inl (y30, 4, .inl h30)), (mo, .inr (6, [.int th, .int tm, .int (nI sr), .int (nI nc), .ref m4, .ref m5, .ref m6, .ref m7, .ref m8, .ref m9, .ref m10, .ref m11, .ref m12, .int pw, .int rn, .int (nI no), .ref m16, .ref m17, .ref m18, .int (nI bz), .int (nI dg), .int (nI db), .int (nI df), .int (nI sp), .int tg, .int lf, .int mm, .ref m27, .int fo, .ref m29, .ref m30, .ref m31])), (m7, .inl (y7, 96, .inl (upd (upd h_37 a_40 (h_37 b_40)) b_40 0))), (m29, .inl (y29, 8, .inl h29)), (m31, .inl (y31, 4, .inl (upd (upd (upd h31 2 0) 1 0) 0 0)))] := hD
      have hK : va_K (dC, dI) vwCl [(y7, .int), (y29, .int), (y30, .int), (y31, .boolean)] s := hK
      rw [mundo' i6_40 i7_40 i10_40 i11_40] at hP hD
      have hP : va_P (dC, dI) vwCl [(m30, .inl (y30, 4, .inl h30)), (mo, .inr (6, [.int th, .int tm, .int (nI sr), .int (nI nc), .ref m4, .ref m5, .ref m6, .ref m7, .ref m8, .ref m9, .ref m10, .ref m11, .ref m12, .int pw, .int rn, .int (nI no), .ref m16, .ref m17, .ref m18, .int (nI bz), .int (nI dg), .int (nI db), .int (nI df), .int (nI sp), .int tg, .int lf, .int mm, .ref m27, .int fo, .ref m29, .ref m30, .ref m31])), (m7, .inl (y7, 96, .inl h_40)), (m29, .inl (y29, 8, .inl h29)), (m31, .inl (y31, 4, .inl (upd (upd (upd h31 2 0) 1 0) 0 0)))] H := hP
      have hD : va_D A [(m30, .inl (y30, 4, .inl h30)), (mo, .inr (6, [.int th, .int tm, .int (nI sr), .int (nI nc), .ref m4, .ref m5, .ref m6, .ref m7, .ref m8, .ref m9, .ref m10, .ref m11, .ref m12, .int pw, .int rn, .int (nI no), .ref m16, .ref m17, .ref m18, .int (nI bz), .int (nI dg), .int (nI db), .int (nI df), .int (nI sp), .int tg, .int lf, .int mm, .ref m27, .int fo, .ref m29, .ref m30, .ref m31])), (m7, .inl (y7, 96, .inl h_40)), (m29, .inl (y29, 8, .inl h29)), (m31, .inl (y31, 4, .inl (upd (upd (upd h31 2 0) 1 0) 0 0)))] := hD
      have C_40 : ∀ i, mC (h_40 i) := fun i => by rw [← mundo' i6_40 i7_40 i10_40 i11_40]; exact s_upd (fun i => s_upd C_37 (C_37 _) i) (Or.inr ⟨0, by omega, rfl⟩) i
      refine lv_iinc (v := (-1)) (lv' := [(5, .int (-1)), (4, .int 1), (3, .int 0), (0, .ref mo), (1, .int (nI tg9)), (2, .int 3)]) hx hb dX8_goes_116 hl (k := 0) rfl (by decide) (by decide) rfl (fun ls hl => ?_)
      refine lv_goto (tgt := 95) hx hb dX8_goes_119 (by decide) ?_
      refine lv_iload hx hb dX8_goes_95 (lv_at hl 0 rfl) ?_
      refine lv_if_lt (tgt := 122) hx hb dX8_goes_97 (by decide) (fun _ => ?_) (fun c => absurd (by decide) c)
      have e9 : h_40 = f7 := m_40
      rw [e9] at hP hD
      have hP : va_P (dC, dI) vwCl [(m30, .inl (y30, 4, .inl h30)), (mo, .inr (6, [.int th, .int tm, .int (nI sr), .int (nI nc), .ref m4, .ref m5, .ref m6, .ref m7, .ref m8, .ref m9, .ref m10, .ref m11, .ref m12, .int pw, .int rn, .int (nI no), .ref m16, .ref m17, .ref m18, .int (nI bz), .int (nI dg), .int (nI db), .int (nI df), .int (nI sp), .int tg, .int lf, .int mm, .ref m27, .int fo, .ref m29, .ref m30, .ref m31])), (m7, .inl (y7, 96, .inl f7)), (m29, .inl (y29, 8, .inl h29)), (m31, .inl (y31, 4, .inl (upd (upd (upd h31 2 0) 1 0) 0 0)))] H := hP
      have hD : va_D A [(m30, .inl (y30, 4, .inl h30)), (mo, .inr (6, [.int th, .int tm, .int (nI sr), .int (nI nc), .ref m4, .ref m5, .ref m6, .ref m7, .ref m8, .ref m9, .ref m10, .ref m11, .ref m12, .int pw, .int rn, .int (nI no), .ref m16, .ref m17, .ref m18, .int (nI bz), .int (nI dg), .int (nI db), .int (nI df), .int (nI sp), .int tg, .int lf, .int mm, .ref m27, .int fo, .ref m29, .ref m30, .ref m31])), (m7, .inl (y7, 96, .inl f7)), (m29, .inl (y29, 8, .inl h29)), (m31, .inl (y31, 4, .inl (upd (upd (upd h31 2 0) 1 0) 0 0)))] := hD
      refine lv_iload hx hb dX8_goes_122 (lv_at hl 1 rfl) ?_
      have hP9 := hP.sub (ws' := [(mo, .inr (6, [.int th, .int tm, .int (nI sr), .int (nI nc), .ref m4, .ref m5, .ref m6, .ref m7, .ref m8, .ref m9, .ref m10, .ref m11, .ref m12, .int pw, .int rn, .int (nI no), .ref m16, .ref m17, .ref m18, .int (nI bz), .int (nI dg), .int (nI db), .int (nI df), .int (nI sp), .int tg, .int lf, .int mm, .ref m27, .int fo, .ref m29, .ref m30, .ref m31])), (m7, .inl (y7, 96, .inl f7)), (m29, .inl (y29, 8, .inl h29)), (m30, .inl (y30, 4, .inl h30)), (m31, .inl (y31, 4, .inl (upd (upd (upd h31 2 0) 1 0) 0 0)))]) [1, 2, 3, 0, 4] rfl
      have hD9 := hD.sub (ws' := [(mo, .inr (6, [.int th, .int tm, .int (nI sr), .int (nI nc), .ref m4, .ref m5, .ref m6, .ref m7, .ref m8, .ref m9, .ref m10, .ref m11, .ref m12, .int pw, .int rn, .int (nI no), .ref m16, .ref m17, .ref m18, .int (nI bz), .int (nI dg), .int (nI db), .int (nI df), .int (nI sp), .int tg, .int lf, .int mm, .ref m27, .int fo, .ref m29, .ref m30, .ref m31])), (m7, .inl (y7, 96, .inl f7)), (m29, .inl (y29, 8, .inl h29)), (m30, .inl (y30, 4, .inl h30)), (m31, .inl (y31, 4, .inl (upd (upd (upd h31 2 0) 1 0) 0 0)))]) [1, 2, 3, 0, 4] (by decide) rfl
      have hK9 := hK.sub (tys' := []) [] rfl
      refine W.widen (k := 0) (n := 0) (by omega) (by omega) ?_
      exact W.zret (v := 1) (ty := .boolean) hx hb hr rfl (fun t ht hW => ⟨⟨1, (fun q_ => ([] : List Int32).getD q_ 0, fun q_ => ([] : List Nat).getD q_ 0, fun q_ => ([h29, h30, upd (upd (upd h31 2 0) 1 0) 0 0] : List (Nat → Int32)).getD q_ (fun _ => 0)), rfl, ⟨Or.inr ⟨rfl, hall⟩, mD.o (mD.down (mD.down (mD.down gD)))⟩, by rw [ht]; exact hP9, va_K.moved hW.alike hK9, hD9⟩, hS.F ht⟩) hS.2.2 dX8_goes_124
    · skip
      obtain rfl := gG rfl
      have hall := mdo.all gm
      have hl : lv_has ls 6 [(4, .int 1), (3, .int 1), (0, .ref mo), (1, .int (nI tg9)), (2, .int 3)] := hl
      have hmu : mu = (577 - t0) * 1000000 + (577 - t1) * 1000 := gz.2.2.1 rfl
      have gp0 : h30 0 = pI t0 := gp.1 (by decide)
      have gp1 : h30 1 = pI t1 := gp.2.1 (by decide)
      refine lv_iload_n hx hb dX8_goes_22 rfl (lv_at hl 1 rfl) ?_
      refine lv_if_lt (tgt := 90) hx hb dX8_goes_23 (by decide) (fun c => absurd c (by decide)) (fun _ => ?_)
      refine lv_iload hx hb dX8_goes_26 (lv_at hl 0 rfl) ?_
      refine lv_if_ne (tgt := 90) hx hb dX8_goes_28 (by decide) (fun _ => ?_) (fun c => absurd c (by decide))
      refine lv_iload_n hx hb dX8_goes_90 rfl (lv_at hl 4 rfl) ?_
      refine lv_iconst (v := 1) hx hb dX8_goes_91 (by decide) ?_
      refine lv_isub hx hb dX8_goes_92 ?_
      refine pt_topi 2 (by decide) ?_
      refine lv_istore (lv' := [(5, .int 2), (4, .int 1), (3, .int 1), (0, .ref mo), (1, .int (nI tg9)), (2, .int 3)]) hx hb dX8_goes_93 hl (by decide) rfl (fun ls hl => ?_)
      refine lv_iload hx hb dX8_goes_95 (lv_at hl 0 rfl) ?_
      refine lv_if_lt (tgt := 122) hx hb dX8_goes_97 (by decide) (fun c => absurd c (by decide)) (fun _ => ?_)
      refine lv_aload_n hx hb dX8_goes_100 rfl (lv_at hl 3 rfl) ?_
      refine va_get (D := (dC, dI)) (ci := 6) (v := .ref m31) (C := RX8) (T := TX8) (N := 32) hx hb hts iX8 hown hK hP 0 rfl rfl 31 (by decide) (hts (.fieldLink RX8 60 "ParkTowerModel" "isDone" "[Z") (by decide +kernel)) (fun _ h9 => h9) rfl dX8_goes_101 ?_
      refine lv_iload hx hb dX8_goes_104 (lv_at hl 0 rfl) ?_
      refine va_zald hx hb hK hP 4 3 rfl rfl (vp_in_iff.mpr (by decide)) dX8_goes_106 ?_
      refine lv_topi (fun a_42 ea_42 => ?_)
      have ea_42 : a_42 = h31 2 := ea_42
      obtain rfl : a_42 = 1 := ea_42.trans (gD.yes (by decide))
      refine lv_if_eq (tgt := 116) hx hb dX8_goes_107 (by decide) (fun c => absurd c (by decide)) (fun _ => ?_)
      refine lv_aload_n hx hb dX8_goes_110 rfl (lv_at hl 3 rfl) ?_
      refine lv_iload hx hb dX8_goes_111 (lv_at hl 0 rfl) ?_
      obtain ⟨h_43, a_43, b_43, x_43, m_43, i1_43, i2_43, i3_43, i4_43, i5_43, i6_43, i7_43, i8_43, i9_43, i10_43, i11_43⟩ := gm
      have hPc := hP.sub (ws' := [(mo, .inr (6, [.int th, .int tm, .int (nI sr), .int (nI nc), .ref m4, .ref m5, .ref m6, .ref m7, .ref m8, .ref m9, .ref m10, .ref m11, .ref m12, .int pw, .int rn, .int (nI no), .ref m16, .ref m17, .ref m18, .int (nI bz), .int (nI dg), .int (nI db), .int (nI df), .int (nI sp), .int tg, .int lf, .int mm, .ref m27, .int fo, .ref m29, .ref m30, .ref m31])), (m7, .inl (y7, 96, .inl h7)), (m29, .inl (y29, 8, .inl h29)), (m31, .inl (y31, 4, .inl h31))]) [0, 1, 2, 4] rfl
      have hDc := hD.sub (ws' := [(mo, .inr (6, [.int th, .int tm, .int (nI sr), .int (nI nc), .ref m4, .ref m5, .ref m6, .ref m7, .ref m8, .ref m9, .ref m10, .ref m11, .ref m12, .int pw, .int rn, .int (nI no), .ref m16, .ref m17, .ref m18, .int (nI bz), .int (nI dg), .int (nI db), .int (nI df), .int (nI sp), .int tg, .int lf, .int mm, .ref m27, .int fo, .ref m29, .ref m30, .ref m31])), (m7, .inl (y7, 96, .inl h7)), (m29, .inl (y29, 8, .inl h29)), (m31, .inl (y31, 4, .inl h31))]) [0, 1, 2, 4] (by decide) rfl
      have hKc := hK.sub (tys' := [(y7, .int), (y29, .int), (y31, .boolean)]) [0, 1, 3] rfl
      have hFc := va_free (wc := [(mo, .inr (6, [.int th, .int tm, .int (nI sr), .int (nI nc), .ref m4, .ref m5, .ref m6, .ref m7, .ref m8, .ref m9, .ref m10, .ref m11, .ref m12, .int pw, .int rn, .int (nI no), .ref m16, .ref m17, .ref m18, .int (nI bz), .int (nI dg), .int (nI db), .int (nI df), .int (nI sp), .int tg, .int lf, .int mm, .ref m27, .int fo, .ref m29, .ref m30, .ref m31])), (m7, .inl (y7, 96, .inl h7)), (m29, .inl (y29, 8, .inl h29)), (m31, .inl (y31, 4, .inl h31))]) hD hS hA [0, 1, 2, 4] rfl
      refine va_callv (va_runV (As := [.int 2]) (rest := []) ⟨hx, hb, hml, hown, hts⟩ (m_undo l dC dI _ mo m4 m5 m6 m7 m8 m9 m10 m11 m12 m16 m17 m18 m27 m29 m30 m31 th tm pw rn tg lf mm fo sr nc no bz dg db df sp y7 y29 y31 h7 h29 h31 2 a_43 b_43 (by omega) i2_43 i3_43 i1_43) (cwV 1 hts gX8_goes_X8_undo rfl rfl rfl (by decide +kernel) ⟨Nat.le_of_ble_eq_true rfl, Nat.le_of_ble_eq_true rfl⟩) ⟨pt_blindQ, va_recv hK hP (ci := 6) (q0 := 0) rfl rfl, pt_preQ hPc hKc hDc hN⟩ rfl rfl hl.1 rfl (lv_room (Nat.le_of_ble_eq_true rfl)) dX8_goes_113 ⟨Nat.le_of_ble_eq_true rfl, Nat.le_of_ble_eq_true rfl⟩) hS (fun q _ h => hFc q h) hFc (fun u_44 t H1 locs ht hvm hw_44 hB hz1 hk1 hS => ?_)
      obtain ⟨v_44, n_44, F_44⟩ := u_44
      obtain ⟨hP1, hK1, hD1⟩ := hB
      try dsimp only at hw_44
      rw [ht] at hP1
      have hK1 := va_K.moved hvm.symm hK1
      obtain ⟨hP, hD⟩ := va_join (wr := [(m30, .inl (y30, 4, .inl h30))]) (w1 := [(mo, .inr (6, [.int th, .int tm, .int (nI sr), .int (nI nc), .ref m4, .ref m5, .ref m6, .ref m7, .ref m8, .ref m9, .ref m10, .ref m11, .ref m12, .int pw, .int rn, .int (nI no), .ref m16, .ref m17, .ref m18, .int (nI bz), .int (nI dg), .int (nI db), .int (nI df), .int (nI sp), .int tg, .int lf, .int mm, .ref m27, .int fo, .ref m29, .ref m30, .ref m31])), (m7, .inl (y7, 96, .inl (upd (upd h7 a_43 (h7 b_43)) b_43 0))), (m29, .inl (y29, 8, .inl h29)), (m31, .inl (y31, 4, .inl (upd h31 2 0)))]) hP hD [0, 1, 2, 4] [3] rfl rfl (by decide) (by decide) hk1 hFc hP1 hD1
      have hK := hK.app hK1
      generalize H1 = H at hP hS ⊢
      have hP : va_P (dC, dI) vwCl [(m30, .inl (y30, 4, .inl h30)), (mo, .inr (6, [.int th, .int tm, .int (nI sr), .int (nI nc), .ref m4, .ref m5, .ref m6, .ref m7, .ref m8, .ref m9, .ref m10, .ref m11, .ref m12, .int pw, .int rn, .int (nI no), .ref m16, .ref m17, .ref m18, .int (nI bz), .int (nI dg), .int (nI db), .int (nI df), .int (nI sp), .int tg, .int lf, .int mm, .ref m27, .int fo, .ref m29, .ref m30, .ref m31])), (m7, .inl (y7, 96, .inl (upd (upd h7 a_43 (h7 b_43)) b_43 0))), (m29, .inl (y29, 8, .inl h29)), (m31, .inl (y31, 4, .inl (upd h31 2 0)))] H := hP
      have hD : va_D A [(m30, .inl (y30, 4, .inl h30)), (mo, .inr (6, [.int th, .int tm, .int (nI sr), .int (nI nc), .ref m4, .ref m5, .ref m6, .ref m7, .ref m8, .ref m9, .ref m10, .ref m11, .ref m12, .int pw, .int rn, .int (nI no), .ref m16, .ref m17, .ref m18, .int (nI bz), .int (nI dg), .int (nI db), .int (nI df), .int (nI sp), .int tg, .int lf, .int mm, .ref m27, .int fo, .ref m29, .ref m30, .ref m31])), (m7, .inl (y7, 96, .inl (upd (upd h7 a_43 (h7 b_43)) b_43 0))), (m29, .inl (y29, 8, .inl h29)), (m31, .inl (y31, 4, .inl (upd h31 2 0)))] := hD
      have hK : va_K (dC, dI) vwCl [(y7, .int), (y29, .int), (y30, .int), (y31, .boolean)] s := hK
      rw [mundo' i6_43 i7_43 i10_43 i11_43] at hP hD
      have hP : va_P (dC, dI) vwCl [(m30, .inl (y30, 4, .inl h30)), (mo, .inr (6, [.int th, .int tm, .int (nI sr), .int (nI nc), .ref m4, .ref m5, .ref m6, .ref m7, .ref m8, .ref m9, .ref m10, .ref m11, .ref m12, .int pw, .int rn, .int (nI no), .ref m16, .ref m17, .ref m18, .int (nI bz), .int (nI dg), .int (nI db), .int (nI df), .int (nI sp), .int tg, .int lf, .int mm, .ref m27, .int fo, .ref m29, .ref m30, .ref m31])), (m7, .inl (y7, 96, .inl h_43)), (m29, .inl (y29, 8, .inl h29)), (m31, .inl (y31, 4, .inl (upd h31 2 0)))] H := hP
      have hD : va_D A [(m30, .inl (y30, 4, .inl h30)), (mo, .inr (6, [.int th, .int tm, .int (nI sr), .int (nI nc), .ref m4, .ref m5, .ref m6, .ref m7, .ref m8, .ref m9, .ref m10, .ref m11, .ref m12, .int pw, .int rn, .int (nI no), .ref m16, .ref m17, .ref m18, .int (nI bz), .int (nI dg), .int (nI db), .int (nI df), .int (nI sp), .int tg, .int lf, .int mm, .ref m27, .int fo, .ref m29, .ref m30, .ref m31])), (m7, .inl (y7, 96, .inl h_43)), (m29, .inl (y29, 8, .inl h29)), (m31, .inl (y31, 4, .inl (upd h31 2 0)))] := hD
      have C_43 : ∀ i, mC (h_43 i) := fun i => by rw [← mundo' i6_43 i7_43 i10_43 i11_43]; exact s_upd (fun i => s_upd gC (gC _) i) (Or.inr ⟨0, by omega, rfl⟩) i
      refine lv_iinc (v := 1) (lv' := [(5, .int 1), (4, .int 1), (3, .int 1), (0, .ref mo), (1, .int (nI tg9)), (2, .int 3)]) hx hb dX8_goes_116 hl (k := 0) rfl (by decide) (by decide) rfl (fun ls hl => ?_)
      refine lv_goto (tgt := 95) hx hb dX8_goes_119 (by decide) ?_
      refine lv_iload hx hb dX8_goes_95 (lv_at hl 0 rfl) ?_
      refine lv_if_lt (tgt := 122) hx hb dX8_goes_97 (by decide) (fun c => absurd c (by decide)) (fun _ => ?_)
      refine lv_aload_n hx hb dX8_goes_100 rfl (lv_at hl 3 rfl) ?_
      refine va_get (D := (dC, dI)) (ci := 6) (v := .ref m31) (C := RX8) (T := TX8) (N := 32) hx hb hts iX8 hown hK hP 1 rfl rfl 31 (by decide) (hts (.fieldLink RX8 60 "ParkTowerModel" "isDone" "[Z") (by decide +kernel)) (fun _ h9 => h9) rfl dX8_goes_101 ?_
      refine lv_iload hx hb dX8_goes_104 (lv_at hl 0 rfl) ?_
      refine va_zald hx hb hK hP 4 3 rfl rfl (vp_in_iff.mpr (by decide)) dX8_goes_106 ?_
      refine lv_topi (fun a_45 ea_45 => ?_)
      have ea_45 : a_45 = (upd h31 2 0) 1 := ea_45
      obtain rfl : a_45 = 1 := ea_45.trans ((mD.down gD).yes (by decide))
      refine lv_if_eq (tgt := 116) hx hb dX8_goes_107 (by decide) (fun c => absurd c (by decide)) (fun _ => ?_)
      refine lv_aload_n hx hb dX8_goes_110 rfl (lv_at hl 3 rfl) ?_
      refine lv_iload hx hb dX8_goes_111 (lv_at hl 0 rfl) ?_
      obtain ⟨h_46, a_46, b_46, x_46, m_46, i1_46, i2_46, i3_46, i4_46, i5_46, i6_46, i7_46, i8_46, i9_46, i10_46, i11_46⟩ := m_43
      have hPc := hP.sub (ws' := [(mo, .inr (6, [.int th, .int tm, .int (nI sr), .int (nI nc), .ref m4, .ref m5, .ref m6, .ref m7, .ref m8, .ref m9, .ref m10, .ref m11, .ref m12, .int pw, .int rn, .int (nI no), .ref m16, .ref m17, .ref m18, .int (nI bz), .int (nI dg), .int (nI db), .int (nI df), .int (nI sp), .int tg, .int lf, .int mm, .ref m27, .int fo, .ref m29, .ref m30, .ref m31])), (m7, .inl (y7, 96, .inl h_43)), (m29, .inl (y29, 8, .inl h29)), (m31, .inl (y31, 4, .inl (upd h31 2 0)))]) [1, 2, 3, 4] rfl
      have hDc := hD.sub (ws' := [(mo, .inr (6, [.int th, .int tm, .int (nI sr), .int (nI nc), .ref m4, .ref m5, .ref m6, .ref m7, .ref m8, .ref m9, .ref m10, .ref m11, .ref m12, .int pw, .int rn, .int (nI no), .ref m16, .ref m17, .ref m18, .int (nI bz), .int (nI dg), .int (nI db), .int (nI df), .int (nI sp), .int tg, .int lf, .int mm, .ref m27, .int fo, .ref m29, .ref m30, .ref m31])), (m7, .inl (y7, 96, .inl h_43)), (m29, .inl (y29, 8, .inl h29)), (m31, .inl (y31, 4, .inl (upd h31 2 0)))]) [1, 2, 3, 4] (by decide) rfl
      have hKc := hK.sub (tys' := [(y7, .int), (y29, .int), (y31, .boolean)]) [0, 1, 3] rfl
      have hFc := va_free (wc := [(mo, .inr (6, [.int th, .int tm, .int (nI sr), .int (nI nc), .ref m4, .ref m5, .ref m6, .ref m7, .ref m8, .ref m9, .ref m10, .ref m11, .ref m12, .int pw, .int rn, .int (nI no), .ref m16, .ref m17, .ref m18, .int (nI bz), .int (nI dg), .int (nI db), .int (nI df), .int (nI sp), .int tg, .int lf, .int mm, .ref m27, .int fo, .ref m29, .ref m30, .ref m31])), (m7, .inl (y7, 96, .inl h_43)), (m29, .inl (y29, 8, .inl h29)), (m31, .inl (y31, 4, .inl (upd h31 2 0)))]) hD hS hA [1, 2, 3, 4] rfl
      refine va_callv (va_runV (As := [.int 1]) (rest := []) ⟨hx, hb, hml, hown, hts⟩ (m_undo l dC dI _ mo m4 m5 m6 m7 m8 m9 m10 m11 m12 m16 m17 m18 m27 m29 m30 m31 th tm pw rn tg lf mm fo sr nc no bz dg db df sp y7 y29 y31 h_43 h29 (upd h31 2 0) 1 a_46 b_46 (by omega) i2_46 i3_46 i1_46) (cwV 1 hts gX8_goes_X8_undo rfl rfl rfl (by decide +kernel) ⟨Nat.le_of_ble_eq_true rfl, Nat.le_of_ble_eq_true rfl⟩) ⟨pt_blindQ, va_recv hK hP (ci := 6) (q0 := 1) rfl rfl, pt_preQ hPc hKc hDc hN⟩ rfl rfl hl.1 rfl (lv_room (Nat.le_of_ble_eq_true rfl)) dX8_goes_113 ⟨Nat.le_of_ble_eq_true rfl, Nat.le_of_ble_eq_true rfl⟩) hS (fun q _ h => hFc q h) hFc (fun u_47 t H1 locs ht hvm hw_47 hB hz1 hk1 hS => ?_)
      obtain ⟨v_47, n_47, F_47⟩ := u_47
      obtain ⟨hP1, hK1, hD1⟩ := hB
      try dsimp only at hw_47
      rw [ht] at hP1
      have hK1 := va_K.moved hvm.symm hK1
      obtain ⟨hP, hD⟩ := va_join (wr := [(m30, .inl (y30, 4, .inl h30))]) (w1 := [(mo, .inr (6, [.int th, .int tm, .int (nI sr), .int (nI nc), .ref m4, .ref m5, .ref m6, .ref m7, .ref m8, .ref m9, .ref m10, .ref m11, .ref m12, .int pw, .int rn, .int (nI no), .ref m16, .ref m17, .ref m18, .int (nI bz), .int (nI dg), .int (nI db), .int (nI df), .int (nI sp), .int tg, .int lf, .int mm, .ref m27, .int fo, .ref m29, .ref m30, .ref m31])), (m7, .inl (y7, 96, .inl (upd (upd h_43 a_46 (h_43 b_46)) b_46 0))), (m29, .inl (y29, 8, .inl h29)), (m31, .inl (y31, 4, .inl (upd (upd h31 2 0) 1 0)))]) hP hD [1, 2, 3, 4] [0] rfl rfl (by decide) (by decide) hk1 hFc hP1 hD1
      have hK := hK.app hK1
      generalize H1 = H at hP hS ⊢
      have hP : va_P (dC, dI) vwCl [(m30, .inl (y30, 4, .inl h30)), (mo, .inr (6, [.int th, .int tm, .int (nI sr), .int (nI nc), .ref m4, .ref m5, .ref m6, .ref m7, .ref m8, .ref m9, .ref m10, .ref m11, .ref m12, .int pw, .int rn, .int (nI no), .ref m16, .ref m17, .ref m18, .int (nI bz), .int (nI dg), .int (nI db), .int (nI df), .int (nI sp), .int tg, .int lf, .int mm, .ref m27, .int fo, .ref m29, .ref m30, .ref m31])), (m7, .inl (y7, 96, .inl (upd (upd h_43 a_46 (h_43 b_46)) b_46 0))), (m29, .inl (y29, 8, .inl h29)), (m31, .inl (y31, 4, .inl (upd (upd h31 2 0) 1 0)))] H := hP
      have hD : va_D A [(m30, .inl (y30, 4, .inl h30)), (mo, .inr (6, [.int th, .int tm, .int (nI sr), .int (nI nc), .ref m4, .ref m5, .ref m6, .ref m7, .ref m8, .ref m9, .ref m10, .ref m11, .ref m12, .int pw, .int rn, .int (nI no), .ref m16, .ref m17, .ref m18, .int (nI bz), .int (nI dg), .int (nI db), .int (nI df), .int (nI sp), .int tg, .int lf, .int mm, .ref m27, .int fo, .ref m29, .ref m30, .ref m31])), (m7, .inl (y7, 96, .inl (upd (upd h_43 a_46 (h_43 b_46)) b_46 0))), (m29, .inl (y29, 8, .inl h29)), (m31, .inl (y31, 4, .inl (upd (upd h31 2 0) 1 0)))] := hD
      have hK : va_K (dC, dI) vwCl [(y7, .int), (y29, .int), (y30, .int), (y31, .boolean)] s := hK
      rw [mundo' i6_46 i7_46 i10_46 i11_46] at hP hD
      have hP : va_P (dC, dI) vwCl [(m30, .inl (y30, 4, .inl h30)), (mo, .inr (6, [.int th, .int tm, .int (nI sr), .int (nI nc), .ref m4, .ref m5, .ref m6, .ref m7, .ref m8, .ref m9, .ref m10, .ref m11, .ref m12, .int pw, .int rn, .int (nI no), .ref m16, .ref m17, .ref m18, .int (nI bz), .int (nI dg), .int (nI db), .int (nI df), .int (nI sp), .int tg, .int lf, .int mm, .ref m27, .int fo, .ref m29, .ref m30, .ref m31])), (m7, .inl (y7, 96, .inl h_46)), (m29, .inl (y29, 8, .inl h29)), (m31, .inl (y31, 4, .inl (upd (upd h31 2 0) 1 0)))] H := hP
      have hD : va_D A [(m30, .inl (y30, 4, .inl h30)), (mo, .inr (6, [.int th, .int tm, .int (nI sr), .int (nI nc), .ref m4, .ref m5, .ref m6, .ref m7, .ref m8, .ref m9, .ref m10, .ref m11, .ref m12, .int pw, .int rn, .int (nI no), .ref m16, .ref m17, .ref m18, .int (nI bz), .int (nI dg), .int (nI db), .int (nI df), .int (nI sp), .int tg, .int lf, .int mm, .ref m27, .int fo, .ref m29, .ref m30, .ref m31])), (m7, .inl (y7, 96, .inl h_46)), (m29, .inl (y29, 8, .inl h29)), (m31, .inl (y31, 4, .inl (upd (upd h31 2 0) 1 0)))] := hD
      have C_46 : ∀ i, mC (h_46 i) := fun i => by rw [← mundo' i6_46 i7_46 i10_46 i11_46]; exact s_upd (fun i => s_upd C_43 (C_43 _) i) (Or.inr ⟨0, by omega, rfl⟩) i
      refine lv_iinc (v := 0) (lv' := [(5, .int 0), (4, .int 1), (3, .int 1), (0, .ref mo), (1, .int (nI tg9)), (2, .int 3)]) hx hb dX8_goes_116 hl (k := 0) rfl (by decide) (by decide) rfl (fun ls hl => ?_)
      refine lv_goto (tgt := 95) hx hb dX8_goes_119 (by decide) ?_
      refine lv_iload hx hb dX8_goes_95 (lv_at hl 0 rfl) ?_
      refine lv_if_lt (tgt := 122) hx hb dX8_goes_97 (by decide) (fun c => absurd c (by decide)) (fun _ => ?_)
      refine lv_aload_n hx hb dX8_goes_100 rfl (lv_at hl 3 rfl) ?_
      refine va_get (D := (dC, dI)) (ci := 6) (v := .ref m31) (C := RX8) (T := TX8) (N := 32) hx hb hts iX8 hown hK hP 1 rfl rfl 31 (by decide) (hts (.fieldLink RX8 60 "ParkTowerModel" "isDone" "[Z") (by decide +kernel)) (fun _ h9 => h9) rfl dX8_goes_101 ?_
      refine lv_iload hx hb dX8_goes_104 (lv_at hl 0 rfl) ?_
      refine va_zald hx hb hK hP 4 3 rfl rfl (vp_in_iff.mpr (by decide)) dX8_goes_106 ?_
      refine lv_topi (fun a_48 ea_48 => ?_)
      have ea_48 : a_48 = (upd (upd h31 2 0) 1 0) 0 := ea_48
      obtain rfl : a_48 = 1 := ea_48.trans ((mD.down (mD.down gD)).yes (by decide))
      refine lv_if_eq (tgt := 116) hx hb dX8_goes_107 (by decide) (fun c => absurd c (by decide)) (fun _ => ?_)
      refine lv_aload_n hx hb dX8_goes_110 rfl (lv_at hl 3 rfl) ?_
      refine lv_iload hx hb dX8_goes_111 (lv_at hl 0 rfl) ?_
      obtain ⟨h_49, a_49, b_49, x_49, m_49, i1_49, i2_49, i3_49, i4_49, i5_49, i6_49, i7_49, i8_49, i9_49, i10_49, i11_49⟩ := m_46
      have hPc := hP.sub (ws' := [(mo, .inr (6, [.int th, .int tm, .int (nI sr), .int (nI nc), .ref m4, .ref m5, .ref m6, .ref m7, .ref m8, .ref m9, .ref m10, .ref m11, .ref m12, .int pw, .int rn, .int (nI no), .ref m16, .ref m17, .ref m18, .int (nI bz), .int (nI dg), .int (nI db), .int (nI df), .int (nI sp), .int tg, .int lf, .int mm, .ref m27, .int fo, .ref m29, .ref m30, .ref m31])), (m7, .inl (y7, 96, .inl h_46)), (m29, .inl (y29, 8, .inl h29)), (m31, .inl (y31, 4, .inl (upd (upd h31 2 0) 1 0)))]) [1, 2, 3, 4] rfl
      have hDc := hD.sub (ws' := [(mo, .inr (6, [.int th, .int tm, .int (nI sr), .int (nI nc), .ref m4, .ref m5, .ref m6, .ref m7, .ref m8, .ref m9, .ref m10, .ref m11, .ref m12, .int pw, .int rn, .int (nI no), .ref m16, .ref m17, .ref m18, .int (nI bz), .int (nI dg), .int (nI db), .int (nI df), .int (nI sp), .int tg, .int lf, .int mm, .ref m27, .int fo, .ref m29, .ref m30, .ref m31])), (m7, .inl (y7, 96, .inl h_46)), (m29, .inl (y29, 8, .inl h29)), (m31, .inl (y31, 4, .inl (upd (upd h31 2 0) 1 0)))]) [1, 2, 3, 4] (by decide) rfl
      have hKc := hK.sub (tys' := [(y7, .int), (y29, .int), (y31, .boolean)]) [0, 1, 3] rfl
      have hFc := va_free (wc := [(mo, .inr (6, [.int th, .int tm, .int (nI sr), .int (nI nc), .ref m4, .ref m5, .ref m6, .ref m7, .ref m8, .ref m9, .ref m10, .ref m11, .ref m12, .int pw, .int rn, .int (nI no), .ref m16, .ref m17, .ref m18, .int (nI bz), .int (nI dg), .int (nI db), .int (nI df), .int (nI sp), .int tg, .int lf, .int mm, .ref m27, .int fo, .ref m29, .ref m30, .ref m31])), (m7, .inl (y7, 96, .inl h_46)), (m29, .inl (y29, 8, .inl h29)), (m31, .inl (y31, 4, .inl (upd (upd h31 2 0) 1 0)))]) hD hS hA [1, 2, 3, 4] rfl
      refine va_callv (va_runV (As := [.int 0]) (rest := []) ⟨hx, hb, hml, hown, hts⟩ (m_undo l dC dI _ mo m4 m5 m6 m7 m8 m9 m10 m11 m12 m16 m17 m18 m27 m29 m30 m31 th tm pw rn tg lf mm fo sr nc no bz dg db df sp y7 y29 y31 h_46 h29 (upd (upd h31 2 0) 1 0) 0 a_49 b_49 (by omega) i2_49 i3_49 i1_49) (cwV 1 hts gX8_goes_X8_undo rfl rfl rfl (by decide +kernel) ⟨Nat.le_of_ble_eq_true rfl, Nat.le_of_ble_eq_true rfl⟩) ⟨pt_blindQ, va_recv hK hP (ci := 6) (q0 := 1) rfl rfl, pt_preQ hPc hKc hDc hN⟩ rfl rfl hl.1 rfl (lv_room (Nat.le_of_ble_eq_true rfl)) dX8_goes_113 ⟨Nat.le_of_ble_eq_true rfl, Nat.le_of_ble_eq_true rfl⟩) hS (fun q _ h => hFc q h) hFc (fun u_50 t H1 locs ht hvm hw_50 hB hz1 hk1 hS => ?_)
      obtain ⟨v_50, n_50, F_50⟩ := u_50
      obtain ⟨hP1, hK1, hD1⟩ := hB
      try dsimp only at hw_50
      rw [ht] at hP1
      have hK1 := va_K.moved hvm.symm hK1
      obtain ⟨hP, hD⟩ := va_join (wr := [(m30, .inl (y30, 4, .inl h30))]) (w1 := [(mo, .inr (6, [.int th, .int tm, .int (nI sr), .int (nI nc), .ref m4, .ref m5, .ref m6, .ref m7, .ref m8, .ref m9, .ref m10, .ref m11, .ref m12, .int pw, .int rn, .int (nI no), .ref m16, .ref m17, .ref m18, .int (nI bz), .int (nI dg), .int (nI db), .int (nI df), .int (nI sp), .int tg, .int lf, .int mm, .ref m27, .int fo, .ref m29, .ref m30, .ref m31])), (m7, .inl (y7, 96, .inl (upd (upd h_46 a_49 (h_46 b_49)) b_49 0))), (m29, .inl (y29, 8, .inl h29)), (m31, .inl (y31, 4, .inl (upd (upd (upd h31 2 0) 1 0) 0 0)))]) hP hD [1, 2, 3, 4] [0] rfl rfl (by decide) (by decide) hk1 hFc hP1 hD1
      have hK := hK.app hK1
      generalize H1 = H at hP hS ⊢
      have hP : va_P (dC, dI) vwCl [(m30, .inl (y30, 4, .inl h30)), (mo, .inr (6, [.int th, .int tm, .int (nI sr), .int (nI nc), .ref m4, .ref m5, .ref m6, .ref m7, .ref m8, .ref m9, .ref m10, .ref m11, .ref m12, .int pw, .int rn, .int (nI no), .ref m16, .ref m17, .ref m18, .int (nI bz), .int (nI dg), .int (nI db), .int (nI df), .int (nI sp), .int tg, .int lf, .int mm, .ref m27, .int fo, .ref m29, .ref m30, .ref m31])), (m7, .inl (y7, 96, .inl (upd (upd h_46 a_49 (h_46 b_49)) b_49 0))), (m29, .inl (y29, 8, .inl h29)), (m31, .inl (y31, 4, .inl (upd (upd (upd h31 2 0) 1 0) 0 0)))] H := hP
      have hD : va_D A [(m30, .inl (y30, 4, .inl h30)), (mo, .inr (6, [.int th, .int tm, .int (nI sr), .int (nI nc), .ref m4, .ref m5, .ref m6, .ref m7, .ref m8, .ref m9, .ref m10, .ref m11, .ref m12, .int pw, .int rn, .int (nI no), .ref m16, .ref m17, .ref m18, .int (nI bz), .int (nI dg), .int (nI db), .int (nI df), .int (nI sp), .int tg, .int lf, .int mm, .ref m27, .int fo, .ref m29, .ref m30, .ref m31])), (m7, .inl (y7, 96, .inl (upd (upd h_46 a_49 (h_46 b_49)) b_49 0))), (m29, .inl (y29, 8, .inl h29)), (m31, .inl (y31, 4, .inl (upd (upd (upd h31 2 0) 1 0) 0 0)))] := hD
      have hK : va_K (dC, dI) vwCl [(y7, .int), (y29, .int), (y30, .int), (y31, .boolean)] s := hK
      rw [mundo' i6_49 i7_49 i10_49 i11_49] at hP hD
      have hP : va_P (dC, dI) vwCl [(m30, .inl (y30, 4, .inl h30)), (mo, .inr (6, [.int th, .int tm, .int (nI sr), .int (nI nc), .ref m4, .ref m5, .ref m6, .ref m7, .ref m8, .ref m9, .ref m10, .ref m11, .ref m12, .int pw, .int rn, .int (nI no), .ref m16, .ref m17, .ref m18, .int (nI bz), .int (nI dg), .int (nI db), .int (nI df), .int (nI sp), .int tg, .int lf, .int mm, .ref m27, .int fo, .ref m29, .ref m30, .ref m31])), (m7, .inl (y7, 96, .inl h_49)), (m29, .inl (y29, 8, .inl h29)), (m31, .inl (y31, 4, .inl (upd (upd (upd h31 2 0) 1 0) 0 0)))] H := hP
      have hD : va_D A [(m30, .inl (y30, 4, .inl h30)), (mo, .inr (6, [.int th, .int tm, .int (nI sr), .int (nI nc), .ref m4, .ref m5, .ref m6, .ref m7, .ref m8, .ref m9, .ref m10, .ref m11, .ref m12, .int pw, .int rn, .int (nI no), .ref m16, .ref m17, .ref m18, .int (nI bz), .int (nI dg), .int (nI db), .int (nI df), .int (nI sp), .int tg, .int lf, .int mm, .ref m27, .int fo, .ref m29, .ref m30, .ref m31])), (m7, .inl (y7, 96, .inl h_49)), (m29, .inl (y29, 8, .inl h29)), (m31, .inl (y31, 4, .inl (upd (upd (upd h31 2 0) 1 0) 0 0)))] := hD
      have C_49 : ∀ i, mC (h_49 i) := fun i => by rw [← mundo' i6_49 i7_49 i10_49 i11_49]; exact s_upd (fun i => s_upd C_46 (C_46 _) i) (Or.inr ⟨0, by omega, rfl⟩) i
      refine lv_iinc (v := (-1)) (lv' := [(5, .int (-1)), (4, .int 1), (3, .int 1), (0, .ref mo), (1, .int (nI tg9)), (2, .int 3)]) hx hb dX8_goes_116 hl (k := 0) rfl (by decide) (by decide) rfl (fun ls hl => ?_)
      refine lv_goto (tgt := 95) hx hb dX8_goes_119 (by decide) ?_
      refine lv_iload hx hb dX8_goes_95 (lv_at hl 0 rfl) ?_
      refine lv_if_lt (tgt := 122) hx hb dX8_goes_97 (by decide) (fun _ => ?_) (fun c => absurd (by decide) c)
      have e9 : h_49 = f7 := m_49
      rw [e9] at hP hD
      have hP : va_P (dC, dI) vwCl [(m30, .inl (y30, 4, .inl h30)), (mo, .inr (6, [.int th, .int tm, .int (nI sr), .int (nI nc), .ref m4, .ref m5, .ref m6, .ref m7, .ref m8, .ref m9, .ref m10, .ref m11, .ref m12, .int pw, .int rn, .int (nI no), .ref m16, .ref m17, .ref m18, .int (nI bz), .int (nI dg), .int (nI db), .int (nI df), .int (nI sp), .int tg, .int lf, .int mm, .ref m27, .int fo, .ref m29, .ref m30, .ref m31])), (m7, .inl (y7, 96, .inl f7)), (m29, .inl (y29, 8, .inl h29)), (m31, .inl (y31, 4, .inl (upd (upd (upd h31 2 0) 1 0) 0 0)))] H := hP
      have hD : va_D A [(m30, .inl (y30, 4, .inl h30)), (mo, .inr (6, [.int th, .int tm, .int (nI sr), .int (nI nc), .ref m4, .ref m5, .ref m6, .ref m7, .ref m8, .ref m9, .ref m10, .ref m11, .ref m12, .int pw, .int rn, .int (nI no), .ref m16, .ref m17, .ref m18, .int (nI bz), .int (nI dg), .int (nI db), .int (nI df), .int (nI sp), .int tg, .int lf, .int mm, .ref m27, .int fo, .ref m29, .ref m30, .ref m31])), (m7, .inl (y7, 96, .inl f7)), (m29, .inl (y29, 8, .inl h29)), (m31, .inl (y31, 4, .inl (upd (upd (upd h31 2 0) 1 0) 0 0)))] := hD
      refine lv_iload hx hb dX8_goes_122 (lv_at hl 1 rfl) ?_
      have hP9 := hP.sub (ws' := [(mo, .inr (6, [.int th, .int tm, .int (nI sr), .int (nI nc), .ref m4, .ref m5, .ref m6, .ref m7, .ref m8, .ref m9, .ref m10, .ref m11, .ref m12, .int pw, .int rn, .int (nI no), .ref m16, .ref m17, .ref m18, .int (nI bz), .int (nI dg), .int (nI db), .int (nI df), .int (nI sp), .int tg, .int lf, .int mm, .ref m27, .int fo, .ref m29, .ref m30, .ref m31])), (m7, .inl (y7, 96, .inl f7)), (m29, .inl (y29, 8, .inl h29)), (m30, .inl (y30, 4, .inl h30)), (m31, .inl (y31, 4, .inl (upd (upd (upd h31 2 0) 1 0) 0 0)))]) [1, 2, 3, 0, 4] rfl
      have hD9 := hD.sub (ws' := [(mo, .inr (6, [.int th, .int tm, .int (nI sr), .int (nI nc), .ref m4, .ref m5, .ref m6, .ref m7, .ref m8, .ref m9, .ref m10, .ref m11, .ref m12, .int pw, .int rn, .int (nI no), .ref m16, .ref m17, .ref m18, .int (nI bz), .int (nI dg), .int (nI db), .int (nI df), .int (nI sp), .int tg, .int lf, .int mm, .ref m27, .int fo, .ref m29, .ref m30, .ref m31])), (m7, .inl (y7, 96, .inl f7)), (m29, .inl (y29, 8, .inl h29)), (m30, .inl (y30, 4, .inl h30)), (m31, .inl (y31, 4, .inl (upd (upd (upd h31 2 0) 1 0) 0 0)))]) [1, 2, 3, 0, 4] (by decide) rfl
      have hK9 := hK.sub (tys' := []) [] rfl
      refine W.widen (k := 0) (n := 0) (by omega) (by omega) ?_
      exact W.zret (v := 1) (ty := .boolean) hx hb hr rfl (fun t ht hW => ⟨⟨1, (fun q_ => ([] : List Int32).getD q_ 0, fun q_ => ([] : List Nat).getD q_ 0, fun q_ => ([h29, h30, upd (upd (upd h31 2 0) 1 0) 0 0] : List (Nat → Int32)).getD q_ (fun _ => 0)), rfl, ⟨Or.inr ⟨rfl, hall⟩, mD.o (mD.down (mD.down (mD.down gD)))⟩, by rw [ht]; exact hP9, va_K.moved hW.alike hK9, hD9⟩, hS.F ht⟩) hS.2.2 dX8_goes_124
    · skip
      obtain rfl := gG rfl
      have hall := mdo.all gm
      have hl : lv_has ls 6 [(4, .int 1), (3, .int 2), (0, .ref mo), (1, .int (nI tg9)), (2, .int 3)] := hl
      have hmu : mu = (577 - t0) * 1000000 + (577 - t1) * 1000 + (577 - t2) := gz.2.2.2 rfl
      have gp0 : h30 0 = pI t0 := gp.1 (by decide)
      have gp1 : h30 1 = pI t1 := gp.2.1 (by decide)
      have gp2 : h30 2 = pI t2 := gp.2.2 (by decide)
      refine lv_iload_n hx hb dX8_goes_22 rfl (lv_at hl 1 rfl) ?_
      refine lv_if_lt (tgt := 90) hx hb dX8_goes_23 (by decide) (fun c => absurd c (by decide)) (fun _ => ?_)
      refine lv_iload hx hb dX8_goes_26 (lv_at hl 0 rfl) ?_
      refine lv_if_ne (tgt := 90) hx hb dX8_goes_28 (by decide) (fun _ => ?_) (fun c => absurd c (by decide))
      refine lv_iload_n hx hb dX8_goes_90 rfl (lv_at hl 4 rfl) ?_
      refine lv_iconst (v := 1) hx hb dX8_goes_91 (by decide) ?_
      refine lv_isub hx hb dX8_goes_92 ?_
      refine pt_topi 2 (by decide) ?_
      refine lv_istore (lv' := [(5, .int 2), (4, .int 1), (3, .int 2), (0, .ref mo), (1, .int (nI tg9)), (2, .int 3)]) hx hb dX8_goes_93 hl (by decide) rfl (fun ls hl => ?_)
      refine lv_iload hx hb dX8_goes_95 (lv_at hl 0 rfl) ?_
      refine lv_if_lt (tgt := 122) hx hb dX8_goes_97 (by decide) (fun c => absurd c (by decide)) (fun _ => ?_)
      refine lv_aload_n hx hb dX8_goes_100 rfl (lv_at hl 3 rfl) ?_
      refine va_get (D := (dC, dI)) (ci := 6) (v := .ref m31) (C := RX8) (T := TX8) (N := 32) hx hb hts iX8 hown hK hP 0 rfl rfl 31 (by decide) (hts (.fieldLink RX8 60 "ParkTowerModel" "isDone" "[Z") (by decide +kernel)) (fun _ h9 => h9) rfl dX8_goes_101 ?_
      refine lv_iload hx hb dX8_goes_104 (lv_at hl 0 rfl) ?_
      refine va_zald hx hb hK hP 4 3 rfl rfl (vp_in_iff.mpr (by decide)) dX8_goes_106 ?_
      refine lv_topi (fun a_51 ea_51 => ?_)
      have ea_51 : a_51 = h31 2 := ea_51
      obtain rfl : a_51 = 1 := ea_51.trans (gD.yes (by decide))
      refine lv_if_eq (tgt := 116) hx hb dX8_goes_107 (by decide) (fun c => absurd c (by decide)) (fun _ => ?_)
      refine lv_aload_n hx hb dX8_goes_110 rfl (lv_at hl 3 rfl) ?_
      refine lv_iload hx hb dX8_goes_111 (lv_at hl 0 rfl) ?_
      obtain ⟨h_52, a_52, b_52, x_52, m_52, i1_52, i2_52, i3_52, i4_52, i5_52, i6_52, i7_52, i8_52, i9_52, i10_52, i11_52⟩ := gm
      have hPc := hP.sub (ws' := [(mo, .inr (6, [.int th, .int tm, .int (nI sr), .int (nI nc), .ref m4, .ref m5, .ref m6, .ref m7, .ref m8, .ref m9, .ref m10, .ref m11, .ref m12, .int pw, .int rn, .int (nI no), .ref m16, .ref m17, .ref m18, .int (nI bz), .int (nI dg), .int (nI db), .int (nI df), .int (nI sp), .int tg, .int lf, .int mm, .ref m27, .int fo, .ref m29, .ref m30, .ref m31])), (m7, .inl (y7, 96, .inl h7)), (m29, .inl (y29, 8, .inl h29)), (m31, .inl (y31, 4, .inl h31))]) [0, 1, 2, 4] rfl
      have hDc := hD.sub (ws' := [(mo, .inr (6, [.int th, .int tm, .int (nI sr), .int (nI nc), .ref m4, .ref m5, .ref m6, .ref m7, .ref m8, .ref m9, .ref m10, .ref m11, .ref m12, .int pw, .int rn, .int (nI no), .ref m16, .ref m17, .ref m18, .int (nI bz), .int (nI dg), .int (nI db), .int (nI df), .int (nI sp), .int tg, .int lf, .int mm, .ref m27, .int fo, .ref m29, .ref m30, .ref m31])), (m7, .inl (y7, 96, .inl h7)), (m29, .inl (y29, 8, .inl h29)), (m31, .inl (y31, 4, .inl h31))]) [0, 1, 2, 4] (by decide) rfl
      have hKc := hK.sub (tys' := [(y7, .int), (y29, .int), (y31, .boolean)]) [0, 1, 3] rfl
      have hFc := va_free (wc := [(mo, .inr (6, [.int th, .int tm, .int (nI sr), .int (nI nc), .ref m4, .ref m5, .ref m6, .ref m7, .ref m8, .ref m9, .ref m10, .ref m11, .ref m12, .int pw, .int rn, .int (nI no), .ref m16, .ref m17, .ref m18, .int (nI bz), .int (nI dg), .int (nI db), .int (nI df), .int (nI sp), .int tg, .int lf, .int mm, .ref m27, .int fo, .ref m29, .ref m30, .ref m31])), (m7, .inl (y7, 96, .inl h7)), (m29, .inl (y29, 8, .inl h29)), (m31, .inl (y31, 4, .inl h31))]) hD hS hA [0, 1, 2, 4] rfl
      refine va_callv (va_runV (As := [.int 2]) (rest := []) ⟨hx, hb, hml, hown, hts⟩ (m_undo l dC dI _ mo m4 m5 m6 m7 m8 m9 m10 m11 m12 m16 m17 m18 m27 m29 m30 m31 th tm pw rn tg lf mm fo sr nc no bz dg db df sp y7 y29 y31 h7 h29 h31 2 a_52 b_52 (by omega) i2_52 i3_52 i1_52) (cwV 1 hts gX8_goes_X8_undo rfl rfl rfl (by decide +kernel) ⟨Nat.le_of_ble_eq_true rfl, Nat.le_of_ble_eq_true rfl⟩) ⟨pt_blindQ, va_recv hK hP (ci := 6) (q0 := 0) rfl rfl, pt_preQ hPc hKc hDc hN⟩ rfl rfl hl.1 rfl (lv_room (Nat.le_of_ble_eq_true rfl)) dX8_goes_113 ⟨Nat.le_of_ble_eq_true rfl, Nat.le_of_ble_eq_true rfl⟩) hS (fun q _ h => hFc q h) hFc (fun u_53 t H1 locs ht hvm hw_53 hB hz1 hk1 hS => ?_)
      obtain ⟨v_53, n_53, F_53⟩ := u_53
      obtain ⟨hP1, hK1, hD1⟩ := hB
      try dsimp only at hw_53
      rw [ht] at hP1
      have hK1 := va_K.moved hvm.symm hK1
      obtain ⟨hP, hD⟩ := va_join (wr := [(m30, .inl (y30, 4, .inl h30))]) (w1 := [(mo, .inr (6, [.int th, .int tm, .int (nI sr), .int (nI nc), .ref m4, .ref m5, .ref m6, .ref m7, .ref m8, .ref m9, .ref m10, .ref m11, .ref m12, .int pw, .int rn, .int (nI no), .ref m16, .ref m17, .ref m18, .int (nI bz), .int (nI dg), .int (nI db), .int (nI df), .int (nI sp), .int tg, .int lf, .int mm, .ref m27, .int fo, .ref m29, .ref m30, .ref m31])), (m7, .inl (y7, 96, .inl (upd (upd h7 a_52 (h7 b_52)) b_52 0))), (m29, .inl (y29, 8, .inl h29)), (m31, .inl (y31, 4, .inl (upd h31 2 0)))]) hP hD [0, 1, 2, 4] [3] rfl rfl (by decide) (by decide) hk1 hFc hP1 hD1
      have hK := hK.app hK1
      generalize H1 = H at hP hS ⊢
      have hP : va_P (dC, dI) vwCl [(m30, .inl (y30, 4, .inl h30)), (mo, .inr (6, [.int th, .int tm, .int (nI sr), .int (nI nc), .ref m4, .ref m5, .ref m6, .ref m7, .ref m8, .ref m9, .ref m10, .ref m11, .ref m12, .int pw, .int rn, .int (nI no), .ref m16, .ref m17, .ref m18, .int (nI bz), .int (nI dg), .int (nI db), .int (nI df), .int (nI sp), .int tg, .int lf, .int mm, .ref m27, .int fo, .ref m29, .ref m30, .ref m31])), (m7, .inl (y7, 96, .inl (upd (upd h7 a_52 (h7 b_52)) b_52 0))), (m29, .inl (y29, 8, .inl h29)), (m31, .inl (y31, 4, .inl (upd h31 2 0)))] H := hP
      have hD : va_D A [(m30, .inl (y30, 4, .inl h30)), (mo, .inr (6, [.int th, .int tm, .int (nI sr), .int (nI nc), .ref m4, .ref m5, .ref m6, .ref m7, .ref m8, .ref m9, .ref m10, .ref m11, .ref m12, .int pw, .int rn, .int (nI no), .ref m16, .ref m17, .ref m18, .int (nI bz), .int (nI dg), .int (nI db), .int (nI df), .int (nI sp), .int tg, .int lf, .int mm, .ref m27, .int fo, .ref m29, .ref m30, .ref m31])), (m7, .inl (y7, 96, .inl (upd (upd h7 a_52 (h7 b_52)) b_52 0))), (m29, .inl (y29, 8, .inl h29)), (m31, .inl (y31, 4, .inl (upd h31 2 0)))] := hD
      have hK : va_K (dC, dI) vwCl [(y7, .int), (y29, .int), (y30, .int), (y31, .boolean)] s := hK
      rw [mundo' i6_52 i7_52 i10_52 i11_52] at hP hD
      have hP : va_P (dC, dI) vwCl [(m30, .inl (y30, 4, .inl h30)), (mo, .inr (6, [.int th, .int tm, .int (nI sr), .int (nI nc), .ref m4, .ref m5, .ref m6, .ref m7, .ref m8, .ref m9, .ref m10, .ref m11, .ref m12, .int pw, .int rn, .int (nI no), .ref m16, .ref m17, .ref m18, .int (nI bz), .int (nI dg), .int (nI db), .int (nI df), .int (nI sp), .int tg, .int lf, .int mm, .ref m27, .int fo, .ref m29, .ref m30, .ref m31])), (m7, .inl (y7, 96, .inl h_52)), (m29, .inl (y29, 8, .inl h29)), (m31, .inl (y31, 4, .inl (upd h31 2 0)))] H := hP
      have hD : va_D A [(m30, .inl (y30, 4, .inl h30)), (mo, .inr (6, [.int th, .int tm, .int (nI sr), .int (nI nc), .ref m4, .ref m5, .ref m6, .ref m7, .ref m8, .ref m9, .ref m10, .ref m11, .ref m12, .int pw, .int rn, .int (nI no), .ref m16, .ref m17, .ref m18, .int (nI bz), .int (nI dg), .int (nI db), .int (nI df), .int (nI sp), .int tg, .int lf, .int mm, .ref m27, .int fo, .ref m29, .ref m30, .ref m31])), (m7, .inl (y7, 96, .inl h_52)), (m29, .inl (y29, 8, .inl h29)), (m31, .inl (y31, 4, .inl (upd h31 2 0)))] := hD
      have C_52 : ∀ i, mC (h_52 i) := fun i => by rw [← mundo' i6_52 i7_52 i10_52 i11_52]; exact s_upd (fun i => s_upd gC (gC _) i) (Or.inr ⟨0, by omega, rfl⟩) i
      refine lv_iinc (v := 1) (lv' := [(5, .int 1), (4, .int 1), (3, .int 2), (0, .ref mo), (1, .int (nI tg9)), (2, .int 3)]) hx hb dX8_goes_116 hl (k := 0) rfl (by decide) (by decide) rfl (fun ls hl => ?_)
      refine lv_goto (tgt := 95) hx hb dX8_goes_119 (by decide) ?_
      refine lv_iload hx hb dX8_goes_95 (lv_at hl 0 rfl) ?_
      refine lv_if_lt (tgt := 122) hx hb dX8_goes_97 (by decide) (fun c => absurd c (by decide)) (fun _ => ?_)
      refine lv_aload_n hx hb dX8_goes_100 rfl (lv_at hl 3 rfl) ?_
      refine va_get (D := (dC, dI)) (ci := 6) (v := .ref m31) (C := RX8) (T := TX8) (N := 32) hx hb hts iX8 hown hK hP 1 rfl rfl 31 (by decide) (hts (.fieldLink RX8 60 "ParkTowerModel" "isDone" "[Z") (by decide +kernel)) (fun _ h9 => h9) rfl dX8_goes_101 ?_
      refine lv_iload hx hb dX8_goes_104 (lv_at hl 0 rfl) ?_
      refine va_zald hx hb hK hP 4 3 rfl rfl (vp_in_iff.mpr (by decide)) dX8_goes_106 ?_
      refine lv_topi (fun a_54 ea_54 => ?_)
      have ea_54 : a_54 = (upd h31 2 0) 1 := ea_54
      obtain rfl : a_54 = 1 := ea_54.trans ((mD.down gD).yes (by decide))
      refine lv_if_eq (tgt := 116) hx hb dX8_goes_107 (by decide) (fun c => absurd c (by decide)) (fun _ => ?_)
      refine lv_aload_n hx hb dX8_goes_110 rfl (lv_at hl 3 rfl) ?_
      refine lv_iload hx hb dX8_goes_111 (lv_at hl 0 rfl) ?_
      obtain ⟨h_55, a_55, b_55, x_55, m_55, i1_55, i2_55, i3_55, i4_55, i5_55, i6_55, i7_55, i8_55, i9_55, i10_55, i11_55⟩ := m_52
      have hPc := hP.sub (ws' := [(mo, .inr (6, [.int th, .int tm, .int (nI sr), .int (nI nc), .ref m4, .ref m5, .ref m6, .ref m7, .ref m8, .ref m9, .ref m10, .ref m11, .ref m12, .int pw, .int rn, .int (nI no), .ref m16, .ref m17, .ref m18, .int (nI bz), .int (nI dg), .int (nI db), .int (nI df), .int (nI sp), .int tg, .int lf, .int mm, .ref m27, .int fo, .ref m29, .ref m30, .ref m31])), (m7, .inl (y7, 96, .inl h_52)), (m29, .inl (y29, 8, .inl h29)), (m31, .inl (y31, 4, .inl (upd h31 2 0)))]) [1, 2, 3, 4] rfl
      have hDc := hD.sub (ws' := [(mo, .inr (6, [.int th, .int tm, .int (nI sr), .int (nI nc), .ref m4, .ref m5, .ref m6, .ref m7, .ref m8, .ref m9, .ref m10, .ref m11, .ref m12, .int pw, .int rn, .int (nI no), .ref m16, .ref m17, .ref m18, .int (nI bz), .int (nI dg), .int (nI db), .int (nI df), .int (nI sp), .int tg, .int lf, .int mm, .ref m27, .int fo, .ref m29, .ref m30, .ref m31])), (m7, .inl (y7, 96, .inl h_52)), (m29, .inl (y29, 8, .inl h29)), (m31, .inl (y31, 4, .inl (upd h31 2 0)))]) [1, 2, 3, 4] (by decide) rfl
      have hKc := hK.sub (tys' := [(y7, .int), (y29, .int), (y31, .boolean)]) [0, 1, 3] rfl
      have hFc := va_free (wc := [(mo, .inr (6, [.int th, .int tm, .int (nI sr), .int (nI nc), .ref m4, .ref m5, .ref m6, .ref m7, .ref m8, .ref m9, .ref m10, .ref m11, .ref m12, .int pw, .int rn, .int (nI no), .ref m16, .ref m17, .ref m18, .int (nI bz), .int (nI dg), .int (nI db), .int (nI df), .int (nI sp), .int tg, .int lf, .int mm, .ref m27, .int fo, .ref m29, .ref m30, .ref m31])), (m7, .inl (y7, 96, .inl h_52)), (m29, .inl (y29, 8, .inl h29)), (m31, .inl (y31, 4, .inl (upd h31 2 0)))]) hD hS hA [1, 2, 3, 4] rfl
      refine va_callv (va_runV (As := [.int 1]) (rest := []) ⟨hx, hb, hml, hown, hts⟩ (m_undo l dC dI _ mo m4 m5 m6 m7 m8 m9 m10 m11 m12 m16 m17 m18 m27 m29 m30 m31 th tm pw rn tg lf mm fo sr nc no bz dg db df sp y7 y29 y31 h_52 h29 (upd h31 2 0) 1 a_55 b_55 (by omega) i2_55 i3_55 i1_55) (cwV 1 hts gX8_goes_X8_undo rfl rfl rfl (by decide +kernel) ⟨Nat.le_of_ble_eq_true rfl, Nat.le_of_ble_eq_true rfl⟩) ⟨pt_blindQ, va_recv hK hP (ci := 6) (q0 := 1) rfl rfl, pt_preQ hPc hKc hDc hN⟩ rfl rfl hl.1 rfl (lv_room (Nat.le_of_ble_eq_true rfl)) dX8_goes_113 ⟨Nat.le_of_ble_eq_true rfl, Nat.le_of_ble_eq_true rfl⟩) hS (fun q _ h => hFc q h) hFc (fun u_56 t H1 locs ht hvm hw_56 hB hz1 hk1 hS => ?_)
      obtain ⟨v_56, n_56, F_56⟩ := u_56
      obtain ⟨hP1, hK1, hD1⟩ := hB
      try dsimp only at hw_56
      rw [ht] at hP1
      have hK1 := va_K.moved hvm.symm hK1
      obtain ⟨hP, hD⟩ := va_join (wr := [(m30, .inl (y30, 4, .inl h30))]) (w1 := [(mo, .inr (6, [.int th, .int tm, .int (nI sr), .int (nI nc), .ref m4, .ref m5, .ref m6, .ref m7, .ref m8, .ref m9, .ref m10, .ref m11, .ref m12, .int pw, .int rn, .int (nI no), .ref m16, .ref m17, .ref m18, .int (nI bz), .int (nI dg), .int (nI db), .int (nI df), .int (nI sp), .int tg, .int lf, .int mm, .ref m27, .int fo, .ref m29, .ref m30, .ref m31])), (m7, .inl (y7, 96, .inl (upd (upd h_52 a_55 (h_52 b_55)) b_55 0))), (m29, .inl (y29, 8, .inl h29)), (m31, .inl (y31, 4, .inl (upd (upd h31 2 0) 1 0)))]) hP hD [1, 2, 3, 4] [0] rfl rfl (by decide) (by decide) hk1 hFc hP1 hD1
      have hK := hK.app hK1
      generalize H1 = H at hP hS ⊢
      have hP : va_P (dC, dI) vwCl [(m30, .inl (y30, 4, .inl h30)), (mo, .inr (6, [.int th, .int tm, .int (nI sr), .int (nI nc), .ref m4, .ref m5, .ref m6, .ref m7, .ref m8, .ref m9, .ref m10, .ref m11, .ref m12, .int pw, .int rn, .int (nI no), .ref m16, .ref m17, .ref m18, .int (nI bz), .int (nI dg), .int (nI db), .int (nI df), .int (nI sp), .int tg, .int lf, .int mm, .ref m27, .int fo, .ref m29, .ref m30, .ref m31])), (m7, .inl (y7, 96, .inl (upd (upd h_52 a_55 (h_52 b_55)) b_55 0))), (m29, .inl (y29, 8, .inl h29)), (m31, .inl (y31, 4, .inl (upd (upd h31 2 0) 1 0)))] H := hP
      have hD : va_D A [(m30, .inl (y30, 4, .inl h30)), (mo, .inr (6, [.int th, .int tm, .int (nI sr), .int (nI nc), .ref m4, .ref m5, .ref m6, .ref m7, .ref m8, .ref m9, .ref m10, .ref m11, .ref m12, .int pw, .int rn, .int (nI no), .ref m16, .ref m17, .ref m18, .int (nI bz), .int (nI dg), .int (nI db), .int (nI df), .int (nI sp), .int tg, .int lf, .int mm, .ref m27, .int fo, .ref m29, .ref m30, .ref m31])), (m7, .inl (y7, 96, .inl (upd (upd h_52 a_55 (h_52 b_55)) b_55 0))), (m29, .inl (y29, 8, .inl h29)), (m31, .inl (y31, 4, .inl (upd (upd h31 2 0) 1 0)))] := hD
      have hK : va_K (dC, dI) vwCl [(y7, .int), (y29, .int), (y30, .int), (y31, .boolean)] s := hK
      rw [mundo' i6_55 i7_55 i10_55 i11_55] at hP hD
      have hP : va_P (dC, dI) vwCl [(m30, .inl (y30, 4, .inl h30)), (mo, .inr (6, [.int th, .int tm, .int (nI sr), .int (nI nc), .ref m4, .ref m5, .ref m6, .ref m7, .ref m8, .ref m9, .ref m10, .ref m11, .ref m12, .int pw, .int rn, .int (nI no), .ref m16, .ref m17, .ref m18, .int (nI bz), .int (nI dg), .int (nI db), .int (nI df), .int (nI sp), .int tg, .int lf, .int mm, .ref m27, .int fo, .ref m29, .ref m30, .ref m31])), (m7, .inl (y7, 96, .inl h_55)), (m29, .inl (y29, 8, .inl h29)), (m31, .inl (y31, 4, .inl (upd (upd h31 2 0) 1 0)))] H := hP
      have hD : va_D A [(m30, .inl (y30, 4, .inl h30)), (mo, .inr (6, [.int th, .int tm, .int (nI sr), .int (nI nc), .ref m4, .ref m5, .ref m6, .ref m7, .ref m8, .ref m9, .ref m10, .ref m11, .ref m12, .int pw, .int rn, .int (nI no), .ref m16, .ref m17, .ref m18, .int (nI bz), .int (nI dg), .int (nI db), .int (nI df), .int (nI sp), .int tg, .int lf, .int mm, .ref m27, .int fo, .ref m29, .ref m30, .ref m31])), (m7, .inl (y7, 96, .inl h_55)), (m29, .inl (y29, 8, .inl h29)), (m31, .inl (y31, 4, .inl (upd (upd h31 2 0) 1 0)))] := hD
      have C_55 : ∀ i, mC (h_55 i) := fun i => by rw [← mundo' i6_55 i7_55 i10_55 i11_55]; exact s_upd (fun i => s_upd C_52 (C_52 _) i) (Or.inr ⟨0, by omega, rfl⟩) i
      refine lv_iinc (v := 0) (lv' := [(5, .int 0), (4, .int 1), (3, .int 2), (0, .ref mo), (1, .int (nI tg9)), (2, .int 3)]) hx hb dX8_goes_116 hl (k := 0) rfl (by decide) (by decide) rfl (fun ls hl => ?_)
      refine lv_goto (tgt := 95) hx hb dX8_goes_119 (by decide) ?_
      refine lv_iload hx hb dX8_goes_95 (lv_at hl 0 rfl) ?_
      refine lv_if_lt (tgt := 122) hx hb dX8_goes_97 (by decide) (fun c => absurd c (by decide)) (fun _ => ?_)
      refine lv_aload_n hx hb dX8_goes_100 rfl (lv_at hl 3 rfl) ?_
      refine va_get (D := (dC, dI)) (ci := 6) (v := .ref m31) (C := RX8) (T := TX8) (N := 32) hx hb hts iX8 hown hK hP 1 rfl rfl 31 (by decide) (hts (.fieldLink RX8 60 "ParkTowerModel" "isDone" "[Z") (by decide +kernel)) (fun _ h9 => h9) rfl dX8_goes_101 ?_
      refine lv_iload hx hb dX8_goes_104 (lv_at hl 0 rfl) ?_
      refine va_zald hx hb hK hP 4 3 rfl rfl (vp_in_iff.mpr (by decide)) dX8_goes_106 ?_
      refine lv_topi (fun a_57 ea_57 => ?_)
      have ea_57 : a_57 = (upd (upd h31 2 0) 1 0) 0 := ea_57
      obtain rfl : a_57 = 1 := ea_57.trans ((mD.down (mD.down gD)).yes (by decide))
      refine lv_if_eq (tgt := 116) hx hb dX8_goes_107 (by decide) (fun c => absurd c (by decide)) (fun _ => ?_)
      refine lv_aload_n hx hb dX8_goes_110 rfl (lv_at hl 3 rfl) ?_
      refine lv_iload hx hb dX8_goes_111 (lv_at hl 0 rfl) ?_
      obtain ⟨h_58, a_58, b_58, x_58, m_58, i1_58, i2_58, i3_58, i4_58, i5_58, i6_58, i7_58, i8_58, i9_58, i10_58, i11_58⟩ := m_55
      have hPc := hP.sub (ws' := [(mo, .inr (6, [.int th, .int tm, .int (nI sr), .int (nI nc), .ref m4, .ref m5, .ref m6, .ref m7, .ref m8, .ref m9, .ref m10, .ref m11, .ref m12, .int pw, .int rn, .int (nI no), .ref m16, .ref m17, .ref m18, .int (nI bz), .int (nI dg), .int (nI db), .int (nI df), .int (nI sp), .int tg, .int lf, .int mm, .ref m27, .int fo, .ref m29, .ref m30, .ref m31])), (m7, .inl (y7, 96, .inl h_55)), (m29, .inl (y29, 8, .inl h29)), (m31, .inl (y31, 4, .inl (upd (upd h31 2 0) 1 0)))]) [1, 2, 3, 4] rfl
      have hDc := hD.sub (ws' := [(mo, .inr (6, [.int th, .int tm, .int (nI sr), .int (nI nc), .ref m4, .ref m5, .ref m6, .ref m7, .ref m8, .ref m9, .ref m10, .ref m11, .ref m12, .int pw, .int rn, .int (nI no), .ref m16, .ref m17, .ref m18, .int (nI bz), .int (nI dg), .int (nI db), .int (nI df), .int (nI sp), .int tg, .int lf, .int mm, .ref m27, .int fo, .ref m29, .ref m30, .ref m31])), (m7, .inl (y7, 96, .inl h_55)), (m29, .inl (y29, 8, .inl h29)), (m31, .inl (y31, 4, .inl (upd (upd h31 2 0) 1 0)))]) [1, 2, 3, 4] (by decide) rfl
      have hKc := hK.sub (tys' := [(y7, .int), (y29, .int), (y31, .boolean)]) [0, 1, 3] rfl
      have hFc := va_free (wc := [(mo, .inr (6, [.int th, .int tm, .int (nI sr), .int (nI nc), .ref m4, .ref m5, .ref m6, .ref m7, .ref m8, .ref m9, .ref m10, .ref m11, .ref m12, .int pw, .int rn, .int (nI no), .ref m16, .ref m17, .ref m18, .int (nI bz), .int (nI dg), .int (nI db), .int (nI df), .int (nI sp), .int tg, .int lf, .int mm, .ref m27, .int fo, .ref m29, .ref m30, .ref m31])), (m7, .inl (y7, 96, .inl h_55)), (m29, .inl (y29, 8, .inl h29)), (m31, .inl (y31, 4, .inl (upd (upd h31 2 0) 1 0)))]) hD hS hA [1, 2, 3, 4] rfl
      refine va_callv (va_runV (As := [.int 0]) (rest := []) ⟨hx, hb, hml, hown, hts⟩ (m_undo l dC dI _ mo m4 m5 m6 m7 m8 m9 m10 m11 m12 m16 m17 m18 m27 m29 m30 m31 th tm pw rn tg lf mm fo sr nc no bz dg db df sp y7 y29 y31 h_55 h29 (upd (upd h31 2 0) 1 0) 0 a_58 b_58 (by omega) i2_58 i3_58 i1_58) (cwV 1 hts gX8_goes_X8_undo rfl rfl rfl (by decide +kernel) ⟨Nat.le_of_ble_eq_true rfl, Nat.le_of_ble_eq_true rfl⟩) ⟨pt_blindQ, va_recv hK hP (ci := 6) (q0 := 1) rfl rfl, pt_preQ hPc hKc hDc hN⟩ rfl rfl hl.1 rfl (lv_room (Nat.le_of_ble_eq_true rfl)) dX8_goes_113 ⟨Nat.le_of_ble_eq_true rfl, Nat.le_of_ble_eq_true rfl⟩) hS (fun q _ h => hFc q h) hFc (fun u_59 t H1 locs ht hvm hw_59 hB hz1 hk1 hS => ?_)
      obtain ⟨v_59, n_59, F_59⟩ := u_59
      obtain ⟨hP1, hK1, hD1⟩ := hB
      try dsimp only at hw_59
      rw [ht] at hP1
      have hK1 := va_K.moved hvm.symm hK1
      obtain ⟨hP, hD⟩ := va_join (wr := [(m30, .inl (y30, 4, .inl h30))]) (w1 := [(mo, .inr (6, [.int th, .int tm, .int (nI sr), .int (nI nc), .ref m4, .ref m5, .ref m6, .ref m7, .ref m8, .ref m9, .ref m10, .ref m11, .ref m12, .int pw, .int rn, .int (nI no), .ref m16, .ref m17, .ref m18, .int (nI bz), .int (nI dg), .int (nI db), .int (nI df), .int (nI sp), .int tg, .int lf, .int mm, .ref m27, .int fo, .ref m29, .ref m30, .ref m31])), (m7, .inl (y7, 96, .inl (upd (upd h_55 a_58 (h_55 b_58)) b_58 0))), (m29, .inl (y29, 8, .inl h29)), (m31, .inl (y31, 4, .inl (upd (upd (upd h31 2 0) 1 0) 0 0)))]) hP hD [1, 2, 3, 4] [0] rfl rfl (by decide) (by decide) hk1 hFc hP1 hD1
      have hK := hK.app hK1
      generalize H1 = H at hP hS ⊢
      have hP : va_P (dC, dI) vwCl [(m30, .inl (y30, 4, .inl h30)), (mo, .inr (6, [.int th, .int tm, .int (nI sr), .int (nI nc), .ref m4, .ref m5, .ref m6, .ref m7, .ref m8, .ref m9, .ref m10, .ref m11, .ref m12, .int pw, .int rn, .int (nI no), .ref m16, .ref m17, .ref m18, .int (nI bz), .int (nI dg), .int (nI db), .int (nI df), .int (nI sp), .int tg, .int lf, .int mm, .ref m27, .int fo, .ref m29, .ref m30, .ref m31])), (m7, .inl (y7, 96, .inl (upd (upd h_55 a_58 (h_55 b_58)) b_58 0))), (m29, .inl (y29, 8, .inl h29)), (m31, .inl (y31, 4, .inl (upd (upd (upd h31 2 0) 1 0) 0 0)))] H := hP
      have hD : va_D A [(m30, .inl (y30, 4, .inl h30)), (mo, .inr (6, [.int th, .int tm, .int (nI sr), .int (nI nc), .ref m4, .ref m5, .ref m6, .ref m7, .ref m8, .ref m9, .ref m10, .ref m11, .ref m12, .int pw, .int rn, .int (nI no), .ref m16, .ref m17, .ref m18, .int (nI bz), .int (nI dg), .int (nI db), .int (nI df), .int (nI sp), .int tg, .int lf, .int mm, .ref m27, .int fo, .ref m29, .ref m30, .ref m31])), (m7, .inl (y7, 96, .inl (upd (upd h_55 a_58 (h_55 b_58)) b_58 0))), (m29, .inl (y29, 8, .inl h29)), (m31, .inl (y31, 4, .inl (upd (upd (upd h31 2 0) 1 0) 0 0)))] := hD
      have hK : va_K (dC, dI) vwCl [(y7, .int), (y29, .int), (y30, .int), (y31, .boolean)] s := hK
      rw [mundo' i6_58 i7_58 i10_58 i11_58] at hP hD
      have hP : va_P (dC, dI) vwCl [(m30, .inl (y30, 4, .inl h30)), (mo, .inr (6, [.int th, .int tm, .int (nI sr), .int (nI nc), .ref m4, .ref m5, .ref m6, .ref m7, .ref m8, .ref m9, .ref m10, .ref m11, .ref m12, .int pw, .int rn, .int (nI no), .ref m16, .ref m17, .ref m18, .int (nI bz), .int (nI dg), .int (nI db), .int (nI df), .int (nI sp), .int tg, .int lf, .int mm, .ref m27, .int fo, .ref m29, .ref m30, .ref m31])), (m7, .inl (y7, 96, .inl h_58)), (m29, .inl (y29, 8, .inl h29)), (m31, .inl (y31, 4, .inl (upd (upd (upd h31 2 0) 1 0) 0 0)))] H := hP
      have hD : va_D A [(m30, .inl (y30, 4, .inl h30)), (mo, .inr (6, [.int th, .int tm, .int (nI sr), .int (nI nc), .ref m4, .ref m5, .ref m6, .ref m7, .ref m8, .ref m9, .ref m10, .ref m11, .ref m12, .int pw, .int rn, .int (nI no), .ref m16, .ref m17, .ref m18, .int (nI bz), .int (nI dg), .int (nI db), .int (nI df), .int (nI sp), .int tg, .int lf, .int mm, .ref m27, .int fo, .ref m29, .ref m30, .ref m31])), (m7, .inl (y7, 96, .inl h_58)), (m29, .inl (y29, 8, .inl h29)), (m31, .inl (y31, 4, .inl (upd (upd (upd h31 2 0) 1 0) 0 0)))] := hD
      have C_58 : ∀ i, mC (h_58 i) := fun i => by rw [← mundo' i6_58 i7_58 i10_58 i11_58]; exact s_upd (fun i => s_upd C_55 (C_55 _) i) (Or.inr ⟨0, by omega, rfl⟩) i
      refine lv_iinc (v := (-1)) (lv' := [(5, .int (-1)), (4, .int 1), (3, .int 2), (0, .ref mo), (1, .int (nI tg9)), (2, .int 3)]) hx hb dX8_goes_116 hl (k := 0) rfl (by decide) (by decide) rfl (fun ls hl => ?_)
      refine lv_goto (tgt := 95) hx hb dX8_goes_119 (by decide) ?_
      refine lv_iload hx hb dX8_goes_95 (lv_at hl 0 rfl) ?_
      refine lv_if_lt (tgt := 122) hx hb dX8_goes_97 (by decide) (fun _ => ?_) (fun c => absurd (by decide) c)
      have e9 : h_58 = f7 := m_58
      rw [e9] at hP hD
      have hP : va_P (dC, dI) vwCl [(m30, .inl (y30, 4, .inl h30)), (mo, .inr (6, [.int th, .int tm, .int (nI sr), .int (nI nc), .ref m4, .ref m5, .ref m6, .ref m7, .ref m8, .ref m9, .ref m10, .ref m11, .ref m12, .int pw, .int rn, .int (nI no), .ref m16, .ref m17, .ref m18, .int (nI bz), .int (nI dg), .int (nI db), .int (nI df), .int (nI sp), .int tg, .int lf, .int mm, .ref m27, .int fo, .ref m29, .ref m30, .ref m31])), (m7, .inl (y7, 96, .inl f7)), (m29, .inl (y29, 8, .inl h29)), (m31, .inl (y31, 4, .inl (upd (upd (upd h31 2 0) 1 0) 0 0)))] H := hP
      have hD : va_D A [(m30, .inl (y30, 4, .inl h30)), (mo, .inr (6, [.int th, .int tm, .int (nI sr), .int (nI nc), .ref m4, .ref m5, .ref m6, .ref m7, .ref m8, .ref m9, .ref m10, .ref m11, .ref m12, .int pw, .int rn, .int (nI no), .ref m16, .ref m17, .ref m18, .int (nI bz), .int (nI dg), .int (nI db), .int (nI df), .int (nI sp), .int tg, .int lf, .int mm, .ref m27, .int fo, .ref m29, .ref m30, .ref m31])), (m7, .inl (y7, 96, .inl f7)), (m29, .inl (y29, 8, .inl h29)), (m31, .inl (y31, 4, .inl (upd (upd (upd h31 2 0) 1 0) 0 0)))] := hD
      refine lv_iload hx hb dX8_goes_122 (lv_at hl 1 rfl) ?_
      have hP9 := hP.sub (ws' := [(mo, .inr (6, [.int th, .int tm, .int (nI sr), .int (nI nc), .ref m4, .ref m5, .ref m6, .ref m7, .ref m8, .ref m9, .ref m10, .ref m11, .ref m12, .int pw, .int rn, .int (nI no), .ref m16, .ref m17, .ref m18, .int (nI bz), .int (nI dg), .int (nI db), .int (nI df), .int (nI sp), .int tg, .int lf, .int mm, .ref m27, .int fo, .ref m29, .ref m30, .ref m31])), (m7, .inl (y7, 96, .inl f7)), (m29, .inl (y29, 8, .inl h29)), (m30, .inl (y30, 4, .inl h30)), (m31, .inl (y31, 4, .inl (upd (upd (upd h31 2 0) 1 0) 0 0)))]) [1, 2, 3, 0, 4] rfl
      have hD9 := hD.sub (ws' := [(mo, .inr (6, [.int th, .int tm, .int (nI sr), .int (nI nc), .ref m4, .ref m5, .ref m6, .ref m7, .ref m8, .ref m9, .ref m10, .ref m11, .ref m12, .int pw, .int rn, .int (nI no), .ref m16, .ref m17, .ref m18, .int (nI bz), .int (nI dg), .int (nI db), .int (nI df), .int (nI sp), .int tg, .int lf, .int mm, .ref m27, .int fo, .ref m29, .ref m30, .ref m31])), (m7, .inl (y7, 96, .inl f7)), (m29, .inl (y29, 8, .inl h29)), (m30, .inl (y30, 4, .inl h30)), (m31, .inl (y31, 4, .inl (upd (upd (upd h31 2 0) 1 0) 0 0)))]) [1, 2, 3, 0, 4] (by decide) rfl
      have hK9 := hK.sub (tys' := []) [] rfl
      refine W.widen (k := 0) (n := 0) (by omega) (by omega) ?_
      exact W.zret (v := 1) (ty := .boolean) hx hb hr rfl (fun t ht hW => ⟨⟨1, (fun q_ => ([] : List Int32).getD q_ 0, fun q_ => ([] : List Nat).getD q_ 0, fun q_ => ([h29, h30, upd (upd (upd h31 2 0) 1 0) 0 0] : List (Nat → Int32)).getD q_ (fun _ => 0)), rfl, ⟨Or.inr ⟨rfl, hall⟩, mD.o (mD.down (mD.down (mD.down gD)))⟩, by rw [ht]; exact hP9, va_K.moved hW.alike hK9, hD9⟩, hS.F ht⟩) hS.2.2 dX8_goes_124
set_option maxHeartbeats 4000000 in
set_option maxRecDepth 100000 in
theorem m_planOf (l : Launch) (dC : Nat → ClassId) (dI : Nat → Nat → Nat) (sz : Nat) (mo m4 m5 m6 m7 m8 m9 m10 m11 m12 m16 m17 m18 m27 m29 m30 m31 : Nat) (th tm pw rn tg lf mm fo : Int32) (sr nc no bz dg db df sp : Nat) (y6 y7 y29 y30 y31 : ClassId) (f6 f7 f29 f30 f31 : Nat → Int32) (k9 : Nat) (hk9 : k9 < 700) (hp : ∀ i, sC (f6 i)) (hf : ∀ i, mC (f7 i)) (hdn : ∀ i, f31 i = 0) : Met l yX8_planOf wsX8_planOf ({ frames := 5, cells := 0, slots := 0, locals := 115 }) (va_Pc [.ref mo, .int (nI k9)] (pt_BQ (dC, dI) [(mo, .inr (6, [.int th, .int tm, .int (nI sr), .int (nI nc), .ref m4, .ref m5, .ref m6, .ref m7, .ref m8, .ref m9, .ref m10, .ref m11, .ref m12, .int pw, .int rn, .int (nI no), .ref m16, .ref m17, .ref m18, .int (nI bz), .int (nI dg), .int (nI db), .int (nI df), .int (nI sp), .int tg, .int lf, .int mm, .ref m27, .int fo, .ref m29, .ref m30, .ref m31])), (m6, .inl (y6, 700, .inl f6)), (m7, .inl (y7, 96, .inl f7)), (m29, .inl (y29, 8, .inl f29)), (m30, .inl (y30, 4, .inl f30)), (m31, .inl (y31, 4, .inl f31))] [(y6, .int), (y7, .int), (y29, .int), (y30, .int), (y31, .boolean)] sz)) (va_Qi (fun (r : Int32) (u : (Nat → Int32) × (Nat → Nat) × (Nat → Nat → Int32)) => (r = (-1) ∨ ∃ n : Nat, n ≤ 3 ∧ r = nI n ∧ ∀ q : Nat, q < 96 → f6 k9 = nI q → mch (u.2.2 0) (q / 24) 0 n f7) ∧ (∀ i, (u.2.2 2) i = 0)) (fun u t => pt_at (dC, dI) (va_A [(mo, .inr (6, [.int th, .int tm, .int (nI sr), .int (nI nc), .ref m4, .ref m5, .ref m6, .ref m7, .ref m8, .ref m9, .ref m10, .ref m11, .ref m12, .int pw, .int rn, .int (nI no), .ref m16, .ref m17, .ref m18, .int (nI bz), .int (nI dg), .int (nI db), .int (nI df), .int (nI sp), .int tg, .int lf, .int mm, .ref m27, .int fo, .ref m29, .ref m30, .ref m31])), (m6, .inl (y6, 700, .inl f6)), (m7, .inl (y7, 96, .inl f7)), (m29, .inl (y29, 8, .inl f29)), (m30, .inl (y30, 4, .inl f30)), (m31, .inl (y31, 4, .inl f31))] sz) [(mo, .inr (6, [.int th, .int tm, .int (nI sr), .int (nI nc), .ref m4, .ref m5, .ref m6, .ref m7, .ref m8, .ref m9, .ref m10, .ref m11, .ref m12, .int pw, .int rn, .int (nI no), .ref m16, .ref m17, .ref m18, .int (nI bz), .int (nI dg), .int (nI db), .int (nI df), .int (nI sp), .int tg, .int lf, .int mm, .ref m27, .int fo, .ref m29, .ref m30, .ref m31])), (m6, .inl (y6, 700, .inl f6)), (m7, .inl (y7, 96, .inl f7)), (m29, .inl (y29, 8, .inl (u.2.2 0))), (m30, .inl (y30, 4, .inl (u.2.2 1))), (m31, .inl (y31, 4, .inl (u.2.2 2)))] [] t) (va_A [(mo, .inr (6, [.int th, .int tm, .int (nI sr), .int (nI nc), .ref m4, .ref m5, .ref m6, .ref m7, .ref m8, .ref m9, .ref m10, .ref m11, .ref m12, .int pw, .int rn, .int (nI no), .ref m16, .ref m17, .ref m18, .int (nI bz), .int (nI dg), .int (nI db), .int (nI df), .int (nI sp), .int tg, .int lf, .int mm, .ref m27, .int fo, .ref m29, .ref m30, .ref m31])), (m6, .inl (y6, 700, .inl f6)), (m7, .inl (y7, 96, .inl f7)), (m29, .inl (y29, 8, .inl f29)), (m30, .inl (y30, 4, .inl f30)), (m31, .inl (y31, 4, .inl f31))] sz)) 0 0 (va_A [(mo, .inr (6, [.int th, .int tm, .int (nI sr), .int (nI nc), .ref m4, .ref m5, .ref m6, .ref m7, .ref m8, .ref m9, .ref m10, .ref m11, .ref m12, .int pw, .int rn, .int (nI no), .ref m16, .ref m17, .ref m18, .int (nI bz), .int (nI dg), .int (nI db), .int (nI df), .int (nI sp), .int tg, .int lf, .int mm, .ref m27, .int fo, .ref m29, .ref m30, .ref m31])), (m6, .inl (y6, 700, .inl f6)), (m7, .inl (y7, 96, .inl f7)), (m29, .inl (y29, 8, .inl f29)), (m30, .inl (y30, 4, .inl f30)), (m31, .inl (y31, 4, .inl f31))] sz) := by
  refine Met.ofW (cc := cX8_planOf) (maxL := 3) (ret := (some .int)) (by decide) rfl ?_
  intro p e s m args below meth c s₁ B hml hv
  obtain ⟨rfl, hsz, hP, hK, hD0, hN⟩ := hv
  have hx := B.exec
  have hb := B.bytes
  have hr := B.returns
  have hts := atoms_spec (ws := wsX8_planOf) B.pre
  have hown : s.vm.findClass RX8 = some m.cls := findClass_of_methodNamed B.named
  have hlocks := B.notSynchronized
  have iX8 : ∀ w ∈ wsX80, w ∈ wsX8_planOf := by decide +kernel
  subst hsz
  have hD := hD0.self (sz := s.heap.size)
  generalize hAe : va_A [(mo, .inr (6, [.int th, .int tm, .int (nI sr), .int (nI nc), .ref m4, .ref m5, .ref m6, .ref m7, .ref m8, .ref m9, .ref m10, .ref m11, .ref m12, .int pw, .int rn, .int (nI no), .ref m16, .ref m17, .ref m18, .int (nI bz), .int (nI dg), .int (nI db), .int (nI df), .int (nI sp), .int tg, .int lf, .int mm, .ref m27, .int fo, .ref m29, .ref m30, .ref m31])), (m6, .inl (y6, 700, .inl f6)), (m7, .inl (y7, 96, .inl f7)), (m29, .inl (y29, 8, .inl f29)), (m30, .inl (y30, 4, .inl f30)), (m31, .inl (y31, 4, .inl f31))] s.heap.size = A at hD ⊢
  have hA : ∀ q : Nat, s.heap.size ≤ q → A q := fun q h => by rw [← hAe]; exact Or.inr h
  have hS : va_S A s.heap s.heap [] := va_S.rf
  have hP : va_P (dC, dI) vwCl [(mo, .inr (6, [.int th, .int tm, .int (nI sr), .int (nI nc), .ref m4, .ref m5, .ref m6, .ref m7, .ref m8, .ref m9, .ref m10, .ref m11, .ref m12, .int pw, .int rn, .int (nI no), .ref m16, .ref m17, .ref m18, .int (nI bz), .int (nI dg), .int (nI db), .int (nI df), .int (nI sp), .int tg, .int lf, .int mm, .ref m27, .int fo, .ref m29, .ref m30, .ref m31])), (m6, .inl (y6, 700, .inl f6)), (m7, .inl (y7, 96, .inl f7)), (m29, .inl (y29, 8, .inl f29)), (m30, .inl (y30, 4, .inl f30)), (m31, .inl (y31, 4, .inl f31))] s.heap := hP
  have hK : va_K (dC, dI) vwCl [(y6, .int), (y7, .int), (y29, .int), (y30, .int), (y31, .boolean)] s := hK
  have hl := lv_entry ([.ref mo, .int (nI k9)]) (n := 3) (Nat.le_of_ble_eq_true rfl)
  rw [lg_entry_eq]
  generalize (lg_sl ([.ref mo, .int (nI k9)]) ++ List.replicate (3 - (lg_sl ([.ref mo, .int (nI k9)])).length) Slot.unset).toArray = ls at hl ⊢
  have hl : lv_has ls 3 [(0, .ref mo), (1, .int (nI k9))] := hl
  refine lv_iconst (v := 0) hx hb dX8_planOf_0 (by decide) ?_
  refine lv_istore_n (lv' := [(2, .int 0), (0, .ref mo), (1, .int (nI k9))]) hx hb dX8_planOf_1 rfl hl (by decide) rfl (fun ls hl => ?_)
  refine lv_iload_n hx hb dX8_planOf_2 rfl (lv_at hl 0 rfl) ?_
  refine lv_iconst (v := 4) hx hb dX8_planOf_3 (by decide) ?_
  refine lv_icmp_ge (tgt := 29) hx hb dX8_planOf_4 (by decide) (fun c => absurd c (by decide)) (fun _ => ?_)
  refine lv_aload_n hx hb dX8_planOf_7 rfl (lv_at hl 1 rfl) ?_
  refine lv_aload_n hx hb dX8_planOf_8 rfl (lv_at hl 1 rfl) ?_
  refine va_get (D := (dC, dI)) (ci := 6) (v := .ref m6) (C := RX8) (T := TX8) (N := 32) hx hb hts iX8 hown hK hP 0 rfl rfl 6 (by decide) (hts (.fieldLink RX8 16 "ParkTowerModel" "place" "[I") (by decide +kernel)) (fun _ h9 => h9) rfl dX8_planOf_9 ?_
  refine lv_iload_n hx hb dX8_planOf_12 rfl (lv_at hl 2 rfl) ?_
  refine va_iald hx hb hK hP 1 0 rfl rfl (vp_in_nI (n := k9) (by omega) (by decide)) dX8_planOf_13 ?_
  refine lv_topi (fun a_1 ea_1 => ?_)
  rw [nI_clamp (n := k9) (by omega)] at ea_1
  obtain ⟨j_1, hj_1, rfl⟩ := (show sC a_1 by rw [ea_1]; exact hp _)
  refine lv_iload_n hx hb dX8_planOf_14 rfl (lv_at hl 0 rfl) ?_
  refine pt_cSi (va_runV (As := [.int (nI j_1), .int 0]) (rest := []) ⟨hx, hb, hml, hown, hts⟩ (m_goes0 l dC dI mo m4 m5 m6 m7 m8 m9 m10 m11 m12 m16 m17 m18 m27 m29 m30 m31 th tm pw rn tg lf mm fo sr nc no bz dg db df sp y7 f7 j_1 (by omega)) (cwV 2 hts gX8_planOf_X8_goes rfl rfl rfl (by decide +kernel) ⟨Nat.le_of_ble_eq_true rfl, Nat.le_of_ble_eq_true rfl⟩) ⟨pt_blind, va_recv hK hP (ci := 6) (q0 := 0) rfl rfl, pt_pre (w := [(mo, .inr (6, [.int th, .int tm, .int (nI sr), .int (nI nc), .ref m4, .ref m5, .ref m6, .ref m7, .ref m8, .ref m9, .ref m10, .ref m11, .ref m12, .int pw, .int rn, .int (nI no), .ref m16, .ref m17, .ref m18, .int (nI bz), .int (nI dg), .int (nI db), .int (nI df), .int (nI sp), .int tg, .int lf, .int mm, .ref m27, .int fo, .ref m29, .ref m30, .ref m31])), (m7, .inl (y7, 96, .inl f7))]) (tys := [(y7, .int)]) (hP.sub [0, 2] rfl) (hK.sub [1] rfl) hN⟩ rfl rfl hl.1 rfl (lv_room (Nat.le_of_ble_eq_true rfl)) dX8_planOf_15 ⟨Nat.le_of_ble_eq_true rfl, Nat.le_of_ble_eq_true rfl⟩) (fun r_2 hr_2 => ?_)
  rcases hr_2 with rfl | rfl
  · skip
    refine lv_if_eq (tgt := 23) hx hb dX8_planOf_18 (by decide) (fun _ => ?_) (fun c => absurd (by decide) c)
    refine lv_iinc (v := 1) (lv' := [(2, .int 1), (0, .ref mo), (1, .int (nI k9))]) hx hb dX8_planOf_23 hl (k := 0) rfl (by decide) (by decide) rfl (fun ls hl => ?_)
    refine lv_goto (tgt := 2) hx hb dX8_planOf_26 (by decide) ?_
    refine lv_iload_n hx hb dX8_planOf_2 rfl (lv_at hl 0 rfl) ?_
    refine lv_iconst (v := 4) hx hb dX8_planOf_3 (by decide) ?_
    refine lv_icmp_ge (tgt := 29) hx hb dX8_planOf_4 (by decide) (fun c => absurd c (by decide)) (fun _ => ?_)
    refine lv_aload_n hx hb dX8_planOf_7 rfl (lv_at hl 1 rfl) ?_
    refine lv_aload_n hx hb dX8_planOf_8 rfl (lv_at hl 1 rfl) ?_
    refine va_get (D := (dC, dI)) (ci := 6) (v := .ref m6) (C := RX8) (T := TX8) (N := 32) hx hb hts iX8 hown hK hP 0 rfl rfl 6 (by decide) (hts (.fieldLink RX8 16 "ParkTowerModel" "place" "[I") (by decide +kernel)) (fun _ h9 => h9) rfl dX8_planOf_9 ?_
    refine lv_iload_n hx hb dX8_planOf_12 rfl (lv_at hl 2 rfl) ?_
    refine va_iald hx hb hK hP 1 0 rfl rfl (vp_in_nI (n := k9) (by omega) (by decide)) dX8_planOf_13 ?_
    refine pt_topi (nI j_1) (by rw [nI_clamp (n := k9) (by omega)]; exact ea_1.symm) ?_
    refine lv_iload_n hx hb dX8_planOf_14 rfl (lv_at hl 0 rfl) ?_
    have hPc := hP.sub (ws' := [(mo, .inr (6, [.int th, .int tm, .int (nI sr), .int (nI nc), .ref m4, .ref m5, .ref m6, .ref m7, .ref m8, .ref m9, .ref m10, .ref m11, .ref m12, .int pw, .int rn, .int (nI no), .ref m16, .ref m17, .ref m18, .int (nI bz), .int (nI dg), .int (nI db), .int (nI df), .int (nI sp), .int tg, .int lf, .int mm, .ref m27, .int fo, .ref m29, .ref m30, .ref m31])), (m7, .inl (y7, 96, .inl f7)), (m29, .inl (y29, 8, .inl f29)), (m30, .inl (y30, 4, .inl f30)), (m31, .inl (y31, 4, .inl f31))]) [0, 2, 3, 4, 5] rfl
    have hDc := hD.sub (ws' := [(mo, .inr (6, [.int th, .int tm, .int (nI sr), .int (nI nc), .ref m4, .ref m5, .ref m6, .ref m7, .ref m8, .ref m9, .ref m10, .ref m11, .ref m12, .int pw, .int rn, .int (nI no), .ref m16, .ref m17, .ref m18, .int (nI bz), .int (nI dg), .int (nI db), .int (nI df), .int (nI sp), .int tg, .int lf, .int mm, .ref m27, .int fo, .ref m29, .ref m30, .ref m31])), (m7, .inl (y7, 96, .inl f7)), (m29, .inl (y29, 8, .inl f29)), (m30, .inl (y30, 4, .inl f30)), (m31, .inl (y31, 4, .inl f31))]) [0, 2, 3, 4, 5] (by decide) rfl
    have hKc := hK.sub (tys' := [(y7, .int), (y29, .int), (y30, .int), (y31, .boolean)]) [1, 2, 3, 4] rfl
    have hFc := va_free (wc := [(mo, .inr (6, [.int th, .int tm, .int (nI sr), .int (nI nc), .ref m4, .ref m5, .ref m6, .ref m7, .ref m8, .ref m9, .ref m10, .ref m11, .ref m12, .int pw, .int rn, .int (nI no), .ref m16, .ref m17, .ref m18, .int (nI bz), .int (nI dg), .int (nI db), .int (nI df), .int (nI sp), .int tg, .int lf, .int mm, .ref m27, .int fo, .ref m29, .ref m30, .ref m31])), (m7, .inl (y7, 96, .inl f7)), (m29, .inl (y29, 8, .inl f29)), (m30, .inl (y30, 4, .inl f30)), (m31, .inl (y31, 4, .inl f31))]) hD hS hA [0, 2, 3, 4, 5] rfl
    refine va_calli (va_runV (As := [.int (nI j_1), .int 1]) (rest := []) ⟨hx, hb, hml, hown, hts⟩ (m_goes1 l dC dI _ mo m4 m5 m6 m7 m8 m9 m10 m11 m12 m16 m17 m18 m27 m29 m30 m31 th tm pw rn tg lf mm fo sr nc no bz dg db df sp y7 y29 y30 y31 f7 f29 f30 f31 j_1 (by omega) hf hdn) (cwV 2 hts gX8_planOf_X8_goes rfl rfl rfl (by decide +kernel) ⟨Nat.le_of_ble_eq_true rfl, Nat.le_of_ble_eq_true rfl⟩) ⟨pt_blindQ, va_recv hK hP (ci := 6) (q0 := 0) rfl rfl, pt_preQ hPc hKc hDc hN⟩ rfl rfl hl.1 rfl (lv_room (Nat.le_of_ble_eq_true rfl)) dX8_planOf_15 ⟨Nat.le_of_ble_eq_true rfl, Nat.le_of_ble_eq_true rfl⟩) hS (fun q _ h => hFc q h) hFc (fun r_3 u_3 t H1 locs ht hvm hw_3 hB hz1 hk1 hS => ?_)
    obtain ⟨v_3, n_3, F_3⟩ := u_3
    obtain ⟨hP1, hK1, hD1⟩ := hB
    try dsimp only at hw_3
    rw [ht] at hP1
    have hK1 := va_K.moved hvm.symm hK1
    obtain ⟨hP, hD⟩ := va_join (wr := [(m6, .inl (y6, 700, .inl f6))]) (w1 := [(mo, .inr (6, [.int th, .int tm, .int (nI sr), .int (nI nc), .ref m4, .ref m5, .ref m6, .ref m7, .ref m8, .ref m9, .ref m10, .ref m11, .ref m12, .int pw, .int rn, .int (nI no), .ref m16, .ref m17, .ref m18, .int (nI bz), .int (nI dg), .int (nI db), .int (nI df), .int (nI sp), .int tg, .int lf, .int mm, .ref m27, .int fo, .ref m29, .ref m30, .ref m31])), (m7, .inl (y7, 96, .inl f7)), (m29, .inl (y29, 8, .inl (F_3 0))), (m30, .inl (y30, 4, .inl (F_3 1))), (m31, .inl (y31, 4, .inl (F_3 2)))]) hP hD [0, 2, 3, 4, 5] [1] rfl rfl (by decide) (by decide) hk1 hFc hP1 hD1
    have hK := hK.app hK1
    generalize H1 = H at hP hS ⊢
    have hP : va_P (dC, dI) vwCl [(m6, .inl (y6, 700, .inl f6)), (mo, .inr (6, [.int th, .int tm, .int (nI sr), .int (nI nc), .ref m4, .ref m5, .ref m6, .ref m7, .ref m8, .ref m9, .ref m10, .ref m11, .ref m12, .int pw, .int rn, .int (nI no), .ref m16, .ref m17, .ref m18, .int (nI bz), .int (nI dg), .int (nI db), .int (nI df), .int (nI sp), .int tg, .int lf, .int mm, .ref m27, .int fo, .ref m29, .ref m30, .ref m31])), (m7, .inl (y7, 96, .inl f7)), (m29, .inl (y29, 8, .inl (F_3 0))), (m30, .inl (y30, 4, .inl (F_3 1))), (m31, .inl (y31, 4, .inl (F_3 2)))] H := hP
    have hD : va_D A [(m6, .inl (y6, 700, .inl f6)), (mo, .inr (6, [.int th, .int tm, .int (nI sr), .int (nI nc), .ref m4, .ref m5, .ref m6, .ref m7, .ref m8, .ref m9, .ref m10, .ref m11, .ref m12, .int pw, .int rn, .int (nI no), .ref m16, .ref m17, .ref m18, .int (nI bz), .int (nI dg), .int (nI db), .int (nI df), .int (nI sp), .int tg, .int lf, .int mm, .ref m27, .int fo, .ref m29, .ref m30, .ref m31])), (m7, .inl (y7, 96, .inl f7)), (m29, .inl (y29, 8, .inl (F_3 0))), (m30, .inl (y30, 4, .inl (F_3 1))), (m31, .inl (y31, 4, .inl (F_3 2)))] := hD
    have hK : va_K (dC, dI) vwCl [(y6, .int), (y7, .int), (y29, .int), (y30, .int), (y31, .boolean)] s := hK
    obtain ⟨hg_3, hd_3⟩ := hw_3
    rcases hg_3 with rfl | ⟨rfl, hc_3⟩
    · skip
      refine lv_if_eq (tgt := 23) hx hb dX8_planOf_18 (by decide) (fun _ => ?_) (fun c => absurd (by decide) c)
      refine lv_iinc (v := 2) (lv' := [(2, .int 2), (0, .ref mo), (1, .int (nI k9))]) hx hb dX8_planOf_23 hl (k := 0) rfl (by decide) (by decide) rfl (fun ls hl => ?_)
      refine lv_goto (tgt := 2) hx hb dX8_planOf_26 (by decide) ?_
      refine lv_iload_n hx hb dX8_planOf_2 rfl (lv_at hl 0 rfl) ?_
      refine lv_iconst (v := 4) hx hb dX8_planOf_3 (by decide) ?_
      refine lv_icmp_ge (tgt := 29) hx hb dX8_planOf_4 (by decide) (fun c => absurd c (by decide)) (fun _ => ?_)
      refine lv_aload_n hx hb dX8_planOf_7 rfl (lv_at hl 1 rfl) ?_
      refine lv_aload_n hx hb dX8_planOf_8 rfl (lv_at hl 1 rfl) ?_
      refine va_get (D := (dC, dI)) (ci := 6) (v := .ref m6) (C := RX8) (T := TX8) (N := 32) hx hb hts iX8 hown hK hP 1 rfl rfl 6 (by decide) (hts (.fieldLink RX8 16 "ParkTowerModel" "place" "[I") (by decide +kernel)) (fun _ h9 => h9) rfl dX8_planOf_9 ?_
      refine lv_iload_n hx hb dX8_planOf_12 rfl (lv_at hl 2 rfl) ?_
      refine va_iald hx hb hK hP 0 0 rfl rfl (vp_in_nI (n := k9) (by omega) (by decide)) dX8_planOf_13 ?_
      refine pt_topi (nI j_1) (by rw [nI_clamp (n := k9) (by omega)]; exact ea_1.symm) ?_
      refine lv_iload_n hx hb dX8_planOf_14 rfl (lv_at hl 0 rfl) ?_
      have hPc := hP.sub (ws' := [(mo, .inr (6, [.int th, .int tm, .int (nI sr), .int (nI nc), .ref m4, .ref m5, .ref m6, .ref m7, .ref m8, .ref m9, .ref m10, .ref m11, .ref m12, .int pw, .int rn, .int (nI no), .ref m16, .ref m17, .ref m18, .int (nI bz), .int (nI dg), .int (nI db), .int (nI df), .int (nI sp), .int tg, .int lf, .int mm, .ref m27, .int fo, .ref m29, .ref m30, .ref m31])), (m7, .inl (y7, 96, .inl f7)), (m29, .inl (y29, 8, .inl (F_3 0))), (m30, .inl (y30, 4, .inl (F_3 1))), (m31, .inl (y31, 4, .inl (F_3 2)))]) [1, 2, 3, 4, 5] rfl
      have hDc := hD.sub (ws' := [(mo, .inr (6, [.int th, .int tm, .int (nI sr), .int (nI nc), .ref m4, .ref m5, .ref m6, .ref m7, .ref m8, .ref m9, .ref m10, .ref m11, .ref m12, .int pw, .int rn, .int (nI no), .ref m16, .ref m17, .ref m18, .int (nI bz), .int (nI dg), .int (nI db), .int (nI df), .int (nI sp), .int tg, .int lf, .int mm, .ref m27, .int fo, .ref m29, .ref m30, .ref m31])), (m7, .inl (y7, 96, .inl f7)), (m29, .inl (y29, 8, .inl (F_3 0))), (m30, .inl (y30, 4, .inl (F_3 1))), (m31, .inl (y31, 4, .inl (F_3 2)))]) [1, 2, 3, 4, 5] (by decide) rfl
      have hKc := hK.sub (tys' := [(y7, .int), (y29, .int), (y30, .int), (y31, .boolean)]) [1, 2, 3, 4] rfl
      have hFc := va_free (wc := [(mo, .inr (6, [.int th, .int tm, .int (nI sr), .int (nI nc), .ref m4, .ref m5, .ref m6, .ref m7, .ref m8, .ref m9, .ref m10, .ref m11, .ref m12, .int pw, .int rn, .int (nI no), .ref m16, .ref m17, .ref m18, .int (nI bz), .int (nI dg), .int (nI db), .int (nI df), .int (nI sp), .int tg, .int lf, .int mm, .ref m27, .int fo, .ref m29, .ref m30, .ref m31])), (m7, .inl (y7, 96, .inl f7)), (m29, .inl (y29, 8, .inl (F_3 0))), (m30, .inl (y30, 4, .inl (F_3 1))), (m31, .inl (y31, 4, .inl (F_3 2)))]) hD hS hA [1, 2, 3, 4, 5] rfl
      refine va_calli (va_runV (As := [.int (nI j_1), .int 2]) (rest := []) ⟨hx, hb, hml, hown, hts⟩ (m_goes2 l dC dI _ mo m4 m5 m6 m7 m8 m9 m10 m11 m12 m16 m17 m18 m27 m29 m30 m31 th tm pw rn tg lf mm fo sr nc no bz dg db df sp y7 y29 y30 y31 f7 (F_3 0) (F_3 1) (F_3 2) j_1 (by omega) hf hd_3) (cwV 2 hts gX8_planOf_X8_goes rfl rfl rfl (by decide +kernel) ⟨Nat.le_of_ble_eq_true rfl, Nat.le_of_ble_eq_true rfl⟩) ⟨pt_blindQ, va_recv hK hP (ci := 6) (q0 := 1) rfl rfl, pt_preQ hPc hKc hDc hN⟩ rfl rfl hl.1 rfl (lv_room (Nat.le_of_ble_eq_true rfl)) dX8_planOf_15 ⟨Nat.le_of_ble_eq_true rfl, Nat.le_of_ble_eq_true rfl⟩) hS (fun q _ h => hFc q h) hFc (fun r_4 u_4 t H1 locs ht hvm hw_4 hB hz1 hk1 hS => ?_)
      obtain ⟨v_4, n_4, F_4⟩ := u_4
      obtain ⟨hP1, hK1, hD1⟩ := hB
      try dsimp only at hw_4
      rw [ht] at hP1
      have hK1 := va_K.moved hvm.symm hK1
      obtain ⟨hP, hD⟩ := va_join (wr := [(m6, .inl (y6, 700, .inl f6))]) (w1 := [(mo, .inr (6, [.int th, .int tm, .int (nI sr), .int (nI nc), .ref m4, .ref m5, .ref m6, .ref m7, .ref m8, .ref m9, .ref m10, .ref m11, .ref m12, .int pw, .int rn, .int (nI no), .ref m16, .ref m17, .ref m18, .int (nI bz), .int (nI dg), .int (nI db), .int (nI df), .int (nI sp), .int tg, .int lf, .int mm, .ref m27, .int fo, .ref m29, .ref m30, .ref m31])), (m7, .inl (y7, 96, .inl f7)), (m29, .inl (y29, 8, .inl (F_4 0))), (m30, .inl (y30, 4, .inl (F_4 1))), (m31, .inl (y31, 4, .inl (F_4 2)))]) hP hD [1, 2, 3, 4, 5] [0] rfl rfl (by decide) (by decide) hk1 hFc hP1 hD1
      have hK := hK.app hK1
      generalize H1 = H at hP hS ⊢
      have hP : va_P (dC, dI) vwCl [(m6, .inl (y6, 700, .inl f6)), (mo, .inr (6, [.int th, .int tm, .int (nI sr), .int (nI nc), .ref m4, .ref m5, .ref m6, .ref m7, .ref m8, .ref m9, .ref m10, .ref m11, .ref m12, .int pw, .int rn, .int (nI no), .ref m16, .ref m17, .ref m18, .int (nI bz), .int (nI dg), .int (nI db), .int (nI df), .int (nI sp), .int tg, .int lf, .int mm, .ref m27, .int fo, .ref m29, .ref m30, .ref m31])), (m7, .inl (y7, 96, .inl f7)), (m29, .inl (y29, 8, .inl (F_4 0))), (m30, .inl (y30, 4, .inl (F_4 1))), (m31, .inl (y31, 4, .inl (F_4 2)))] H := hP
      have hD : va_D A [(m6, .inl (y6, 700, .inl f6)), (mo, .inr (6, [.int th, .int tm, .int (nI sr), .int (nI nc), .ref m4, .ref m5, .ref m6, .ref m7, .ref m8, .ref m9, .ref m10, .ref m11, .ref m12, .int pw, .int rn, .int (nI no), .ref m16, .ref m17, .ref m18, .int (nI bz), .int (nI dg), .int (nI db), .int (nI df), .int (nI sp), .int tg, .int lf, .int mm, .ref m27, .int fo, .ref m29, .ref m30, .ref m31])), (m7, .inl (y7, 96, .inl f7)), (m29, .inl (y29, 8, .inl (F_4 0))), (m30, .inl (y30, 4, .inl (F_4 1))), (m31, .inl (y31, 4, .inl (F_4 2)))] := hD
      have hK : va_K (dC, dI) vwCl [(y6, .int), (y7, .int), (y29, .int), (y30, .int), (y31, .boolean)] s := hK
      obtain ⟨hg_4, hd_4⟩ := hw_4
      rcases hg_4 with rfl | ⟨rfl, hc_4⟩
      · skip
        refine lv_if_eq (tgt := 23) hx hb dX8_planOf_18 (by decide) (fun _ => ?_) (fun c => absurd (by decide) c)
        refine lv_iinc (v := 3) (lv' := [(2, .int 3), (0, .ref mo), (1, .int (nI k9))]) hx hb dX8_planOf_23 hl (k := 0) rfl (by decide) (by decide) rfl (fun ls hl => ?_)
        refine lv_goto (tgt := 2) hx hb dX8_planOf_26 (by decide) ?_
        refine lv_iload_n hx hb dX8_planOf_2 rfl (lv_at hl 0 rfl) ?_
        refine lv_iconst (v := 4) hx hb dX8_planOf_3 (by decide) ?_
        refine lv_icmp_ge (tgt := 29) hx hb dX8_planOf_4 (by decide) (fun c => absurd c (by decide)) (fun _ => ?_)
        refine lv_aload_n hx hb dX8_planOf_7 rfl (lv_at hl 1 rfl) ?_
        refine lv_aload_n hx hb dX8_planOf_8 rfl (lv_at hl 1 rfl) ?_
        refine va_get (D := (dC, dI)) (ci := 6) (v := .ref m6) (C := RX8) (T := TX8) (N := 32) hx hb hts iX8 hown hK hP 1 rfl rfl 6 (by decide) (hts (.fieldLink RX8 16 "ParkTowerModel" "place" "[I") (by decide +kernel)) (fun _ h9 => h9) rfl dX8_planOf_9 ?_
        refine lv_iload_n hx hb dX8_planOf_12 rfl (lv_at hl 2 rfl) ?_
        refine va_iald hx hb hK hP 0 0 rfl rfl (vp_in_nI (n := k9) (by omega) (by decide)) dX8_planOf_13 ?_
        refine pt_topi (nI j_1) (by rw [nI_clamp (n := k9) (by omega)]; exact ea_1.symm) ?_
        refine lv_iload_n hx hb dX8_planOf_14 rfl (lv_at hl 0 rfl) ?_
        have hPc := hP.sub (ws' := [(mo, .inr (6, [.int th, .int tm, .int (nI sr), .int (nI nc), .ref m4, .ref m5, .ref m6, .ref m7, .ref m8, .ref m9, .ref m10, .ref m11, .ref m12, .int pw, .int rn, .int (nI no), .ref m16, .ref m17, .ref m18, .int (nI bz), .int (nI dg), .int (nI db), .int (nI df), .int (nI sp), .int tg, .int lf, .int mm, .ref m27, .int fo, .ref m29, .ref m30, .ref m31])), (m7, .inl (y7, 96, .inl f7)), (m29, .inl (y29, 8, .inl (F_4 0))), (m30, .inl (y30, 4, .inl (F_4 1))), (m31, .inl (y31, 4, .inl (F_4 2)))]) [1, 2, 3, 4, 5] rfl
        have hDc := hD.sub (ws' := [(mo, .inr (6, [.int th, .int tm, .int (nI sr), .int (nI nc), .ref m4, .ref m5, .ref m6, .ref m7, .ref m8, .ref m9, .ref m10, .ref m11, .ref m12, .int pw, .int rn, .int (nI no), .ref m16, .ref m17, .ref m18, .int (nI bz), .int (nI dg), .int (nI db), .int (nI df), .int (nI sp), .int tg, .int lf, .int mm, .ref m27, .int fo, .ref m29, .ref m30, .ref m31])), (m7, .inl (y7, 96, .inl f7)), (m29, .inl (y29, 8, .inl (F_4 0))), (m30, .inl (y30, 4, .inl (F_4 1))), (m31, .inl (y31, 4, .inl (F_4 2)))]) [1, 2, 3, 4, 5] (by decide) rfl
        have hKc := hK.sub (tys' := [(y7, .int), (y29, .int), (y30, .int), (y31, .boolean)]) [1, 2, 3, 4] rfl
        have hFc := va_free (wc := [(mo, .inr (6, [.int th, .int tm, .int (nI sr), .int (nI nc), .ref m4, .ref m5, .ref m6, .ref m7, .ref m8, .ref m9, .ref m10, .ref m11, .ref m12, .int pw, .int rn, .int (nI no), .ref m16, .ref m17, .ref m18, .int (nI bz), .int (nI dg), .int (nI db), .int (nI df), .int (nI sp), .int tg, .int lf, .int mm, .ref m27, .int fo, .ref m29, .ref m30, .ref m31])), (m7, .inl (y7, 96, .inl f7)), (m29, .inl (y29, 8, .inl (F_4 0))), (m30, .inl (y30, 4, .inl (F_4 1))), (m31, .inl (y31, 4, .inl (F_4 2)))]) hD hS hA [1, 2, 3, 4, 5] rfl
        refine va_calli (va_runV (As := [.int (nI j_1), .int 3]) (rest := []) ⟨hx, hb, hml, hown, hts⟩ (m_goes3 l dC dI _ mo m4 m5 m6 m7 m8 m9 m10 m11 m12 m16 m17 m18 m27 m29 m30 m31 th tm pw rn tg lf mm fo sr nc no bz dg db df sp y7 y29 y30 y31 f7 (F_4 0) (F_4 1) (F_4 2) j_1 (by omega) hf hd_4) (cwV 2 hts gX8_planOf_X8_goes rfl rfl rfl (by decide +kernel) ⟨Nat.le_of_ble_eq_true rfl, Nat.le_of_ble_eq_true rfl⟩) ⟨pt_blindQ, va_recv hK hP (ci := 6) (q0 := 1) rfl rfl, pt_preQ hPc hKc hDc hN⟩ rfl rfl hl.1 rfl (lv_room (Nat.le_of_ble_eq_true rfl)) dX8_planOf_15 ⟨Nat.le_of_ble_eq_true rfl, Nat.le_of_ble_eq_true rfl⟩) hS (fun q _ h => hFc q h) hFc (fun r_5 u_5 t H1 locs ht hvm hw_5 hB hz1 hk1 hS => ?_)
        obtain ⟨v_5, n_5, F_5⟩ := u_5
        obtain ⟨hP1, hK1, hD1⟩ := hB
        try dsimp only at hw_5
        rw [ht] at hP1
        have hK1 := va_K.moved hvm.symm hK1
        obtain ⟨hP, hD⟩ := va_join (wr := [(m6, .inl (y6, 700, .inl f6))]) (w1 := [(mo, .inr (6, [.int th, .int tm, .int (nI sr), .int (nI nc), .ref m4, .ref m5, .ref m6, .ref m7, .ref m8, .ref m9, .ref m10, .ref m11, .ref m12, .int pw, .int rn, .int (nI no), .ref m16, .ref m17, .ref m18, .int (nI bz), .int (nI dg), .int (nI db), .int (nI df), .int (nI sp), .int tg, .int lf, .int mm, .ref m27, .int fo, .ref m29, .ref m30, .ref m31])), (m7, .inl (y7, 96, .inl f7)), (m29, .inl (y29, 8, .inl (F_5 0))), (m30, .inl (y30, 4, .inl (F_5 1))), (m31, .inl (y31, 4, .inl (F_5 2)))]) hP hD [1, 2, 3, 4, 5] [0] rfl rfl (by decide) (by decide) hk1 hFc hP1 hD1
        have hK := hK.app hK1
        generalize H1 = H at hP hS ⊢
        have hP : va_P (dC, dI) vwCl [(m6, .inl (y6, 700, .inl f6)), (mo, .inr (6, [.int th, .int tm, .int (nI sr), .int (nI nc), .ref m4, .ref m5, .ref m6, .ref m7, .ref m8, .ref m9, .ref m10, .ref m11, .ref m12, .int pw, .int rn, .int (nI no), .ref m16, .ref m17, .ref m18, .int (nI bz), .int (nI dg), .int (nI db), .int (nI df), .int (nI sp), .int tg, .int lf, .int mm, .ref m27, .int fo, .ref m29, .ref m30, .ref m31])), (m7, .inl (y7, 96, .inl f7)), (m29, .inl (y29, 8, .inl (F_5 0))), (m30, .inl (y30, 4, .inl (F_5 1))), (m31, .inl (y31, 4, .inl (F_5 2)))] H := hP
        have hD : va_D A [(m6, .inl (y6, 700, .inl f6)), (mo, .inr (6, [.int th, .int tm, .int (nI sr), .int (nI nc), .ref m4, .ref m5, .ref m6, .ref m7, .ref m8, .ref m9, .ref m10, .ref m11, .ref m12, .int pw, .int rn, .int (nI no), .ref m16, .ref m17, .ref m18, .int (nI bz), .int (nI dg), .int (nI db), .int (nI df), .int (nI sp), .int tg, .int lf, .int mm, .ref m27, .int fo, .ref m29, .ref m30, .ref m31])), (m7, .inl (y7, 96, .inl f7)), (m29, .inl (y29, 8, .inl (F_5 0))), (m30, .inl (y30, 4, .inl (F_5 1))), (m31, .inl (y31, 4, .inl (F_5 2)))] := hD
        have hK : va_K (dC, dI) vwCl [(y6, .int), (y7, .int), (y29, .int), (y30, .int), (y31, .boolean)] s := hK
        obtain ⟨hg_5, hd_5⟩ := hw_5
        rcases hg_5 with rfl | ⟨rfl, hc_5⟩
        · skip
          refine lv_if_eq (tgt := 23) hx hb dX8_planOf_18 (by decide) (fun _ => ?_) (fun c => absurd (by decide) c)
          refine lv_iinc (v := 4) (lv' := [(2, .int 4), (0, .ref mo), (1, .int (nI k9))]) hx hb dX8_planOf_23 hl (k := 0) rfl (by decide) (by decide) rfl (fun ls hl => ?_)
          refine lv_goto (tgt := 2) hx hb dX8_planOf_26 (by decide) ?_
          refine lv_iload_n hx hb dX8_planOf_2 rfl (lv_at hl 0 rfl) ?_
          refine lv_iconst (v := 4) hx hb dX8_planOf_3 (by decide) ?_
          refine lv_icmp_ge (tgt := 29) hx hb dX8_planOf_4 (by decide) (fun _ => ?_) (fun c => absurd (by decide) c)
          refine lv_iconst (v := (-1)) hx hb dX8_planOf_29 (by decide) ?_
          have hP9 := hP.sub (ws' := [(mo, .inr (6, [.int th, .int tm, .int (nI sr), .int (nI nc), .ref m4, .ref m5, .ref m6, .ref m7, .ref m8, .ref m9, .ref m10, .ref m11, .ref m12, .int pw, .int rn, .int (nI no), .ref m16, .ref m17, .ref m18, .int (nI bz), .int (nI dg), .int (nI db), .int (nI df), .int (nI sp), .int tg, .int lf, .int mm, .ref m27, .int fo, .ref m29, .ref m30, .ref m31])), (m6, .inl (y6, 700, .inl f6)), (m7, .inl (y7, 96, .inl f7)), (m29, .inl (y29, 8, .inl (F_5 0))), (m30, .inl (y30, 4, .inl (F_5 1))), (m31, .inl (y31, 4, .inl (F_5 2)))]) [1, 0, 2, 3, 4, 5] rfl
          have hD9 := hD.sub (ws' := [(mo, .inr (6, [.int th, .int tm, .int (nI sr), .int (nI nc), .ref m4, .ref m5, .ref m6, .ref m7, .ref m8, .ref m9, .ref m10, .ref m11, .ref m12, .int pw, .int rn, .int (nI no), .ref m16, .ref m17, .ref m18, .int (nI bz), .int (nI dg), .int (nI db), .int (nI df), .int (nI sp), .int tg, .int lf, .int mm, .ref m27, .int fo, .ref m29, .ref m30, .ref m31])), (m6, .inl (y6, 700, .inl f6)), (m7, .inl (y7, 96, .inl f7)), (m29, .inl (y29, 8, .inl (F_5 0))), (m30, .inl (y30, 4, .inl (F_5 1))), (m31, .inl (y31, 4, .inl (F_5 2)))]) [1, 0, 2, 3, 4, 5] (by decide) rfl
          have hK9 := hK.sub (tys' := []) [] rfl
          refine W.widen (k := 0) (n := 0) (by omega) (by omega) ?_
          exact W.iret (v := (-1)) hx hb hr (fun t ht hW => ⟨⟨(-1), (fun q_ => ([] : List Int32).getD q_ 0, fun q_ => ([] : List Nat).getD q_ 0, fun q_ => ([F_5 0, F_5 1, F_5 2] : List (Nat → Int32)).getD q_ (fun _ => 0)), rfl, ⟨Or.inl rfl, hd_5⟩, by rw [ht]; exact hP9, va_K.moved hW.alike hK9, hD9⟩, hS.F ht⟩) hS.2.2 dX8_planOf_30
        · skip
          refine lv_if_eq (tgt := 23) hx hb dX8_planOf_18 (by decide) (fun c => absurd c (by decide)) (fun _ => ?_)
          refine lv_iload_n hx hb dX8_planOf_21 rfl (lv_at hl 0 rfl) ?_
          have hP9 := hP.sub (ws' := [(mo, .inr (6, [.int th, .int tm, .int (nI sr), .int (nI nc), .ref m4, .ref m5, .ref m6, .ref m7, .ref m8, .ref m9, .ref m10, .ref m11, .ref m12, .int pw, .int rn, .int (nI no), .ref m16, .ref m17, .ref m18, .int (nI bz), .int (nI dg), .int (nI db), .int (nI df), .int (nI sp), .int tg, .int lf, .int mm, .ref m27, .int fo, .ref m29, .ref m30, .ref m31])), (m6, .inl (y6, 700, .inl f6)), (m7, .inl (y7, 96, .inl f7)), (m29, .inl (y29, 8, .inl (F_5 0))), (m30, .inl (y30, 4, .inl (F_5 1))), (m31, .inl (y31, 4, .inl (F_5 2)))]) [1, 0, 2, 3, 4, 5] rfl
          have hD9 := hD.sub (ws' := [(mo, .inr (6, [.int th, .int tm, .int (nI sr), .int (nI nc), .ref m4, .ref m5, .ref m6, .ref m7, .ref m8, .ref m9, .ref m10, .ref m11, .ref m12, .int pw, .int rn, .int (nI no), .ref m16, .ref m17, .ref m18, .int (nI bz), .int (nI dg), .int (nI db), .int (nI df), .int (nI sp), .int tg, .int lf, .int mm, .ref m27, .int fo, .ref m29, .ref m30, .ref m31])), (m6, .inl (y6, 700, .inl f6)), (m7, .inl (y7, 96, .inl f7)), (m29, .inl (y29, 8, .inl (F_5 0))), (m30, .inl (y30, 4, .inl (F_5 1))), (m31, .inl (y31, 4, .inl (F_5 2)))]) [1, 0, 2, 3, 4, 5] (by decide) rfl
          have hK9 := hK.sub (tys' := []) [] rfl
          refine W.widen (k := 0) (n := 0) (by omega) (by omega) ?_
          exact W.iret (v := 3) hx hb hr (fun t ht hW => ⟨⟨3, (fun q_ => ([] : List Int32).getD q_ 0, fun q_ => ([] : List Nat).getD q_ 0, fun q_ => ([F_5 0, F_5 1, F_5 2] : List (Nat → Int32)).getD q_ (fun _ => 0)), rfl, ⟨Or.inr ⟨3, by decide, rfl, fun q hq e9 => by rw [← (nI_eq (a := j_1) (b := q) (by omega) (by omega)).mp (ea_1.trans e9)]; exact hc_5⟩, hd_5⟩, by rw [ht]; exact hP9, va_K.moved hW.alike hK9, hD9⟩, hS.F ht⟩) hS.2.2 dX8_planOf_22
      · skip
        refine lv_if_eq (tgt := 23) hx hb dX8_planOf_18 (by decide) (fun c => absurd c (by decide)) (fun _ => ?_)
        refine lv_iload_n hx hb dX8_planOf_21 rfl (lv_at hl 0 rfl) ?_
        have hP9 := hP.sub (ws' := [(mo, .inr (6, [.int th, .int tm, .int (nI sr), .int (nI nc), .ref m4, .ref m5, .ref m6, .ref m7, .ref m8, .ref m9, .ref m10, .ref m11, .ref m12, .int pw, .int rn, .int (nI no), .ref m16, .ref m17, .ref m18, .int (nI bz), .int (nI dg), .int (nI db), .int (nI df), .int (nI sp), .int tg, .int lf, .int mm, .ref m27, .int fo, .ref m29, .ref m30, .ref m31])), (m6, .inl (y6, 700, .inl f6)), (m7, .inl (y7, 96, .inl f7)), (m29, .inl (y29, 8, .inl (F_4 0))), (m30, .inl (y30, 4, .inl (F_4 1))), (m31, .inl (y31, 4, .inl (F_4 2)))]) [1, 0, 2, 3, 4, 5] rfl
        have hD9 := hD.sub (ws' := [(mo, .inr (6, [.int th, .int tm, .int (nI sr), .int (nI nc), .ref m4, .ref m5, .ref m6, .ref m7, .ref m8, .ref m9, .ref m10, .ref m11, .ref m12, .int pw, .int rn, .int (nI no), .ref m16, .ref m17, .ref m18, .int (nI bz), .int (nI dg), .int (nI db), .int (nI df), .int (nI sp), .int tg, .int lf, .int mm, .ref m27, .int fo, .ref m29, .ref m30, .ref m31])), (m6, .inl (y6, 700, .inl f6)), (m7, .inl (y7, 96, .inl f7)), (m29, .inl (y29, 8, .inl (F_4 0))), (m30, .inl (y30, 4, .inl (F_4 1))), (m31, .inl (y31, 4, .inl (F_4 2)))]) [1, 0, 2, 3, 4, 5] (by decide) rfl
        have hK9 := hK.sub (tys' := []) [] rfl
        refine W.widen (k := 0) (n := 0) (by omega) (by omega) ?_
        exact W.iret (v := 2) hx hb hr (fun t ht hW => ⟨⟨2, (fun q_ => ([] : List Int32).getD q_ 0, fun q_ => ([] : List Nat).getD q_ 0, fun q_ => ([F_4 0, F_4 1, F_4 2] : List (Nat → Int32)).getD q_ (fun _ => 0)), rfl, ⟨Or.inr ⟨2, by decide, rfl, fun q hq e9 => by rw [← (nI_eq (a := j_1) (b := q) (by omega) (by omega)).mp (ea_1.trans e9)]; exact hc_4⟩, hd_4⟩, by rw [ht]; exact hP9, va_K.moved hW.alike hK9, hD9⟩, hS.F ht⟩) hS.2.2 dX8_planOf_22
    · skip
      refine lv_if_eq (tgt := 23) hx hb dX8_planOf_18 (by decide) (fun c => absurd c (by decide)) (fun _ => ?_)
      refine lv_iload_n hx hb dX8_planOf_21 rfl (lv_at hl 0 rfl) ?_
      have hP9 := hP.sub (ws' := [(mo, .inr (6, [.int th, .int tm, .int (nI sr), .int (nI nc), .ref m4, .ref m5, .ref m6, .ref m7, .ref m8, .ref m9, .ref m10, .ref m11, .ref m12, .int pw, .int rn, .int (nI no), .ref m16, .ref m17, .ref m18, .int (nI bz), .int (nI dg), .int (nI db), .int (nI df), .int (nI sp), .int tg, .int lf, .int mm, .ref m27, .int fo, .ref m29, .ref m30, .ref m31])), (m6, .inl (y6, 700, .inl f6)), (m7, .inl (y7, 96, .inl f7)), (m29, .inl (y29, 8, .inl (F_3 0))), (m30, .inl (y30, 4, .inl (F_3 1))), (m31, .inl (y31, 4, .inl (F_3 2)))]) [1, 0, 2, 3, 4, 5] rfl
      have hD9 := hD.sub (ws' := [(mo, .inr (6, [.int th, .int tm, .int (nI sr), .int (nI nc), .ref m4, .ref m5, .ref m6, .ref m7, .ref m8, .ref m9, .ref m10, .ref m11, .ref m12, .int pw, .int rn, .int (nI no), .ref m16, .ref m17, .ref m18, .int (nI bz), .int (nI dg), .int (nI db), .int (nI df), .int (nI sp), .int tg, .int lf, .int mm, .ref m27, .int fo, .ref m29, .ref m30, .ref m31])), (m6, .inl (y6, 700, .inl f6)), (m7, .inl (y7, 96, .inl f7)), (m29, .inl (y29, 8, .inl (F_3 0))), (m30, .inl (y30, 4, .inl (F_3 1))), (m31, .inl (y31, 4, .inl (F_3 2)))]) [1, 0, 2, 3, 4, 5] (by decide) rfl
      have hK9 := hK.sub (tys' := []) [] rfl
      refine W.widen (k := 0) (n := 0) (by omega) (by omega) ?_
      exact W.iret (v := 1) hx hb hr (fun t ht hW => ⟨⟨1, (fun q_ => ([] : List Int32).getD q_ 0, fun q_ => ([] : List Nat).getD q_ 0, fun q_ => ([F_3 0, F_3 1, F_3 2] : List (Nat → Int32)).getD q_ (fun _ => 0)), rfl, ⟨Or.inr ⟨1, by decide, rfl, fun q hq e9 => by rw [← (nI_eq (a := j_1) (b := q) (by omega) (by omega)).mp (ea_1.trans e9)]; exact hc_3⟩, hd_3⟩, by rw [ht]; exact hP9, va_K.moved hW.alike hK9, hD9⟩, hS.F ht⟩) hS.2.2 dX8_planOf_22
  · skip
    refine lv_if_eq (tgt := 23) hx hb dX8_planOf_18 (by decide) (fun c => absurd c (by decide)) (fun _ => ?_)
    refine lv_iload_n hx hb dX8_planOf_21 rfl (lv_at hl 0 rfl) ?_
    have hP9 := hP.sub (ws' := [(mo, .inr (6, [.int th, .int tm, .int (nI sr), .int (nI nc), .ref m4, .ref m5, .ref m6, .ref m7, .ref m8, .ref m9, .ref m10, .ref m11, .ref m12, .int pw, .int rn, .int (nI no), .ref m16, .ref m17, .ref m18, .int (nI bz), .int (nI dg), .int (nI db), .int (nI df), .int (nI sp), .int tg, .int lf, .int mm, .ref m27, .int fo, .ref m29, .ref m30, .ref m31])), (m6, .inl (y6, 700, .inl f6)), (m7, .inl (y7, 96, .inl f7)), (m29, .inl (y29, 8, .inl f29)), (m30, .inl (y30, 4, .inl f30)), (m31, .inl (y31, 4, .inl f31))]) [0, 1, 2, 3, 4, 5] rfl
    have hD9 := hD.sub (ws' := [(mo, .inr (6, [.int th, .int tm, .int (nI sr), .int (nI nc), .ref m4, .ref m5, .ref m6, .ref m7, .ref m8, .ref m9, .ref m10, .ref m11, .ref m12, .int pw, .int rn, .int (nI no), .ref m16, .ref m17, .ref m18, .int (nI bz), .int (nI dg), .int (nI db), .int (nI df), .int (nI sp), .int tg, .int lf, .int mm, .ref m27, .int fo, .ref m29, .ref m30, .ref m31])), (m6, .inl (y6, 700, .inl f6)), (m7, .inl (y7, 96, .inl f7)), (m29, .inl (y29, 8, .inl f29)), (m30, .inl (y30, 4, .inl f30)), (m31, .inl (y31, 4, .inl f31))]) [0, 1, 2, 3, 4, 5] (by decide) rfl
    have hK9 := hK.sub (tys' := []) [] rfl
    refine W.widen (k := 0) (n := 0) (by omega) (by omega) ?_
    exact W.iret (v := 0) hx hb hr (fun t ht hW => ⟨⟨0, (fun q_ => ([] : List Int32).getD q_ 0, fun q_ => ([] : List Nat).getD q_ 0, fun q_ => ([f29, f30, f31] : List (Nat → Int32)).getD q_ (fun _ => 0)), rfl, ⟨Or.inr ⟨0, by decide, rfl, fun _ _ _ => trivial⟩, hdn⟩, by rw [ht]; exact hP9, va_K.moved hW.alike hK9, hD9⟩, hS.F ht⟩) hS.2.2 dX8_planOf_22
