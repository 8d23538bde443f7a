set_option maxHeartbeats 4000000 in
set_option maxRecDepth 100000 in
theorem m_moves (l : Launch) (dC : Nat → ClassId) (dI : Nat → Nat → Nat) (sz : Nat) (mo m4 m5 m6 m7 m8 m9 m10 m11 m12 m16 m17 m18 m27 m29 m30 m31 : Nat) (th tm pw rn tg lf mm fo : Int32) (sr nc no bz dg db df sp : Nat) (y8 y9 : ClassId) (f8 f9 : Nat → Int32) (b9 : Nat) (x : Int32) (hb : b9 < 2) : Met l yX8_moves wsX8_moves ({ frames := 0, cells := 0, slots := 0, locals := 0 }) (va_Pc [.ref mo, .int (nI b9), .int x] (pt_BQ (dC, dI) [(mo, .inr (6, [.int th, .int tm, .int (nI sr), .int (nI nc), .ref m4, .ref m5, .ref m6, .ref m7, .ref m8, .ref m9, .ref m10, .ref m11, .ref m12, .int pw, .int rn, .int (nI no), .ref m16, .ref m17, .ref m18, .int (nI bz), .int (nI dg), .int (nI db), .int (nI df), .int (nI sp), .int tg, .int lf, .int mm, .ref m27, .int fo, .ref m29, .ref m30, .ref m31])), (m8, .inl (y8, 2, .inl f8)), (m9, .inl (y9, 2, .inl f9))] [(y8, .int), (y9, .int)] sz)) (va_Qv (fun (u : (Nat → Int32) × (Nat → Nat) × (Nat → Nat → Int32)) => True) (fun u t => pt_at (dC, dI) (va_A [(mo, .inr (6, [.int th, .int tm, .int (nI sr), .int (nI nc), .ref m4, .ref m5, .ref m6, .ref m7, .ref m8, .ref m9, .ref m10, .ref m11, .ref m12, .int pw, .int rn, .int (nI no), .ref m16, .ref m17, .ref m18, .int (nI bz), .int (nI dg), .int (nI db), .int (nI df), .int (nI sp), .int tg, .int lf, .int mm, .ref m27, .int fo, .ref m29, .ref m30, .ref m31])), (m8, .inl (y8, 2, .inl f8)), (m9, .inl (y9, 2, .inl f9))] sz) [(mo, .inr (6, [.int th, .int tm, .int (nI sr), .int (nI nc), .ref m4, .ref m5, .ref m6, .ref m7, .ref m8, .ref m9, .ref m10, .ref m11, .ref m12, .int pw, .int rn, .int (nI no), .ref m16, .ref m17, .ref m18, .int (nI bz), .int (nI dg), .int (nI db), .int (nI df), .int (nI sp), .int tg, .int lf, .int mm, .ref m27, .int fo, .ref m29, .ref m30, .ref m31])), (m8, .inl (y8, 2, .inl (upd f8 b9 x))), (m9, .inl (y9, 2, .inl (upd f9 b9 4)))] [] t) (va_A [(mo, .inr (6, [.int th, .int tm, .int (nI sr), .int (nI nc), .ref m4, .ref m5, .ref m6, .ref m7, .ref m8, .ref m9, .ref m10, .ref m11, .ref m12, .int pw, .int rn, .int (nI no), .ref m16, .ref m17, .ref m18, .int (nI bz), .int (nI dg), .int (nI db), .int (nI df), .int (nI sp), .int tg, .int lf, .int mm, .ref m27, .int fo, .ref m29, .ref m30, .ref m31])), (m8, .inl (y8, 2, .inl f8)), (m9, .inl (y9, 2, .inl f9))] sz)) 0 0 (va_A [(mo, .inr (6, [.int th, .int tm, .int (nI sr), .int (nI nc), .ref m4, .ref m5, .ref m6, .ref m7, .ref m8, .ref m9, .ref m10, .ref m11, .ref m12, .int pw, .int rn, .int (nI no), .ref m16, .ref m17, .ref m18, .int (nI bz), .int (nI dg), .int (nI db), .int (nI df), .int (nI sp), .int tg, .int lf, .int mm, .ref m27, .int fo, .ref m29, .ref m30, .ref m31])), (m8, .inl (y8, 2, .inl f8)), (m9, .inl (y9, 2, .inl f9))] sz) := by
  refine Met.ofW (cc := cX8_moves) (maxL := 3) (ret := none) (by decide) rfl ?_
  intro p e s m args below meth c s₁ B hml hv
  obtain ⟨rfl, hsz, hP, hK, hD0, hN⟩ := hv
  have hx := B.exec
  have hb := B.bytes
  have hr := B.returns
  have hts := atoms_spec (ws := wsX8_moves) B.pre
  have hown : s.vm.findClass RX8 = some m.cls := findClass_of_methodNamed B.named
  have hlocks := B.notSynchronized
  have iX8 : ∀ w ∈ wsX80, w ∈ wsX8_moves := by decide +kernel
  subst hsz
  have hD := hD0.self (sz := s.heap.size)
  generalize hAe : va_A [(mo, .inr (6, [.int th, .int tm, .int (nI sr), .int (nI nc), .ref m4, .ref m5, .ref m6, .ref m7, .ref m8, .ref m9, .ref m10, .ref m11, .ref m12, .int pw, .int rn, .int (nI no), .ref m16, .ref m17, .ref m18, .int (nI bz), .int (nI dg), .int (nI db), .int (nI df), .int (nI sp), .int tg, .int lf, .int mm, .ref m27, .int fo, .ref m29, .ref m30, .ref m31])), (m8, .inl (y8, 2, .inl f8)), (m9, .inl (y9, 2, .inl f9))] s.heap.size = A at hD ⊢
  have hA : ∀ q : Nat, s.heap.size ≤ q → A q := fun q h => by rw [← hAe]; exact Or.inr h
  have hS : va_S A s.heap s.heap [] := va_S.rf
  have hP : va_P (dC, dI) vwCl [(mo, .inr (6, [.int th, .int tm, .int (nI sr), .int (nI nc), .ref m4, .ref m5, .ref m6, .ref m7, .ref m8, .ref m9, .ref m10, .ref m11, .ref m12, .int pw, .int rn, .int (nI no), .ref m16, .ref m17, .ref m18, .int (nI bz), .int (nI dg), .int (nI db), .int (nI df), .int (nI sp), .int tg, .int lf, .int mm, .ref m27, .int fo, .ref m29, .ref m30, .ref m31])), (m8, .inl (y8, 2, .inl f8)), (m9, .inl (y9, 2, .inl f9))] s.heap := hP
  have hK : va_K (dC, dI) vwCl [(y8, .int), (y9, .int)] s := hK
  have hl := lv_entry ([.ref mo, .int (nI b9), .int x]) (n := 3) (Nat.le_of_ble_eq_true rfl)
  rw [lg_entry_eq]
  generalize (lg_sl ([.ref mo, .int (nI b9), .int x]) ++ List.replicate (3 - (lg_sl ([.ref mo, .int (nI b9), .int x])).length) Slot.unset).toArray = ls at hl ⊢
  have hl : lv_has ls 3 [(0, .ref mo), (1, .int (nI b9)), (2, .int x)] := hl
  refine lv_aload_n hx hb dX8_moves_0 rfl (lv_at hl 0 rfl) ?_
  refine va_get (D := (dC, dI)) (ci := 6) (v := .ref m8) (C := RX8) (T := TX8) (N := 32) hx hb hts iX8 hown hK hP 0 rfl rfl 8 (by decide) (hts (.fieldLink RX8 22 "ParkTowerModel" "door" "[I") (by decide +kernel)) (fun _ h9 => h9) rfl dX8_moves_1 ?_
  refine lv_iload_n hx hb dX8_moves_4 rfl (lv_at hl 1 rfl) ?_
  refine lv_iload_n hx hb dX8_moves_5 rfl (lv_at hl 2 rfl) ?_
  refine va_iast hx hb hK hP hD hS 1 0 rfl rfl (vp_in_nI (n := b9) (by omega) (by decide)) dX8_moves_6 (fun H locs hP hD hS => ?_)
  rw [nI_clamp (n := b9) (by omega)] at hP hD
  have hP : va_P (dC, dI) vwCl [(mo, .inr (6, [.int th, .int tm, .int (nI sr), .int (nI nc), .ref m4, .ref m5, .ref m6, .ref m7, .ref m8, .ref m9, .ref m10, .ref m11, .ref m12, .int pw, .int rn, .int (nI no), .ref m16, .ref m17, .ref m18, .int (nI bz), .int (nI dg), .int (nI db), .int (nI df), .int (nI sp), .int tg, .int lf, .int mm, .ref m27, .int fo, .ref m29, .ref m30, .ref m31])), (m8, .inl (y8, 2, .inl (upd f8 b9 x))), (m9, .inl (y9, 2, .inl f9))] H := hP
  have hD : va_D A [(mo, .inr (6, [.int th, .int tm, .int (nI sr), .int (nI nc), .ref m4, .ref m5, .ref m6, .ref m7, .ref m8, .ref m9, .ref m10, .ref m11, .ref m12, .int pw, .int rn, .int (nI no), .ref m16, .ref m17, .ref m18, .int (nI bz), .int (nI dg), .int (nI db), .int (nI df), .int (nI sp), .int tg, .int lf, .int mm, .ref m27, .int fo, .ref m29, .ref m30, .ref m31])), (m8, .inl (y8, 2, .inl (upd f8 b9 x))), (m9, .inl (y9, 2, .inl f9))] := hD
  refine lv_aload_n hx hb dX8_moves_7 rfl (lv_at hl 0 rfl) ?_
  refine va_get (D := (dC, dI)) (ci := 6) (v := .ref m9) (C := RX8) (T := TX8) (N := 32) hx hb hts iX8 hown hK hP 0 rfl rfl 9 (by decide) (hts (.fieldLink RX8 25 "ParkTowerModel" "left" "[I") (by decide +kernel)) (fun _ h9 => h9) rfl dX8_moves_8 ?_
  refine lv_iload_n hx hb dX8_moves_11 rfl (lv_at hl 1 rfl) ?_
  refine lv_iconst (v := 4) hx hb dX8_moves_12 (by decide) ?_
  refine va_iast hx hb hK hP hD hS 2 1 rfl rfl (vp_in_nI (n := b9) (by omega) (by decide)) dX8_moves_13 (fun H locs hP hD hS => ?_)
  rw [nI_clamp (n := b9) (by omega)] at hP hD
  have hP : va_P (dC, dI) vwCl [(mo, .inr (6, [.int th, .int tm, .int (nI sr), .int (nI nc), .ref m4, .ref m5, .ref m6, .ref m7, .ref m8, .ref m9, .ref m10, .ref m11, .ref m12, .int pw, .int rn, .int (nI no), .ref m16, .ref m17, .ref m18, .int (nI bz), .int (nI dg), .int (nI db), .int (nI df), .int (nI sp), .int tg, .int lf, .int mm, .ref m27, .int fo, .ref m29, .ref m30, .ref m31])), (m8, .inl (y8, 2, .inl (upd f8 b9 x))), (m9, .inl (y9, 2, .inl (upd f9 b9 4)))] H := hP
  have hD : va_D A [(mo, .inr (6, [.int th, .int tm, .int (nI sr), .int (nI nc), .ref m4, .ref m5, .ref m6, .ref m7, .ref m8, .ref m9, .ref m10, .ref m11, .ref m12, .int pw, .int rn, .int (nI no), .ref m16, .ref m17, .ref m18, .int (nI bz), .int (nI dg), .int (nI db), .int (nI df), .int (nI sp), .int tg, .int lf, .int mm, .ref m27, .int fo, .ref m29, .ref m30, .ref m31])), (m8, .inl (y8, 2, .inl (upd f8 b9 x))), (m9, .inl (y9, 2, .inl (upd f9 b9 4)))] := hD
  have hP9 := hP.sub (ws' := [(mo, .inr (6, [.int th, .int tm, .int (nI sr), .int (nI nc), .ref m4, .ref m5, .ref m6, .ref m7, .ref m8, .ref m9, .ref m10, .ref m11, .ref m12, .int pw, .int rn, .int (nI no), .ref m16, .ref m17, .ref m18, .int (nI bz), .int (nI dg), .int (nI db), .int (nI df), .int (nI sp), .int tg, .int lf, .int mm, .ref m27, .int fo, .ref m29, .ref m30, .ref m31])), (m8, .inl (y8, 2, .inl (upd f8 b9 x))), (m9, .inl (y9, 2, .inl (upd f9 b9 4)))]) [0, 1, 2] rfl
  have hD9 := hD.sub (ws' := [(mo, .inr (6, [.int th, .int tm, .int (nI sr), .int (nI nc), .ref m4, .ref m5, .ref m6, .ref m7, .ref m8, .ref m9, .ref m10, .ref m11, .ref m12, .int pw, .int rn, .int (nI no), .ref m16, .ref m17, .ref m18, .int (nI bz), .int (nI dg), .int (nI db), .int (nI df), .int (nI sp), .int tg, .int lf, .int mm, .ref m27, .int fo, .ref m29, .ref m30, .ref m31])), (m8, .inl (y8, 2, .inl (upd f8 b9 x))), (m9, .inl (y9, 2, .inl (upd f9 b9 4)))]) [0, 1, 2] (by decide) rfl
  have hK9 := hK.sub (tys' := []) [] rfl
  refine W.widen (k := 0) (n := 0) (by omega) (by omega) ?_
  exact W.vret hx hb hr (fun t ht hW => ⟨⟨(fun q_ => ([] : List Int32).getD q_ 0, fun q_ => ([] : List Nat).getD q_ 0, fun q_ => ([] : List (Nat → Int32)).getD q_ (fun _ => 0)), rfl, trivial, by rw [ht]; exact hP9, va_K.moved hW.alike hK9, hD9⟩, hS.F ht⟩) hS.2.2 dX8_moves_14
set_option maxHeartbeats 4000000 in
set_option maxRecDepth 100000 in
theorem m_add0 (l : Launch) (dC : Nat → ClassId) (dI : Nat → Nat → Nat) (sz : Nat) (mo m4 m5 m6 m7 m8 m9 m10 m11 m12 m16 m17 m18 m27 m29 m30 m31 : Nat) (th tm pw rn tg lf mm fo : Int32) (sr nc no bz dg db df sp : Nat) (y16 y17 y18 : ClassId) (f16 f17 f18 : Nat → Int32) (x y : Int32) (hno : no < 24) : Met l yX8_add wsX8_add ({ frames := 0, cells := 0, slots := 0, locals := 0 }) (va_Pc [.ref mo, .int x, .int y, .int 0] (pt_BQ (dC, dI) [(mo, .inr (6, [.int th, .int tm, .int (nI sr), .int (nI nc), .ref m4, .ref m5, .ref m6, .ref m7, .ref m8, .ref m9, .ref m10, .ref m11, .ref m12, .int pw, .int rn, .int (nI no), .ref m16, .ref m17, .ref m18, .int (nI bz), .int (nI dg), .int (nI db), .int (nI df), .int (nI sp), .int tg, .int lf, .int mm, .ref m27, .int fo, .ref m29, .ref m30, .ref m31])), (m16, .inl (y16, 24, .inl f16)), (m17, .inl (y17, 24, .inl f17)), (m18, .inl (y18, 24, .inl f18))] [(y16, .int), (y17, .int), (y18, .boolean)] sz)) (va_Qv (fun (u : (Nat → Int32) × (Nat → Nat) × (Nat → Nat → Int32)) => True) (fun u t => pt_at (dC, dI) (va_A [(mo, .inr (6, [.int th, .int tm, .int (nI sr), .int (nI nc), .ref m4, .ref m5, .ref m6, .ref m7, .ref m8, .ref m9, .ref m10, .ref m11, .ref m12, .int pw, .int rn, .int (nI no), .ref m16, .ref m17, .ref m18, .int (nI bz), .int (nI dg), .int (nI db), .int (nI df), .int (nI sp), .int tg, .int lf, .int mm, .ref m27, .int fo, .ref m29, .ref m30, .ref m31])), (m16, .inl (y16, 24, .inl f16)), (m17, .inl (y17, 24, .inl f17)), (m18, .inl (y18, 24, .inl f18))] sz) [(mo, .inr (6, [.int th, .int tm, .int (nI sr), .int (nI nc), .ref m4, .ref m5, .ref m6, .ref m7, .ref m8, .ref m9, .ref m10, .ref m11, .ref m12, .int pw, .int rn, .int (nI (no + 1)), .ref m16, .ref m17, .ref m18, .int (nI bz), .int (nI dg), .int (nI db), .int (nI df), .int (nI sp), .int tg, .int lf, .int mm, .ref m27, .int fo, .ref m29, .ref m30, .ref m31])), (m16, .inl (y16, 24, .inl (upd f16 no x))), (m17, .inl (y17, 24, .inl (upd f17 no y))), (m18, .inl (y18, 24, .inl (upd f18 no 0)))] [] t) (va_A [(mo, .inr (6, [.int th, .int tm, .int (nI sr), .int (nI nc), .ref m4, .ref m5, .ref m6, .ref m7, .ref m8, .ref m9, .ref m10, .ref m11, .ref m12, .int pw, .int rn, .int (nI no), .ref m16, .ref m17, .ref m18, .int (nI bz), .int (nI dg), .int (nI db), .int (nI df), .int (nI sp), .int tg, .int lf, .int mm, .ref m27, .int fo, .ref m29, .ref m30, .ref m31])), (m16, .inl (y16, 24, .inl f16)), (m17, .inl (y17, 24, .inl f17)), (m18, .inl (y18, 24, .inl f18))] sz)) 0 0 (va_A [(mo, .inr (6, [.int th, .int tm, .int (nI sr), .int (nI nc), .ref m4, .ref m5, .ref m6, .ref m7, .ref m8, .ref m9, .ref m10, .ref m11, .ref m12, .int pw, .int rn, .int (nI no), .ref m16, .ref m17, .ref m18, .int (nI bz), .int (nI dg), .int (nI db), .int (nI df), .int (nI sp), .int tg, .int lf, .int mm, .ref m27, .int fo, .ref m29, .ref m30, .ref m31])), (m16, .inl (y16, 24, .inl f16)), (m17, .inl (y17, 24, .inl f17)), (m18, .inl (y18, 24, .inl f18))] sz) := by
  refine Met.ofW (cc := cX8_add) (maxL := 4) (ret := none) (by decide) rfl ?_
  intro p e s m args below meth c s₁ B hml hv
  obtain ⟨rfl, hsz, hP, hK, hD0, hN⟩ := hv
  have hx := B.exec
  have hb := B.bytes
  have hr := B.returns
  have hts := atoms_spec (ws := wsX8_add) B.pre
  have hown : s.vm.findClass RX8 = some m.cls := findClass_of_methodNamed B.named
  have hlocks := B.notSynchronized
  have iX8 : ∀ w ∈ wsX80, w ∈ wsX8_add := by decide +kernel
  subst hsz
  have hD := hD0.self (sz := s.heap.size)
  generalize hAe : va_A [(mo, .inr (6, [.int th, .int tm, .int (nI sr), .int (nI nc), .ref m4, .ref m5, .ref m6, .ref m7, .ref m8, .ref m9, .ref m10, .ref m11, .ref m12, .int pw, .int rn, .int (nI no), .ref m16, .ref m17, .ref m18, .int (nI bz), .int (nI dg), .int (nI db), .int (nI df), .int (nI sp), .int tg, .int lf, .int mm, .ref m27, .int fo, .ref m29, .ref m30, .ref m31])), (m16, .inl (y16, 24, .inl f16)), (m17, .inl (y17, 24, .inl f17)), (m18, .inl (y18, 24, .inl f18))] s.heap.size = A at hD ⊢
  have hA : ∀ q : Nat, s.heap.size ≤ q → A q := fun q h => by rw [← hAe]; exact Or.inr h
  have hS : va_S A s.heap s.heap [] := va_S.rf
  have hP : va_P (dC, dI) vwCl [(mo, .inr (6, [.int th, .int tm, .int (nI sr), .int (nI nc), .ref m4, .ref m5, .ref m6, .ref m7, .ref m8, .ref m9, .ref m10, .ref m11, .ref m12, .int pw, .int rn, .int (nI no), .ref m16, .ref m17, .ref m18, .int (nI bz), .int (nI dg), .int (nI db), .int (nI df), .int (nI sp), .int tg, .int lf, .int mm, .ref m27, .int fo, .ref m29, .ref m30, .ref m31])), (m16, .inl (y16, 24, .inl f16)), (m17, .inl (y17, 24, .inl f17)), (m18, .inl (y18, 24, .inl f18))] s.heap := hP
  have hK : va_K (dC, dI) vwCl [(y16, .int), (y17, .int), (y18, .boolean)] s := hK
  have hl := lv_entry ([.ref mo, .int x, .int y, .int 0]) (n := 4) (Nat.le_of_ble_eq_true rfl)
  rw [lg_entry_eq]
  generalize (lg_sl ([.ref mo, .int x, .int y, .int 0]) ++ List.replicate (4 - (lg_sl ([.ref mo, .int x, .int y, .int 0])).length) Slot.unset).toArray = ls at hl ⊢
  have hl : lv_has ls 4 [(0, .ref mo), (1, .int x), (2, .int y), (3, .int 0)] := hl
  refine lv_aload_n hx hb dX8_add_0 rfl (lv_at hl 0 rfl) ?_
  refine va_get (D := (dC, dI)) (ci := 6) (v := .ref m16) (C := RX8) (T := TX8) (N := 32) hx hb hts iX8 hown hK hP 0 rfl rfl 16 (by decide) (hts (.fieldLink RX8 42 "ParkTowerModel" "orderCar" "[I") (by decide +kernel)) (fun _ h9 => h9) rfl dX8_add_1 ?_
  refine lv_aload_n hx hb dX8_add_4 rfl (lv_at hl 0 rfl) ?_
  refine va_get (D := (dC, dI)) (ci := 6) (v := .int (nI no)) (C := RX8) (T := TX8) (N := 32) hx hb hts iX8 hown hK hP 0 rfl rfl 15 (by decide) (hts (.fieldLink RX8 93 "ParkTowerModel" "orders" "I") (by decide +kernel)) (fun _ h9 => h9) rfl dX8_add_5 ?_
  refine lv_iload_n hx hb dX8_add_8 rfl (lv_at hl 1 rfl) ?_
  refine va_iast hx hb hK hP hD hS 1 0 rfl rfl (vp_in_nI (n := no) (by omega) (by decide)) dX8_add_9 (fun H locs hP hD hS => ?_)
  rw [nI_clamp (n := no) (by omega)] at hP hD
  have hP : va_P (dC, dI) vwCl [(mo, .inr (6, [.int th, .int tm, .int (nI sr), .int (nI nc), .ref m4, .ref m5, .ref m6, .ref m7, .ref m8, .ref m9, .ref m10, .ref m11, .ref m12, .int pw, .int rn, .int (nI no), .ref m16, .ref m17, .ref m18, .int (nI bz), .int (nI dg), .int (nI db), .int (nI df), .int (nI sp), .int tg, .int lf, .int mm, .ref m27, .int fo, .ref m29, .ref m30, .ref m31])), (m16, .inl (y16, 24, .inl (upd f16 no x))), (m17, .inl (y17, 24, .inl f17)), (m18, .inl (y18, 24, .inl f18))] H := hP
  have hD : va_D A [(mo, .inr (6, [.int th, .int tm, .int (nI sr), .int (nI nc), .ref m4, .ref m5, .ref m6, .ref m7, .ref m8, .ref m9, .ref m10, .ref m11, .ref m12, .int pw, .int rn, .int (nI no), .ref m16, .ref m17, .ref m18, .int (nI bz), .int (nI dg), .int (nI db), .int (nI df), .int (nI sp), .int tg, .int lf, .int mm, .ref m27, .int fo, .ref m29, .ref m30, .ref m31])), (m16, .inl (y16, 24, .inl (upd f16 no x))), (m17, .inl (y17, 24, .inl f17)), (m18, .inl (y18, 24, .inl f18))] := hD
  refine lv_aload_n hx hb dX8_add_10 rfl (lv_at hl 0 rfl) ?_
  refine va_get (D := (dC, dI)) (ci := 6) (v := .ref m17) (C := RX8) (T := TX8) (N := 32) hx hb hts iX8 hown hK hP 0 rfl rfl 17 (by decide) (hts (.fieldLink RX8 45 "ParkTowerModel" "orderBay" "[I") (by decide +kernel)) (fun _ h9 => h9) rfl dX8_add_11 ?_
  refine lv_aload_n hx hb dX8_add_14 rfl (lv_at hl 0 rfl) ?_
  refine va_get (D := (dC, dI)) (ci := 6) (v := .int (nI no)) (C := RX8) (T := TX8) (N := 32) hx hb hts iX8 hown hK hP 0 rfl rfl 15 (by decide) (hts (.fieldLink RX8 93 "ParkTowerModel" "orders" "I") (by decide +kernel)) (fun _ h9 => h9) rfl dX8_add_15 ?_
  refine lv_iload_n hx hb dX8_add_18 rfl (lv_at hl 2 rfl) ?_
  refine va_iast hx hb hK hP hD hS 2 1 rfl rfl (vp_in_nI (n := no) (by omega) (by decide)) dX8_add_19 (fun H locs hP hD hS => ?_)
  rw [nI_clamp (n := no) (by omega)] at hP hD
  have hP : va_P (dC, dI) vwCl [(mo, .inr (6, [.int th, .int tm, .int (nI sr), .int (nI nc), .ref m4, .ref m5, .ref m6, .ref m7, .ref m8, .ref m9, .ref m10, .ref m11, .ref m12, .int pw, .int rn, .int (nI no), .ref m16, .ref m17, .ref m18, .int (nI bz), .int (nI dg), .int (nI db), .int (nI df), .int (nI sp), .int tg, .int lf, .int mm, .ref m27, .int fo, .ref m29, .ref m30, .ref m31])), (m16, .inl (y16, 24, .inl (upd f16 no x))), (m17, .inl (y17, 24, .inl (upd f17 no y))), (m18, .inl (y18, 24, .inl f18))] H := hP
  have hD : va_D A [(mo, .inr (6, [.int th, .int tm, .int (nI sr), .int (nI nc), .ref m4, .ref m5, .ref m6, .ref m7, .ref m8, .ref m9, .ref m10, .ref m11, .ref m12, .int pw, .int rn, .int (nI no), .ref m16, .ref m17, .ref m18, .int (nI bz), .int (nI dg), .int (nI db), .int (nI df), .int (nI sp), .int tg, .int lf, .int mm, .ref m27, .int fo, .ref m29, .ref m30, .ref m31])), (m16, .inl (y16, 24, .inl (upd f16 no x))), (m17, .inl (y17, 24, .inl (upd f17 no y))), (m18, .inl (y18, 24, .inl f18))] := hD
  refine lv_aload_n hx hb dX8_add_20 rfl (lv_at hl 0 rfl) ?_
  refine va_get (D := (dC, dI)) (ci := 6) (v := .ref m18) (C := RX8) (T := TX8) (N := 32) hx hb hts iX8 hown hK hP 0 rfl rfl 18 (by decide) (hts (.fieldLink RX8 48 "ParkTowerModel" "fetches" "[Z") (by decide +kernel)) (fun _ h9 => h9) rfl dX8_add_21 ?_
  refine lv_aload_n hx hb dX8_add_24 rfl (lv_at hl 0 rfl) ?_
  refine va_get (D := (dC, dI)) (ci := 6) (v := .int (nI no)) (C := RX8) (T := TX8) (N := 32) hx hb hts iX8 hown hK hP 0 rfl rfl 15 (by decide) (hts (.fieldLink RX8 93 "ParkTowerModel" "orders" "I") (by decide +kernel)) (fun _ h9 => h9) rfl dX8_add_25 ?_
  refine lv_iload_n hx hb dX8_add_28 rfl (lv_at hl 3 rfl) ?_
  refine va_zast hx hb hK hP hD hS 3 2 rfl rfl (vp_in_nI (n := no) (by omega) (by decide)) dX8_add_29 (fun H locs hP hD hS => ?_)
  rw [nI_clamp (n := no) (by omega)] at hP hD
  have hP : va_P (dC, dI) vwCl [(mo, .inr (6, [.int th, .int tm, .int (nI sr), .int (nI nc), .ref m4, .ref m5, .ref m6, .ref m7, .ref m8, .ref m9, .ref m10, .ref m11, .ref m12, .int pw, .int rn, .int (nI no), .ref m16, .ref m17, .ref m18, .int (nI bz), .int (nI dg), .int (nI db), .int (nI df), .int (nI sp), .int tg, .int lf, .int mm, .ref m27, .int fo, .ref m29, .ref m30, .ref m31])), (m16, .inl (y16, 24, .inl (upd f16 no x))), (m17, .inl (y17, 24, .inl (upd f17 no y))), (m18, .inl (y18, 24, .inl (upd f18 no 0)))] H := hP
  have hD : va_D A [(mo, .inr (6, [.int th, .int tm, .int (nI sr), .int (nI nc), .ref m4, .ref m5, .ref m6, .ref m7, .ref m8, .ref m9, .ref m10, .ref m11, .ref m12, .int pw, .int rn, .int (nI no), .ref m16, .ref m17, .ref m18, .int (nI bz), .int (nI dg), .int (nI db), .int (nI df), .int (nI sp), .int tg, .int lf, .int mm, .ref m27, .int fo, .ref m29, .ref m30, .ref m31])), (m16, .inl (y16, 24, .inl (upd f16 no x))), (m17, .inl (y17, 24, .inl (upd f17 no y))), (m18, .inl (y18, 24, .inl (upd f18 no 0)))] := hD
  refine lv_aload_n hx hb dX8_add_30 rfl (lv_at hl 0 rfl) ?_
  refine lv_dup hx hb dX8_add_31 rfl ?_
  refine va_get (D := (dC, dI)) (ci := 6) (v := .int (nI no)) (C := RX8) (T := TX8) (N := 32) hx hb hts iX8 hown hK hP 0 rfl rfl 15 (by decide) (hts (.fieldLink RX8 93 "ParkTowerModel" "orders" "I") (by decide +kernel)) (fun _ h9 => h9) rfl dX8_add_32 ?_
  refine lv_iconst (v := 1) hx hb dX8_add_35 (by decide) ?_
  refine lv_iadd hx hb dX8_add_36 ?_
  refine pt_topi (nI (no + 1)) (nI_add no 1) ?_
  refine va_put (D := (dC, dI)) (ci := 6) (v := .int (nI (no + 1))) (ty := .int) (C := RX8) (T := TX8) (N := 32) hx hb hts iX8 tyX8 tyX8_ok nmX8 hown hK hP hD hS 0 rfl rfl 15 (by decide) (hts (.fieldLink RX8 93 "ParkTowerModel" "orders" "I") (by decide +kernel)) (fun _ h9 => h9) rfl (by decide +kernel) rfl rfl (Nat.le_of_ble_eq_true rfl) dX8_add_37 (fun H locs hP hD hS => ?_)
  have hP : va_P (dC, dI) vwCl [(mo, .inr (6, [.int th, .int tm, .int (nI sr), .int (nI nc), .ref m4, .ref m5, .ref m6, .ref m7, .ref m8, .ref m9, .ref m10, .ref m11, .ref m12, .int pw, .int rn, .int (nI (no + 1)), .ref m16, .ref m17, .ref m18, .int (nI bz), .int (nI dg), .int (nI db), .int (nI df), .int (nI sp), .int tg, .int lf, .int mm, .ref m27, .int fo, .ref m29, .ref m30, .ref m31])), (m16, .inl (y16, 24, .inl (upd f16 no x))), (m17, .inl (y17, 24, .inl (upd f17 no y))), (m18, .inl (y18, 24, .inl (upd f18 no 0)))] H := hP
  have hD : va_D A [(mo, .inr (6, [.int th, .int tm, .int (nI sr), .int (nI nc), .ref m4, .ref m5, .ref m6, .ref m7, .ref m8, .ref m9, .ref m10, .ref m11, .ref m12, .int pw, .int rn, .int (nI (no + 1)), .ref m16, .ref m17, .ref m18, .int (nI bz), .int (nI dg), .int (nI db), .int (nI df), .int (nI sp), .int tg, .int lf, .int mm, .ref m27, .int fo, .ref m29, .ref m30, .ref m31])), (m16, .inl (y16, 24, .inl (upd f16 no x))), (m17, .inl (y17, 24, .inl (upd f17 no y))), (m18, .inl (y18, 24, .inl (upd f18 no 0)))] := hD
  have hP9 := hP.sub (ws' := [(mo, .inr (6, [.int th, .int tm, .int (nI sr), .int (nI nc), .ref m4, .ref m5, .ref m6, .ref m7, .ref m8, .ref m9, .ref m10, .ref m11, .ref m12, .int pw, .int rn, .int (nI (no + 1)), .ref m16, .ref m17, .ref m18, .int (nI bz), .int (nI dg), .int (nI db), .int (nI df), .int (nI sp), .int tg, .int lf, .int mm, .ref m27, .int fo, .ref m29, .ref m30, .ref m31])), (m16, .inl (y16, 24, .inl (upd f16 no x))), (m17, .inl (y17, 24, .inl (upd f17 no y))), (m18, .inl (y18, 24, .inl (upd f18 no 0)))]) [0, 1, 2, 3] rfl
  have hD9 := hD.sub (ws' := [(mo, .inr (6, [.int th, .int tm, .int (nI sr), .int (nI nc), .ref m4, .ref m5, .ref m6, .ref m7, .ref m8, .ref m9, .ref m10, .ref m11, .ref m12, .int pw, .int rn, .int (nI (no + 1)), .ref m16, .ref m17, .ref m18, .int (nI bz), .int (nI dg), .int (nI db), .int (nI df), .int (nI sp), .int tg, .int lf, .int mm, .ref m27, .int fo, .ref m29, .ref m30, .ref m31])), (m16, .inl (y16, 24, .inl (upd f16 no x))), (m17, .inl (y17, 24, .inl (upd f17 no y))), (m18, .inl (y18, 24, .inl (upd f18 no 0)))]) [0, 1, 2, 3] (by decide) rfl
  have hK9 := hK.sub (tys' := []) [] rfl
  refine W.widen (k := 0) (n := 0) (by omega) (by omega) ?_
  exact W.vret hx hb hr (fun t ht hW => ⟨⟨(fun q_ => ([] : List Int32).getD q_ 0, fun q_ => ([] : List Nat).getD q_ 0, fun q_ => ([] : List (Nat → Int32)).getD q_ (fun _ => 0)), rfl, trivial, by rw [ht]; exact hP9, va_K.moved hW.alike hK9, hD9⟩, hS.F ht⟩) hS.2.2 dX8_add_40
set_option maxHeartbeats 4000000 in
set_option maxRecDepth 100000 in
theorem m_add1 (l : Launch) (dC : Nat → ClassId) (dI : Nat → Nat → Nat) (sz : Nat) (mo m4 m5 m6 m7 m8 m9 m10 m11 m12 m16 m17 m18 m27 m29 m30 m31 : Nat) (th tm pw rn tg lf mm fo : Int32) (sr nc no bz dg db df sp : Nat) (y16 y17 y18 : ClassId) (f16 f17 f18 : Nat → Int32) (x y : Int32) (hno : no < 24) : Met l yX8_add wsX8_add ({ frames := 0, cells := 0, slots := 0, locals := 0 }) (va_Pc [.ref mo, .int x, .int y, .int 1] (pt_BQ (dC, dI) [(mo, .inr (6, [.int th, .int tm, .int (nI sr), .int (nI nc), .ref m4, .ref m5, .ref m6, .ref m7, .ref m8, .ref m9, .ref m10, .ref m11, .ref m12, .int pw, .int rn, .int (nI no), .ref m16, .ref m17, .ref m18, .int (nI bz), .int (nI dg), .int (nI db), .int (nI df), .int (nI sp), .int tg, .int lf, .int mm, .ref m27, .int fo, .ref m29, .ref m30, .ref m31])), (m16, .inl (y16, 24, .inl f16)), (m17, .inl (y17, 24, .inl f17)), (m18, .inl (y18, 24, .inl f18))] [(y16, .int), (y17, .int), (y18, .boolean)] sz)) (va_Qv (fun (u : (Nat → Int32) × (Nat → Nat) × (Nat → Nat → Int32)) => True) (fun u t => pt_at (dC, dI) (va_A [(mo, .inr (6, [.int th, .int tm, .int (nI sr), .int (nI nc), .ref m4, .ref m5, .ref m6, .ref m7, .ref m8, .ref m9, .ref m10, .ref m11, .ref m12, .int pw, .int rn, .int (nI no), .ref m16, .ref m17, .ref m18, .int (nI bz), .int (nI dg), .int (nI db), .int (nI df), .int (nI sp), .int tg, .int lf, .int mm, .ref m27, .int fo, .ref m29, .ref m30, .ref m31])), (m16, .inl (y16, 24, .inl f16)), (m17, .inl (y17, 24, .inl f17)), (m18, .inl (y18, 24, .inl f18))] sz) [(mo, .inr (6, [.int th, .int tm, .int (nI sr), .int (nI nc), .ref m4, .ref m5, .ref m6, .ref m7, .ref m8, .ref m9, .ref m10, .ref m11, .ref m12, .int pw, .int rn, .int (nI (no + 1)), .ref m16, .ref m17, .ref m18, .int (nI bz), .int (nI dg), .int (nI db), .int (nI df), .int (nI sp), .int tg, .int lf, .int mm, .ref m27, .int fo, .ref m29, .ref m30, .ref m31])), (m16, .inl (y16, 24, .inl (upd f16 no x))), (m17, .inl (y17, 24, .inl (upd f17 no y))), (m18, .inl (y18, 24, .inl (upd f18 no 1)))] [] t) (va_A [(mo, .inr (6, [.int th, .int tm, .int (nI sr), .int (nI nc), .ref m4, .ref m5, .ref m6, .ref m7, .ref m8, .ref m9, .ref m10, .ref m11, .ref m12, .int pw, .int rn, .int (nI no), .ref m16, .ref m17, .ref m18, .int (nI bz), .int (nI dg), .int (nI db), .int (nI df), .int (nI sp), .int tg, .int lf, .int mm, .ref m27, .int fo, .ref m29, .ref m30, .ref m31])), (m16, .inl (y16, 24, .inl f16)), (m17, .inl (y17, 24, .inl f17)), (m18, .inl (y18, 24, .inl f18))] sz)) 0 0 (va_A [(mo, .inr (6, [.int th, .int tm, .int (nI sr), .int (nI nc), .ref m4, .ref m5, .ref m6, .ref m7, .ref m8, .ref m9, .ref m10, .ref m11, .ref m12, .int pw, .int rn, .int (nI no), .ref m16, .ref m17, .ref m18, .int (nI bz), .int (nI dg), .int (nI db), .int (nI df), .int (nI sp), .int tg, .int lf, .int mm, .ref m27, .int fo, .ref m29, .ref m30, .ref m31])), (m16, .inl (y16, 24, .inl f16)), (m17, .inl (y17, 24, .inl f17)), (m18, .inl (y18, 24, .inl f18))] sz) := by
  refine Met.ofW (cc := cX8_add) (maxL := 4) (ret := none) (by decide) rfl ?_
  intro p e s m args below meth c s₁ B hml hv
  obtain ⟨rfl, hsz, hP, hK, hD0, hN⟩ := hv
  have hx := B.exec
  have hb := B.bytes
  have hr := B.returns
  have hts := atoms_spec (ws := wsX8_add) B.pre
  have hown : s.vm.findClass RX8 = some m.cls := findClass_of_methodNamed B.named
  have hlocks := B.notSynchronized
  have iX8 : ∀ w ∈ wsX80, w ∈ wsX8_add := by decide +kernel
  subst hsz
  have hD := hD0.self (sz := s.heap.size)
  generalize hAe : va_A [(mo, .inr (6, [.int th, .int tm, .int (nI sr), .int (nI nc), .ref m4, .ref m5, .ref m6, .ref m7, .ref m8, .ref m9, .ref m10, .ref m11, .ref m12, .int pw, .int rn, .int (nI no), .ref m16, .ref m17, .ref m18, .int (nI bz), .int (nI dg), .int (nI db), .int (nI df), .int (nI sp), .int tg, .int lf, .int mm, .ref m27, .int fo, .ref m29, .ref m30, .ref m31])), (m16, .inl (y16, 24, .inl f16)), (m17, .inl (y17, 24, .inl f17)), (m18, .inl (y18, 24, .inl f18))] s.heap.size = A at hD ⊢
  have hA : ∀ q : Nat, s.heap.size ≤ q → A q := fun q h => by rw [← hAe]; exact Or.inr h
  have hS : va_S A s.heap s.heap [] := va_S.rf
  have hP : va_P (dC, dI) vwCl [(mo, .inr (6, [.int th, .int tm, .int (nI sr), .int (nI nc), .ref m4, .ref m5, .ref m6, .ref m7, .ref m8, .ref m9, .ref m10, .ref m11, .ref m12, .int pw, .int rn, .int (nI no), .ref m16, .ref m17, .ref m18, .int (nI bz), .int (nI dg), .int (nI db), .int (nI df), .int (nI sp), .int tg, .int lf, .int mm, .ref m27, .int fo, .ref m29, .ref m30, .ref m31])), (m16, .inl (y16, 24, .inl f16)), (m17, .inl (y17, 24, .inl f17)), (m18, .inl (y18, 24, .inl f18))] s.heap := hP
  have hK : va_K (dC, dI) vwCl [(y16, .int), (y17, .int), (y18, .boolean)] s := hK
  have hl := lv_entry ([.ref mo, .int x, .int y, .int 1]) (n := 4) (Nat.le_of_ble_eq_true rfl)
  rw [lg_entry_eq]
  generalize (lg_sl ([.ref mo, .int x, .int y, .int 1]) ++ List.replicate (4 - (lg_sl ([.ref mo, .int x, .int y, .int 1])).length) Slot.unset).toArray = ls at hl ⊢
  have hl : lv_has ls 4 [(0, .ref mo), (1, .int x), (2, .int y), (3, .int 1)] := hl
  refine lv_aload_n hx hb dX8_add_0 rfl (lv_at hl 0 rfl) ?_
  refine va_get (D := (dC, dI)) (ci := 6) (v := .ref m16) (C := RX8) (T := TX8) (N := 32) hx hb hts iX8 hown hK hP 0 rfl rfl 16 (by decide) (hts (.fieldLink RX8 42 "ParkTowerModel" "orderCar" "[I") (by decide +kernel)) (fun _ h9 => h9) rfl dX8_add_1 ?_
  refine lv_aload_n hx hb dX8_add_4 rfl (lv_at hl 0 rfl) ?_
  refine va_get (D := (dC, dI)) (ci := 6) (v := .int (nI no)) (C := RX8) (T := TX8) (N := 32) hx hb hts iX8 hown hK hP 0 rfl rfl 15 (by decide) (hts (.fieldLink RX8 93 "ParkTowerModel" "orders" "I") (by decide +kernel)) (fun _ h9 => h9) rfl dX8_add_5 ?_
  refine lv_iload_n hx hb dX8_add_8 rfl (lv_at hl 1 rfl) ?_
  refine va_iast hx hb hK hP hD hS 1 0 rfl rfl (vp_in_nI (n := no) (by omega) (by decide)) dX8_add_9 (fun H locs hP hD hS => ?_)
  rw [nI_clamp (n := no) (by omega)] at hP hD
  have hP : va_P (dC, dI) vwCl [(mo, .inr (6, [.int th, .int tm, .int (nI sr), .int (nI nc), .ref m4, .ref m5, .ref m6, .ref m7, .ref m8, .ref m9, .ref m10, .ref m11, .ref m12, .int pw, .int rn, .int (nI no), .ref m16, .ref m17, .ref m18, .int (nI bz), .int (nI dg), .int (nI db), .int (nI df), .int (nI sp), .int tg, .int lf, .int mm, .ref m27, .int fo, .ref m29, .ref m30, .ref m31])), (m16, .inl (y16, 24, .inl (upd f16 no x))), (m17, .inl (y17, 24, .inl f17)), (m18, .inl (y18, 24, .inl f18))] H := hP
  have hD : va_D A [(mo, .inr (6, [.int th, .int tm, .int (nI sr), .int (nI nc), .ref m4, .ref m5, .ref m6, .ref m7, .ref m8, .ref m9, .ref m10, .ref m11, .ref m12, .int pw, .int rn, .int (nI no), .ref m16, .ref m17, .ref m18, .int (nI bz), .int (nI dg), .int (nI db), .int (nI df), .int (nI sp), .int tg, .int lf, .int mm, .ref m27, .int fo, .ref m29, .ref m30, .ref m31])), (m16, .inl (y16, 24, .inl (upd f16 no x))), (m17, .inl (y17, 24, .inl f17)), (m18, .inl (y18, 24, .inl f18))] := hD
  refine lv_aload_n hx hb dX8_add_10 rfl (lv_at hl 0 rfl) ?_
  refine va_get (D := (dC, dI)) (ci := 6) (v := .ref m17) (C := RX8) (T := TX8) (N := 32) hx hb hts iX8 hown hK hP 0 rfl rfl 17 (by decide) (hts (.fieldLink RX8 45 "ParkTowerModel" "orderBay" "[I") (by decide +kernel)) (fun _ h9 => h9) rfl dX8_add_11 ?_
  refine lv_aload_n hx hb dX8_add_14 rfl (lv_at hl 0 rfl) ?_
  refine va_get (D := (dC, dI)) (ci := 6) (v := .int (nI no)) (C := RX8) (T := TX8) (N := 32) hx hb hts iX8 hown hK hP 0 rfl rfl 15 (by decide) (hts (.fieldLink RX8 93 "ParkTowerModel" "orders" "I") (by decide +kernel)) (fun _ h9 => h9) rfl dX8_add_15 ?_
  refine lv_iload_n hx hb dX8_add_18 rfl (lv_at hl 2 rfl) ?_
  refine va_iast hx hb hK hP hD hS 2 1 rfl rfl (vp_in_nI (n := no) (by omega) (by decide)) dX8_add_19 (fun H locs hP hD hS => ?_)
  rw [nI_clamp (n := no) (by omega)] at hP hD
  have hP : va_P (dC, dI) vwCl [(mo, .inr (6, [.int th, .int tm, .int (nI sr), .int (nI nc), .ref m4, .ref m5, .ref m6, .ref m7, .ref m8, .ref m9, .ref m10, .ref m11, .ref m12, .int pw, .int rn, .int (nI no), .ref m16, .ref m17, .ref m18, .int (nI bz), .int (nI dg), .int (nI db), .int (nI df), .int (nI sp), .int tg, .int lf, .int mm, .ref m27, .int fo, .ref m29, .ref m30, .ref m31])), (m16, .inl (y16, 24, .inl (upd f16 no x))), (m17, .inl (y17, 24, .inl (upd f17 no y))), (m18, .inl (y18, 24, .inl f18))] H := hP
  have hD : va_D A [(mo, .inr (6, [.int th, .int tm, .int (nI sr), .int (nI nc), .ref m4, .ref m5, .ref m6, .ref m7, .ref m8, .ref m9, .ref m10, .ref m11, .ref m12, .int pw, .int rn, .int (nI no), .ref m16, .ref m17, .ref m18, .int (nI bz), .int (nI dg), .int (nI db), .int (nI df), .int (nI sp), .int tg, .int lf, .int mm, .ref m27, .int fo, .ref m29, .ref m30, .ref m31])), (m16, .inl (y16, 24, .inl (upd f16 no x))), (m17, .inl (y17, 24, .inl (upd f17 no y))), (m18, .inl (y18, 24, .inl f18))] := hD
  refine lv_aload_n hx hb dX8_add_20 rfl (lv_at hl 0 rfl) ?_
  refine va_get (D := (dC, dI)) (ci := 6) (v := .ref m18) (C := RX8) (T := TX8) (N := 32) hx hb hts iX8 hown hK hP 0 rfl rfl 18 (by decide) (hts (.fieldLink RX8 48 "ParkTowerModel" "fetches" "[Z") (by decide +kernel)) (fun _ h9 => h9) rfl dX8_add_21 ?_
  refine lv_aload_n hx hb dX8_add_24 rfl (lv_at hl 0 rfl) ?_
  refine va_get (D := (dC, dI)) (ci := 6) (v := .int (nI no)) (C := RX8) (T := TX8) (N := 32) hx hb hts iX8 hown hK hP 0 rfl rfl 15 (by decide) (hts (.fieldLink RX8 93 "ParkTowerModel" "orders" "I") (by decide +kernel)) (fun _ h9 => h9) rfl dX8_add_25 ?_
  refine lv_iload_n hx hb dX8_add_28 rfl (lv_at hl 3 rfl) ?_
  refine va_zast hx hb hK hP hD hS 3 2 rfl rfl (vp_in_nI (n := no) (by omega) (by decide)) dX8_add_29 (fun H locs hP hD hS => ?_)
  rw [nI_clamp (n := no) (by omega)] at hP hD
  have hP : va_P (dC, dI) vwCl [(mo, .inr (6, [.int th, .int tm, .int (nI sr), .int (nI nc), .ref m4, .ref m5, .ref m6, .ref m7, .ref m8, .ref m9, .ref m10, .ref m11, .ref m12, .int pw, .int rn, .int (nI no), .ref m16, .ref m17, .ref m18, .int (nI bz), .int (nI dg), .int (nI db), .int (nI df), .int (nI sp), .int tg, .int lf, .int mm, .ref m27, .int fo, .ref m29, .ref m30, .ref m31])), (m16, .inl (y16, 24, .inl (upd f16 no x))), (m17, .inl (y17, 24, .inl (upd f17 no y))), (m18, .inl (y18, 24, .inl (upd f18 no 1)))] H := hP
  have hD : va_D A [(mo, .inr (6, [.int th, .int tm, .int (nI sr), .int (nI nc), .ref m4, .ref m5, .ref m6, .ref m7, .ref m8, .ref m9, .ref m10, .ref m11, .ref m12, .int pw, .int rn, .int (nI no), .ref m16, .ref m17, .ref m18, .int (nI bz), .int (nI dg), .int (nI db), .int (nI df), .int (nI sp), .int tg, .int lf, .int mm, .ref m27, .int fo, .ref m29, .ref m30, .ref m31])), (m16, .inl (y16, 24, .inl (upd f16 no x))), (m17, .inl (y17, 24, .inl (upd f17 no y))), (m18, .inl (y18, 24, .inl (upd f18 no 1)))] := hD
  refine lv_aload_n hx hb dX8_add_30 rfl (lv_at hl 0 rfl) ?_
  refine lv_dup hx hb dX8_add_31 rfl ?_
  refine va_get (D := (dC, dI)) (ci := 6) (v := .int (nI no)) (C := RX8) (T := TX8) (N := 32) hx hb hts iX8 hown hK hP 0 rfl rfl 15 (by decide) (hts (.fieldLink RX8 93 "ParkTowerModel" "orders" "I") (by decide +kernel)) (fun _ h9 => h9) rfl dX8_add_32 ?_
  refine lv_iconst (v := 1) hx hb dX8_add_35 (by decide) ?_
  refine lv_iadd hx hb dX8_add_36 ?_
  refine pt_topi (nI (no + 1)) (nI_add no 1) ?_
  refine va_put (D := (dC, dI)) (ci := 6) (v := .int (nI (no + 1))) (ty := .int) (C := RX8) (T := TX8) (N := 32) hx hb hts iX8 tyX8 tyX8_ok nmX8 hown hK hP hD hS 0 rfl rfl 15 (by decide) (hts (.fieldLink RX8 93 "ParkTowerModel" "orders" "I") (by decide +kernel)) (fun _ h9 => h9) rfl (by decide +kernel) rfl rfl (Nat.le_of_ble_eq_true rfl) dX8_add_37 (fun H locs hP hD hS => ?_)
  have hP : va_P (dC, dI) vwCl [(mo, .inr (6, [.int th, .int tm, .int (nI sr), .int (nI nc), .ref m4, .ref m5, .ref m6, .ref m7, .ref m8, .ref m9, .ref m10, .ref m11, .ref m12, .int pw, .int rn, .int (nI (no + 1)), .ref m16, .ref m17, .ref m18, .int (nI bz), .int (nI dg), .int (nI db), .int (nI df), .int (nI sp), .int tg, .int lf, .int mm, .ref m27, .int fo, .ref m29, .ref m30, .ref m31])), (m16, .inl (y16, 24, .inl (upd f16 no x))), (m17, .inl (y17, 24, .inl (upd f17 no y))), (m18, .inl (y18, 24, .inl (upd f18 no 1)))] H := hP
  have hD : va_D A [(mo, .inr (6, [.int th, .int tm, .int (nI sr), .int (nI nc), .ref m4, .ref m5, .ref m6, .ref m7, .ref m8, .ref m9, .ref m10, .ref m11, .ref m12, .int pw, .int rn, .int (nI (no + 1)), .ref m16, .ref m17, .ref m18, .int (nI bz), .int (nI dg), .int (nI db), .int (nI df), .int (nI sp), .int tg, .int lf, .int mm, .ref m27, .int fo, .ref m29, .ref m30, .ref m31])), (m16, .inl (y16, 24, .inl (upd f16 no x))), (m17, .inl (y17, 24, .inl (upd f17 no y))), (m18, .inl (y18, 24, .inl (upd f18 no 1)))] := hD
  have hP9 := hP.sub (ws' := [(mo, .inr (6, [.int th, .int tm, .int (nI sr), .int (nI nc), .ref m4, .ref m5, .ref m6, .ref m7, .ref m8, .ref m9, .ref m10, .ref m11, .ref m12, .int pw, .int rn, .int (nI (no + 1)), .ref m16, .ref m17, .ref m18, .int (nI bz), .int (nI dg), .int (nI db), .int (nI df), .int (nI sp), .int tg, .int lf, .int mm, .ref m27, .int fo, .ref m29, .ref m30, .ref m31])), (m16, .inl (y16, 24, .inl (upd f16 no x))), (m17, .inl (y17, 24, .inl (upd f17 no y))), (m18, .inl (y18, 24, .inl (upd f18 no 1)))]) [0, 1, 2, 3] rfl
  have hD9 := hD.sub (ws' := [(mo, .inr (6, [.int th, .int tm, .int (nI sr), .int (nI nc), .ref m4, .ref m5, .ref m6, .ref m7, .ref m8, .ref m9, .ref m10, .ref m11, .ref m12, .int pw, .int rn, .int (nI (no + 1)), .ref m16, .ref m17, .ref m18, .int (nI bz), .int (nI dg), .int (nI db), .int (nI df), .int (nI sp), .int tg, .int lf, .int mm, .ref m27, .int fo, .ref m29, .ref m30, .ref m31])), (m16, .inl (y16, 24, .inl (upd f16 no x))), (m17, .inl (y17, 24, .inl (upd f17 no y))), (m18, .inl (y18, 24, .inl (upd f18 no 1)))]) [0, 1, 2, 3] (by decide) rfl
  have hK9 := hK.sub (tys' := []) [] rfl
  refine W.widen (k := 0) (n := 0) (by omega) (by omega) ?_
  exact W.vret hx hb hr (fun t ht hW => ⟨⟨(fun q_ => ([] : List Int32).getD q_ 0, fun q_ => ([] : List Nat).getD q_ 0, fun q_ => ([] : List (Nat → Int32)).getD q_ (fun _ => 0)), rfl, trivial, by rw [ht]; exact hP9, va_K.moved hW.alike hK9, hD9⟩, hS.F ht⟩) hS.2.2 dX8_add_40
set_option maxHeartbeats 4000000 in
set_option maxRecDepth 100000 in
theorem m_may (l : Launch) (dC : Nat → ClassId) (dI : Nat → Nat → Nat) (sz : Nat) (mo m4 m5 m6 m7 m8 m9 m10 m11 m12 m16 m17 m18 m27 m29 m30 m31 : Nat) (th tm pw rn tg lf mm fo : Int32) (sr nc no bz dg db df sp : Nat) (y7 : ClassId) (f7 : Nat → Int32) (a9 b9 : Nat) (ha9 : a9 < 96) (hb9 : b9 < 96) : Met l yX8_may wsX8_may ({ frames := 2, cells := 0, slots := 0, locals := 41 }) (va_Pc [.ref mo, .int (nI a9), .int (nI b9)] (pt_BQ (dC, dI) [(mo, .inr (6, [.int th, .int tm, .int (nI sr), .int (nI nc), .ref m4, .ref m5, .ref m6, .ref m7, .ref m8, .ref m9, .ref m10, .ref m11, .ref m12, .int pw, .int rn, .int (nI no), .ref m16, .ref m17, .ref m18, .int (nI bz), .int (nI dg), .int (nI db), .int (nI df), .int (nI sp), .int tg, .int lf, .int mm, .ref m27, .int fo, .ref m29, .ref m30, .ref m31])), (m7, .inl (y7, 96, .inl f7))] [(y7, .int)] sz)) (va_Qi (fun (r : Int32) (u : (Nat → Int32) × (Nat → Nat) × (Nat → Nat → Int32)) => r = 0 ∨ (r = 1 ∧ ¬ f7 a9 ≤ 0 ∧ f7 b9 = 0)) (fun u t => pt_at (dC, dI) (va_A [(mo, .inr (6, [.int th, .int tm, .int (nI sr), .int (nI nc), .ref m4, .ref m5, .ref m6, .ref m7, .ref m8, .ref m9, .ref m10, .ref m11, .ref m12, .int pw, .int rn, .int (nI no), .ref m16, .ref m17, .ref m18, .int (nI bz), .int (nI dg), .int (nI db), .int (nI df), .int (nI sp), .int tg, .int lf, .int mm, .ref m27, .int fo, .ref m29, .ref m30, .ref m31])), (m7, .inl (y7, 96, .inl f7))] sz) [(mo, .inr (6, [.int th, .int tm, .int (nI sr), .int (nI nc), .ref m4, .ref m5, .ref m6, .ref m7, .ref m8, .ref m9, .ref m10, .ref m11, .ref m12, .int pw, .int rn, .int (nI no), .ref m16, .ref m17, .ref m18, .int (nI bz), .int (nI dg), .int (nI db), .int (nI df), .int (nI sp), .int tg, .int lf, .int mm, .ref m27, .int fo, .ref m29, .ref m30, .ref m31])), (m7, .inl (y7, 96, .inl f7))] [] t) (va_A [(mo, .inr (6, [.int th, .int tm, .int (nI sr), .int (nI nc), .ref m4, .ref m5, .ref m6, .ref m7, .ref m8, .ref m9, .ref m10, .ref m11, .ref m12, .int pw, .int rn, .int (nI no), .ref m16, .ref m17, .ref m18, .int (nI bz), .int (nI dg), .int (nI db), .int (nI df), .int (nI sp), .int tg, .int lf, .int mm, .ref m27, .int fo, .ref m29, .ref m30, .ref m31])), (m7, .inl (y7, 96, .inl f7))] sz)) 0 0 (va_A [(mo, .inr (6, [.int th, .int tm, .int (nI sr), .int (nI nc), .ref m4, .ref m5, .ref m6, .ref m7, .ref m8, .ref m9, .ref m10, .ref m11, .ref m12, .int pw, .int rn, .int (nI no), .ref m16, .ref m17, .ref m18, .int (nI bz), .int (nI dg), .int (nI db), .int (nI df), .int (nI sp), .int tg, .int lf, .int mm, .ref m27, .int fo, .ref m29, .ref m30, .ref m31])), (m7, .inl (y7, 96, .inl f7))] sz) := by
  refine Met.ofW (cc := cX8_may) (maxL := 5) (ret := (some .boolean)) (by decide) rfl ?_
  intro p e s m args below meth c s₁ B hml hv
  obtain ⟨rfl, hsz, hP, hK, hD0, hN⟩ := hv
  have hx := B.exec
  have hb := B.bytes
  have hr := B.returns
  have hts := atoms_spec (ws := wsX8_may) B.pre
  have hown : s.vm.findClass RX8 = some m.cls := findClass_of_methodNamed B.named
  have hlocks := B.notSynchronized
  have iX8 : ∀ w ∈ wsX80, w ∈ wsX8_may := by decide +kernel
  subst hsz
  have hD := hD0.self (sz := s.heap.size)
  generalize hAe : va_A [(mo, .inr (6, [.int th, .int tm, .int (nI sr), .int (nI nc), .ref m4, .ref m5, .ref m6, .ref m7, .ref m8, .ref m9, .ref m10, .ref m11, .ref m12, .int pw, .int rn, .int (nI no), .ref m16, .ref m17, .ref m18, .int (nI bz), .int (nI dg), .int (nI db), .int (nI df), .int (nI sp), .int tg, .int lf, .int mm, .ref m27, .int fo, .ref m29, .ref m30, .ref m31])), (m7, .inl (y7, 96, .inl f7))] s.heap.size = A at hD ⊢
  have hA : ∀ q : Nat, s.heap.size ≤ q → A q := fun q h => by rw [← hAe]; exact Or.inr h
  have hS : va_S A s.heap s.heap [] := va_S.rf
  have hP : va_P (dC, dI) vwCl [(mo, .inr (6, [.int th, .int tm, .int (nI sr), .int (nI nc), .ref m4, .ref m5, .ref m6, .ref m7, .ref m8, .ref m9, .ref m10, .ref m11, .ref m12, .int pw, .int rn, .int (nI no), .ref m16, .ref m17, .ref m18, .int (nI bz), .int (nI dg), .int (nI db), .int (nI df), .int (nI sp), .int tg, .int lf, .int mm, .ref m27, .int fo, .ref m29, .ref m30, .ref m31])), (m7, .inl (y7, 96, .inl f7))] s.heap := hP
  have hK : va_K (dC, dI) vwCl [(y7, .int)] s := hK
  have hl := lv_entry ([.ref mo, .int (nI a9), .int (nI b9)]) (n := 5) (Nat.le_of_ble_eq_true rfl)
  rw [lg_entry_eq]
  generalize (lg_sl ([.ref mo, .int (nI a9), .int (nI b9)]) ++ List.replicate (5 - (lg_sl ([.ref mo, .int (nI a9), .int (nI b9)])).length) Slot.unset).toArray = ls at hl ⊢
  have hl : lv_has ls 5 [(0, .ref mo), (1, .int (nI a9)), (2, .int (nI b9))] := hl
  refine lv_aload_n hx hb dX8_may_0 rfl (lv_at hl 0 rfl) ?_
  refine va_get (D := (dC, dI)) (ci := 6) (v := .ref m7) (C := RX8) (T := TX8) (N := 32) hx hb hts iX8 hown hK hP 0 rfl rfl 7 (by decide) (hts (.fieldLink RX8 19 "ParkTowerModel" "cell" "[I") (by decide +kernel)) (fun _ h9 => h9) rfl dX8_may_1 ?_
  refine lv_iload_n hx hb dX8_may_4 rfl (lv_at hl 1 rfl) ?_
  refine va_iald hx hb hK hP 1 0 rfl rfl (vp_in_nI (n := a9) (by omega) (by decide)) dX8_may_5 ?_
  refine lv_topi (fun a_1 ea_1 => ?_)
  rw [nI_clamp (n := a9) (by omega)] at ea_1
  refine lv_if_le (tgt := 26) hx hb dX8_may_6 (by decide) (fun c_2 => ?_) (fun c_2 => ?_)
  · have c_2 : (a_1 ≤ 0) := c_2
    refine lv_iconst (v := 0) hx hb dX8_may_26 (by decide) ?_
    have hP9 := hP.sub (ws' := [(mo, .inr (6, [.int th, .int tm, .int (nI sr), .int (nI nc), .ref m4, .ref m5, .ref m6, .ref m7, .ref m8, .ref m9, .ref m10, .ref m11, .ref m12, .int pw, .int rn, .int (nI no), .ref m16, .ref m17, .ref m18, .int (nI bz), .int (nI dg), .int (nI db), .int (nI df), .int (nI sp), .int tg, .int lf, .int mm, .ref m27, .int fo, .ref m29, .ref m30, .ref m31])), (m7, .inl (y7, 96, .inl f7))]) [0, 1] rfl
    have hD9 := hD.sub (ws' := [(mo, .inr (6, [.int th, .int tm, .int (nI sr), .int (nI nc), .ref m4, .ref m5, .ref m6, .ref m7, .ref m8, .ref m9, .ref m10, .ref m11, .ref m12, .int pw, .int rn, .int (nI no), .ref m16, .ref m17, .ref m18, .int (nI bz), .int (nI dg), .int (nI db), .int (nI df), .int (nI sp), .int tg, .int lf, .int mm, .ref m27, .int fo, .ref m29, .ref m30, .ref m31])), (m7, .inl (y7, 96, .inl f7))]) [0, 1] (by decide) rfl
    have hK9 := hK.sub (tys' := []) [] rfl
    refine W.widen (k := 0) (n := 0) (by omega) (by omega) ?_
    exact W.zret (v := 0) (ty := .boolean) hx hb hr rfl (fun t ht hW => ⟨⟨0, (fun q_ => ([] : List Int32).getD q_ 0, fun q_ => ([] : List Nat).getD q_ 0, fun q_ => ([] : List (Nat → Int32)).getD q_ (fun _ => 0)), rfl, Or.inl rfl, by rw [ht]; exact hP9, va_K.moved hW.alike hK9, hD9⟩, hS.F ht⟩) hS.2.2 dX8_may_27
  · have c_2 : ¬ (a_1 ≤ 0) := c_2
    refine lv_aload_n hx hb dX8_may_9 rfl (lv_at hl 0 rfl) ?_
    refine va_get (D := (dC, dI)) (ci := 6) (v := .ref m7) (C := RX8) (T := TX8) (N := 32) hx hb hts iX8 hown hK hP 0 rfl rfl 7 (by decide) (hts (.fieldLink RX8 19 "ParkTowerModel" "cell" "[I") (by decide +kernel)) (fun _ h9 => h9) rfl dX8_may_10 ?_
    refine lv_iload_n hx hb dX8_may_13 rfl (lv_at hl 2 rfl) ?_
    refine va_iald hx hb hK hP 1 0 rfl rfl (vp_in_nI (n := b9) (by omega) (by decide)) dX8_may_14 ?_
    refine lv_topi (fun a_3 ea_3 => ?_)
    rw [nI_clamp (n := b9) (by omega)] at ea_3
    refine lv_if_ne (tgt := 26) hx hb dX8_may_15 (by decide) (fun c_4 => ?_) (fun c_4 => ?_)
    · have c_4 : ¬ (a_3 = 0) := c_4
      refine lv_iconst (v := 0) hx hb dX8_may_26 (by decide) ?_
      have hP9 := hP.sub (ws' := [(mo, .inr (6, [.int th, .int tm, .int (nI sr), .int (nI nc), .ref m4, .ref m5, .ref m6, .ref m7, .ref m8, .ref m9, .ref m10, .ref m11, .ref m12, .int pw, .int rn, .int (nI no), .ref m16, .ref m17, .ref m18, .int (nI bz), .int (nI dg), .int (nI db), .int (nI df), .int (nI sp), .int tg, .int lf, .int mm, .ref m27, .int fo, .ref m29, .ref m30, .ref m31])), (m7, .inl (y7, 96, .inl f7))]) [0, 1] rfl
      have hD9 := hD.sub (ws' := [(mo, .inr (6, [.int th, .int tm, .int (nI sr), .int (nI nc), .ref m4, .ref m5, .ref m6, .ref m7, .ref m8, .ref m9, .ref m10, .ref m11, .ref m12, .int pw, .int rn, .int (nI no), .ref m16, .ref m17, .ref m18, .int (nI bz), .int (nI dg), .int (nI db), .int (nI df), .int (nI sp), .int tg, .int lf, .int mm, .ref m27, .int fo, .ref m29, .ref m30, .ref m31])), (m7, .inl (y7, 96, .inl f7))]) [0, 1] (by decide) rfl
      have hK9 := hK.sub (tys' := []) [] rfl
      refine W.widen (k := 0) (n := 0) (by omega) (by omega) ?_
      exact W.zret (v := 0) (ty := .boolean) hx hb hr rfl (fun t ht hW => ⟨⟨0, (fun q_ => ([] : List Int32).getD q_ 0, fun q_ => ([] : List Nat).getD q_ 0, fun q_ => ([] : List (Nat → Int32)).getD q_ (fun _ => 0)), rfl, Or.inl rfl, by rw [ht]; exact hP9, va_K.moved hW.alike hK9, hD9⟩, hS.F ht⟩) hS.2.2 dX8_may_27
    · have c_4 : (a_3 = 0) := c_4
      refine lv_aload_n hx hb dX8_may_18 rfl (lv_at hl 0 rfl) ?_
      refine lv_iload_n hx hb dX8_may_19 rfl (lv_at hl 1 rfl) ?_
      refine pt_cSi (va_runV (As := [.int (nI a9)]) (rest := []) ⟨hx, hb, hml, hown, hts⟩ (m_isReached l dC dI mo m4 m5 m6 m7 m8 m9 m10 m11 m12 m16 m17 m18 m27 m29 m30 m31 th tm pw rn tg lf mm fo sr nc no bz dg db df sp y7 f7 a9 (by omega)) (cwV 1 hts gX8_may_X8_isReached rfl rfl rfl (by decide +kernel) ⟨Nat.le_of_ble_eq_true rfl, Nat.le_of_ble_eq_true rfl⟩) ⟨pt_blind, va_recv hK hP (ci := 6) (q0 := 0) rfl rfl, pt_pre (w := [(mo, .inr (6, [.int th, .int tm, .int (nI sr), .int (nI nc), .ref m4, .ref m5, .ref m6, .ref m7, .ref m8, .ref m9, .ref m10, .ref m11, .ref m12, .int pw, .int rn, .int (nI no), .ref m16, .ref m17, .ref m18, .int (nI bz), .int (nI dg), .int (nI db), .int (nI df), .int (nI sp), .int tg, .int lf, .int mm, .ref m27, .int fo, .ref m29, .ref m30, .ref m31])), (m7, .inl (y7, 96, .inl f7))]) (tys := [(y7, .int)]) (hP.sub [0, 1] rfl) (hK.sub [0] rfl) hN⟩ rfl rfl hl.1 rfl (lv_room (Nat.le_of_ble_eq_true rfl)) dX8_may_20 ⟨Nat.le_of_ble_eq_true rfl, Nat.le_of_ble_eq_true rfl⟩) (fun r_5 hr_5 => ?_)
      rcases hr_5 with rfl | rfl
      · skip
        refine lv_if_ne (tgt := 28) hx hb dX8_may_23 (by decide) (fun c => absurd (by decide) c) (fun _ => ?_)
        refine lv_iconst (v := 0) hx hb dX8_may_26 (by decide) ?_
        have hP9 := hP.sub (ws' := [(mo, .inr (6, [.int th, .int tm, .int (nI sr), .int (nI nc), .ref m4, .ref m5, .ref m6, .ref m7, .ref m8, .ref m9, .ref m10, .ref m11, .ref m12, .int pw, .int rn, .int (nI no), .ref m16, .ref m17, .ref m18, .int (nI bz), .int (nI dg), .int (nI db), .int (nI df), .int (nI sp), .int tg, .int lf, .int mm, .ref m27, .int fo, .ref m29, .ref m30, .ref m31])), (m7, .inl (y7, 96, .inl f7))]) [0, 1] rfl
        have hD9 := hD.sub (ws' := [(mo, .inr (6, [.int th, .int tm, .int (nI sr), .int (nI nc), .ref m4, .ref m5, .ref m6, .ref m7, .ref m8, .ref m9, .ref m10, .ref m11, .ref m12, .int pw, .int rn, .int (nI no), .ref m16, .ref m17, .ref m18, .int (nI bz), .int (nI dg), .int (nI db), .int (nI df), .int (nI sp), .int tg, .int lf, .int mm, .ref m27, .int fo, .ref m29, .ref m30, .ref m31])), (m7, .inl (y7, 96, .inl f7))]) [0, 1] (by decide) rfl
        have hK9 := hK.sub (tys' := []) [] rfl
        refine W.widen (k := 0) (n := 0) (by omega) (by omega) ?_
        exact W.zret (v := 0) (ty := .boolean) hx hb hr rfl (fun t ht hW => ⟨⟨0, (fun q_ => ([] : List Int32).getD q_ 0, fun q_ => ([] : List Nat).getD q_ 0, fun q_ => ([] : List (Nat → Int32)).getD q_ (fun _ => 0)), rfl, Or.inl rfl, by rw [ht]; exact hP9, va_K.moved hW.alike hK9, hD9⟩, hS.F ht⟩) hS.2.2 dX8_may_27
      · skip
        refine lv_if_ne (tgt := 28) hx hb dX8_may_23 (by decide) (fun _ => ?_) (fun c => absurd c (by decide))
        refine lv_aload_n hx hb dX8_may_28 rfl (lv_at hl 0 rfl) ?_
        refine va_get (D := (dC, dI)) (ci := 6) (v := .ref m7) (C := RX8) (T := TX8) (N := 32) hx hb hts iX8 hown hK hP 0 rfl rfl 7 (by decide) (hts (.fieldLink RX8 19 "ParkTowerModel" "cell" "[I") (by decide +kernel)) (fun _ h9 => h9) rfl dX8_may_29 ?_
        refine lv_iload_n hx hb dX8_may_32 rfl (lv_at hl 1 rfl) ?_
        refine va_iald hx hb hK hP 1 0 rfl rfl (vp_in_nI (n := a9) (by omega) (by decide)) dX8_may_33 ?_
        refine pt_topi a_1 (by rw [nI_clamp (n := a9) (by omega)]; exact ea_1.symm) ?_
        refine lv_istore_n (lv' := [(3, .int a_1), (0, .ref mo), (1, .int (nI a9)), (2, .int (nI b9))]) hx hb dX8_may_34 rfl hl (by decide) rfl (fun ls hl => ?_)
        refine lv_aload_n hx hb dX8_may_35 rfl (lv_at hl 1 rfl) ?_
        refine va_get (D := (dC, dI)) (ci := 6) (v := .ref m7) (C := RX8) (T := TX8) (N := 32) hx hb hts iX8 hown hK hP 0 rfl rfl 7 (by decide) (hts (.fieldLink RX8 19 "ParkTowerModel" "cell" "[I") (by decide +kernel)) (fun _ h9 => h9) rfl dX8_may_36 ?_
        refine lv_iload_n hx hb dX8_may_39 rfl (lv_at hl 2 rfl) ?_
        refine lv_iconst (v := 0) hx hb dX8_may_40 (by decide) ?_
        refine va_iast hx hb hK hP hD hS 1 0 rfl rfl (vp_in_nI (n := a9) (by omega) (by decide)) dX8_may_41 (fun H locs hP hD hS => ?_)
        rw [nI_clamp (n := a9) (by omega)] at hP hD
        have hP : va_P (dC, dI) vwCl [(mo, .inr (6, [.int th, .int tm, .int (nI sr), .int (nI nc), .ref m4, .ref m5, .ref m6, .ref m7, .ref m8, .ref m9, .ref m10, .ref m11, .ref m12, .int pw, .int rn, .int (nI no), .ref m16, .ref m17, .ref m18, .int (nI bz), .int (nI dg), .int (nI db), .int (nI df), .int (nI sp), .int tg, .int lf, .int mm, .ref m27, .int fo, .ref m29, .ref m30, .ref m31])), (m7, .inl (y7, 96, .inl (upd f7 a9 0)))] H := hP
        have hD : va_D A [(mo, .inr (6, [.int th, .int tm, .int (nI sr), .int (nI nc), .ref m4, .ref m5, .ref m6, .ref m7, .ref m8, .ref m9, .ref m10, .ref m11, .ref m12, .int pw, .int rn, .int (nI no), .ref m16, .ref m17, .ref m18, .int (nI bz), .int (nI dg), .int (nI db), .int (nI df), .int (nI sp), .int tg, .int lf, .int mm, .ref m27, .int fo, .ref m29, .ref m30, .ref m31])), (m7, .inl (y7, 96, .inl (upd f7 a9 0)))] := hD
        refine lv_aload_n hx hb dX8_may_42 rfl (lv_at hl 1 rfl) ?_
        refine lv_iload_n hx hb dX8_may_43 rfl (lv_at hl 3 rfl) ?_
        refine pt_cSi (va_runV (As := [.int (nI b9)]) (rest := []) ⟨hx, hb, hml, hown, hts⟩ (m_isReached l dC dI mo m4 m5 m6 m7 m8 m9 m10 m11 m12 m16 m17 m18 m27 m29 m30 m31 th tm pw rn tg lf mm fo sr nc no bz dg db df sp y7 (upd f7 a9 0) b9 (by omega)) (cwV 1 hts gX8_may_X8_isReached rfl rfl rfl (by decide +kernel) ⟨Nat.le_of_ble_eq_true rfl, Nat.le_of_ble_eq_true rfl⟩) ⟨pt_blind, va_recv hK hP (ci := 6) (q0 := 0) rfl rfl, pt_pre (w := [(mo, .inr (6, [.int th, .int tm, .int (nI sr), .int (nI nc), .ref m4, .ref m5, .ref m6, .ref m7, .ref m8, .ref m9, .ref m10, .ref m11, .ref m12, .int pw, .int rn, .int (nI no), .ref m16, .ref m17, .ref m18, .int (nI bz), .int (nI dg), .int (nI db), .int (nI df), .int (nI sp), .int tg, .int lf, .int mm, .ref m27, .int fo, .ref m29, .ref m30, .ref m31])), (m7, .inl (y7, 96, .inl (upd f7 a9 0)))]) (tys := [(y7, .int)]) (hP.sub [0, 1] rfl) (hK.sub [0] rfl) hN⟩ rfl rfl hl.1 rfl (lv_room (Nat.le_of_ble_eq_true rfl)) dX8_may_44 ⟨Nat.le_of_ble_eq_true rfl, Nat.le_of_ble_eq_true rfl⟩) (fun r_6 hr_6 => ?_)
        rcases hr_6 with rfl | rfl
        · skip
          refine lv_if_eq (tgt := 74) hx hb dX8_may_47 (by decide) (fun _ => ?_) (fun c => absurd (by decide) c)
          refine lv_iconst (v := 0) hx hb dX8_may_74 (by decide) ?_
          refine lv_istore (lv' := [(4, .int 0), (3, .int a_1), (0, .ref mo), (1, .int (nI a9)), (2, .int (nI b9))]) hx hb dX8_may_75 hl (by decide) rfl (fun ls hl => ?_)
          refine lv_aload_n hx hb dX8_may_77 rfl (lv_at hl 2 rfl) ?_
          refine va_get (D := (dC, dI)) (ci := 6) (v := .ref m7) (C := RX8) (T := TX8) (N := 32) hx hb hts iX8 hown hK hP 0 rfl rfl 7 (by decide) (hts (.fieldLink RX8 19 "ParkTowerModel" "cell" "[I") (by decide +kernel)) (fun _ h9 => h9) rfl dX8_may_78 ?_
          refine lv_iload_n hx hb dX8_may_81 rfl (lv_at hl 3 rfl) ?_
          refine lv_iload_n hx hb dX8_may_82 rfl (lv_at hl 1 rfl) ?_
          refine va_iast hx hb hK hP hD hS 1 0 rfl rfl (vp_in_nI (n := a9) (by omega) (by decide)) dX8_may_83 (fun H locs hP hD hS => ?_)
          rw [nI_clamp (n := a9) (by omega)] at hP hD
          have hP : va_P (dC, dI) vwCl [(mo, .inr (6, [.int th, .int tm, .int (nI sr), .int (nI nc), .ref m4, .ref m5, .ref m6, .ref m7, .ref m8, .ref m9, .ref m10, .ref m11, .ref m12, .int pw, .int rn, .int (nI no), .ref m16, .ref m17, .ref m18, .int (nI bz), .int (nI dg), .int (nI db), .int (nI df), .int (nI sp), .int tg, .int lf, .int mm, .ref m27, .int fo, .ref m29, .ref m30, .ref m31])), (m7, .inl (y7, 96, .inl (upd (upd f7 a9 0) a9 a_1)))] H := hP
          have hD : va_D A [(mo, .inr (6, [.int th, .int tm, .int (nI sr), .int (nI nc), .ref m4, .ref m5, .ref m6, .ref m7, .ref m8, .ref m9, .ref m10, .ref m11, .ref m12, .int pw, .int rn, .int (nI no), .ref m16, .ref m17, .ref m18, .int (nI bz), .int (nI dg), .int (nI db), .int (nI df), .int (nI sp), .int tg, .int lf, .int mm, .ref m27, .int fo, .ref m29, .ref m30, .ref m31])), (m7, .inl (y7, 96, .inl (upd (upd f7 a9 0) a9 a_1)))] := hD
          rw [mback (x := 0) ea_1.symm] at hP hD
          have hP : va_P (dC, dI) vwCl [(mo, .inr (6, [.int th, .int tm, .int (nI sr), .int (nI nc), .ref m4, .ref m5, .ref m6, .ref m7, .ref m8, .ref m9, .ref m10, .ref m11, .ref m12, .int pw, .int rn, .int (nI no), .ref m16, .ref m17, .ref m18, .int (nI bz), .int (nI dg), .int (nI db), .int (nI df), .int (nI sp), .int tg, .int lf, .int mm, .ref m27, .int fo, .ref m29, .ref m30, .ref m31])), (m7, .inl (y7, 96, .inl f7))] H := hP
          have hD : va_D A [(mo, .inr (6, [.int th, .int tm, .int (nI sr), .int (nI nc), .ref m4, .ref m5, .ref m6, .ref m7, .ref m8, .ref m9, .ref m10, .ref m11, .ref m12, .int pw, .int rn, .int (nI no), .ref m16, .ref m17, .ref m18, .int (nI bz), .int (nI dg), .int (nI db), .int (nI df), .int (nI sp), .int tg, .int lf, .int mm, .ref m27, .int fo, .ref m29, .ref m30, .ref m31])), (m7, .inl (y7, 96, .inl f7))] := hD
          refine lv_iload hx hb dX8_may_84 (lv_at hl 0 rfl) ?_
          have hP9 := hP.sub (ws' := [(mo, .inr (6, [.int th, .int tm, .int (nI sr), .int (nI nc), .ref m4, .ref m5, .ref m6, .ref m7, .ref m8, .ref m9, .ref m10, .ref m11, .ref m12, .int pw, .int rn, .int (nI no), .ref m16, .ref m17, .ref m18, .int (nI bz), .int (nI dg), .int (nI db), .int (nI df), .int (nI sp), .int tg, .int lf, .int mm, .ref m27, .int fo, .ref m29, .ref m30, .ref m31])), (m7, .inl (y7, 96, .inl f7))]) [0, 1] rfl
          have hD9 := hD.sub (ws' := [(mo, .inr (6, [.int th, .int tm, .int (nI sr), .int (nI nc), .ref m4, .ref m5, .ref m6, .ref m7, .ref m8, .ref m9, .ref m10, .ref m11, .ref m12, .int pw, .int rn, .int (nI no), .ref m16, .ref m17, .ref m18, .int (nI bz), .int (nI dg), .int (nI db), .int (nI df), .int (nI sp), .int tg, .int lf, .int mm, .ref m27, .int fo, .ref m29, .ref m30, .ref m31])), (m7, .inl (y7, 96, .inl f7))]) [0, 1] (by decide) rfl
          have hK9 := hK.sub (tys' := []) [] rfl
          refine W.widen (k := 0) (n := 0) (by omega) (by omega) ?_
          exact W.zret (v := 0) (ty := .boolean) hx hb hr rfl (fun t ht hW => ⟨⟨0, (fun q_ => ([] : List Int32).getD q_ 0, fun q_ => ([] : List Nat).getD q_ 0, fun q_ => ([] : List (Nat → Int32)).getD q_ (fun _ => 0)), rfl, Or.inl rfl, by rw [ht]; exact hP9, va_K.moved hW.alike hK9, hD9⟩, hS.F ht⟩) hS.2.2 dX8_may_86
        · skip
          refine lv_if_eq (tgt := 74) hx hb dX8_may_47 (by decide) (fun c => absurd c (by decide)) (fun _ => ?_)
          refine lv_iload_n hx hb dX8_may_50 rfl (lv_at hl 3 rfl) ?_
          refine pt_cSi (va_runS (As := [.int (nI b9)]) (rest := []) ⟨hx, hb, hml, hown, hts⟩ (m_depth l dC dI b9 (by omega)) (cwS 1 hts gX8_may_X8_depth rfl rfl rfl (by decide +kernel) ⟨Nat.le_of_ble_eq_true rfl, Nat.le_of_ble_eq_true rfl⟩) ⟨pt_blind, pt_pre (w := []) (tys := []) (hP.sub [] rfl) (hK.sub [] rfl) hN⟩ rfl rfl hl.1 rfl (lv_room (Nat.le_of_ble_eq_true rfl)) dX8_may_51 ⟨Nat.le_of_ble_eq_true rfl, Nat.le_of_ble_eq_true rfl⟩) (fun r_7 hr_7 => ?_)
          obtain rfl : r_7 = nI (b9 % 2) := hr_7
          refine lv_iconst (v := 1) hx hb dX8_may_54 (by decide) ?_
          refine lv_icmp_eq (tgt := 70) hx hb dX8_may_55 (by decide) (fun c_8 => ?_) (fun c_8 => ?_)
          · have c_8 : b9 % 2 = 1 := (nI_eq (a := b9 % 2) (b := 1) (by omega) (by omega)).mp c_8
            refine lv_iconst (v := 1) hx hb dX8_may_70 (by decide) ?_
            refine lv_goto (tgt := 75) hx hb dX8_may_71 (by decide) ?_
            refine lv_istore (lv' := [(4, .int 1), (3, .int a_1), (0, .ref mo), (1, .int (nI a9)), (2, .int (nI b9))]) hx hb dX8_may_75 hl (by decide) rfl (fun ls hl => ?_)
            refine lv_aload_n hx hb dX8_may_77 rfl (lv_at hl 2 rfl) ?_
            refine va_get (D := (dC, dI)) (ci := 6) (v := .ref m7) (C := RX8) (T := TX8) (N := 32) hx hb hts iX8 hown hK hP 0 rfl rfl 7 (by decide) (hts (.fieldLink RX8 19 "ParkTowerModel" "cell" "[I") (by decide +kernel)) (fun _ h9 => h9) rfl dX8_may_78 ?_
            refine lv_iload_n hx hb dX8_may_81 rfl (lv_at hl 3 rfl) ?_
            refine lv_iload_n hx hb dX8_may_82 rfl (lv_at hl 1 rfl) ?_
            refine va_iast hx hb hK hP hD hS 1 0 rfl rfl (vp_in_nI (n := a9) (by omega) (by decide)) dX8_may_83 (fun H locs hP hD hS => ?_)
            rw [nI_clamp (n := a9) (by omega)] at hP hD
            have hP : va_P (dC, dI) vwCl [(mo, .inr (6, [.int th, .int tm, .int (nI sr), .int (nI nc), .ref m4, .ref m5, .ref m6, .ref m7, .ref m8, .ref m9, .ref m10, .ref m11, .ref m12, .int pw, .int rn, .int (nI no), .ref m16, .ref m17, .ref m18, .int (nI bz), .int (nI dg), .int (nI db), .int (nI df), .int (nI sp), .int tg, .int lf, .int mm, .ref m27, .int fo, .ref m29, .ref m30, .ref m31])), (m7, .inl (y7, 96, .inl (upd (upd f7 a9 0) a9 a_1)))] H := hP
            have hD : va_D A [(mo, .inr (6, [.int th, .int tm, .int (nI sr), .int (nI nc), .ref m4, .ref m5, .ref m6, .ref m7, .ref m8, .ref m9, .ref m10, .ref m11, .ref m12, .int pw, .int rn, .int (nI no), .ref m16, .ref m17, .ref m18, .int (nI bz), .int (nI dg), .int (nI db), .int (nI df), .int (nI sp), .int tg, .int lf, .int mm, .ref m27, .int fo, .ref m29, .ref m30, .ref m31])), (m7, .inl (y7, 96, .inl (upd (upd f7 a9 0) a9 a_1)))] := hD
            rw [mback (x := 0) ea_1.symm] at hP hD
            have hP : va_P (dC, dI) vwCl [(mo, .inr (6, [.int th, .int tm, .int (nI sr), .int (nI nc), .ref m4, .ref m5, .ref m6, .ref m7, .ref m8, .ref m9, .ref m10, .ref m11, .ref m12, .int pw, .int rn, .int (nI no), .ref m16, .ref m17, .ref m18, .int (nI bz), .int (nI dg), .int (nI db), .int (nI df), .int (nI sp), .int tg, .int lf, .int mm, .ref m27, .int fo, .ref m29, .ref m30, .ref m31])), (m7, .inl (y7, 96, .inl f7))] H := hP
            have hD : va_D A [(mo, .inr (6, [.int th, .int tm, .int (nI sr), .int (nI nc), .ref m4, .ref m5, .ref m6, .ref m7, .ref m8, .ref m9, .ref m10, .ref m11, .ref m12, .int pw, .int rn, .int (nI no), .ref m16, .ref m17, .ref m18, .int (nI bz), .int (nI dg), .int (nI db), .int (nI df), .int (nI sp), .int tg, .int lf, .int mm, .ref m27, .int fo, .ref m29, .ref m30, .ref m31])), (m7, .inl (y7, 96, .inl f7))] := hD
            refine lv_iload hx hb dX8_may_84 (lv_at hl 0 rfl) ?_
            have hP9 := hP.sub (ws' := [(mo, .inr (6, [.int th, .int tm, .int (nI sr), .int (nI nc), .ref m4, .ref m5, .ref m6, .ref m7, .ref m8, .ref m9, .ref m10, .ref m11, .ref m12, .int pw, .int rn, .int (nI no), .ref m16, .ref m17, .ref m18, .int (nI bz), .int (nI dg), .int (nI db), .int (nI df), .int (nI sp), .int tg, .int lf, .int mm, .ref m27, .int fo, .ref m29, .ref m30, .ref m31])), (m7, .inl (y7, 96, .inl f7))]) [0, 1] rfl
            have hD9 := hD.sub (ws' := [(mo, .inr (6, [.int th, .int tm, .int (nI sr), .int (nI nc), .ref m4, .ref m5, .ref m6, .ref m7, .ref m8, .ref m9, .ref m10, .ref m11, .ref m12, .int pw, .int rn, .int (nI no), .ref m16, .ref m17, .ref m18, .int (nI bz), .int (nI dg), .int (nI db), .int (nI df), .int (nI sp), .int tg, .int lf, .int mm, .ref m27, .int fo, .ref m29, .ref m30, .ref m31])), (m7, .inl (y7, 96, .inl f7))]) [0, 1] (by decide) rfl
            have hK9 := hK.sub (tys' := []) [] rfl
            refine W.widen (k := 0) (n := 0) (by omega) (by omega) ?_
            exact W.zret (v := 1) (ty := .boolean) hx hb hr rfl (fun t ht hW => ⟨⟨1, (fun q_ => ([] : List Int32).getD q_ 0, fun q_ => ([] : List Nat).getD q_ 0, fun q_ => ([] : List (Nat → Int32)).getD q_ (fun _ => 0)), rfl, Or.inr ⟨rfl, fun q9 => absurd (ea_1.symm ▸ q9) (by assumption), ea_3.symm.trans (by assumption)⟩, by rw [ht]; exact hP9, va_K.moved hW.alike hK9, hD9⟩, hS.F ht⟩) hS.2.2 dX8_may_86
          · have c_8 : ¬ (b9 % 2 = 1) := fun q_ => c_8 ((nI_eq (a := b9 % 2) (b := 1) (by omega) (by omega)).mpr q_)
            refine lv_aload_n hx hb dX8_may_58 rfl (lv_at hl 1 rfl) ?_
            refine va_get (D := (dC, dI)) (ci := 6) (v := .ref m7) (C := RX8) (T := TX8) (N := 32) hx hb hts iX8 hown hK hP 0 rfl rfl 7 (by decide) (hts (.fieldLink RX8 19 "ParkTowerModel" "cell" "[I") (by decide +kernel)) (fun _ h9 => h9) rfl dX8_may_59 ?_
            refine lv_iload_n hx hb dX8_may_62 rfl (lv_at hl 3 rfl) ?_
            refine lv_iconst (v := 1) hx hb dX8_may_63 (by decide) ?_
            refine lv_iadd hx hb dX8_may_64 ?_
            refine pt_topi (nI (b9 + 1)) (nI_add b9 1) ?_
            refine va_iald hx hb hK hP 1 0 rfl rfl (vp_in_nI (n := b9 + 1) (by omega) (by decide)) dX8_may_65 ?_
            refine lv_topi (fun a_9 ea_9 => ?_)
            rw [nI_clamp (n := b9 + 1) (by omega)] at ea_9
            refine lv_iconst (v := (-1)) hx hb dX8_may_66 (by decide) ?_
            refine lv_icmp_eq (tgt := 74) hx hb dX8_may_67 (by decide) (fun c_10 => ?_) (fun c_10 => ?_)
            · have c_10 : (a_9 = (-1)) := c_10
              refine lv_iconst (v := 0) hx hb dX8_may_74 (by decide) ?_
              refine lv_istore (lv' := [(4, .int 0), (3, .int a_1), (0, .ref mo), (1, .int (nI a9)), (2, .int (nI b9))]) hx hb dX8_may_75 hl (by decide) rfl (fun ls hl => ?_)
              refine lv_aload_n hx hb dX8_may_77 rfl (lv_at hl 2 rfl) ?_
              refine va_get (D := (dC, dI)) (ci := 6) (v := .ref m7) (C := RX8) (T := TX8) (N := 32) hx hb hts iX8 hown hK hP 0 rfl rfl 7 (by decide) (hts (.fieldLink RX8 19 "ParkTowerModel" "cell" "[I") (by decide +kernel)) (fun _ h9 => h9) rfl dX8_may_78 ?_
              refine lv_iload_n hx hb dX8_may_81 rfl (lv_at hl 3 rfl) ?_
              refine lv_iload_n hx hb dX8_may_82 rfl (lv_at hl 1 rfl) ?_
              refine va_iast hx hb hK hP hD hS 1 0 rfl rfl (vp_in_nI (n := a9) (by omega) (by decide)) dX8_may_83 (fun H locs hP hD hS => ?_)
              rw [nI_clamp (n := a9) (by omega)] at hP hD
              have hP : va_P (dC, dI) vwCl [(mo, .inr (6, [.int th, .int tm, .int (nI sr), .int (nI nc), .ref m4, .ref m5, .ref m6, .ref m7, .ref m8, .ref m9, .ref m10, .ref m11, .ref m12, .int pw, .int rn, .int (nI no), .ref m16, .ref m17, .ref m18, .int (nI bz), .int (nI dg), .int (nI db), .int (nI df), .int (nI sp), .int tg, .int lf, .int mm, .ref m27, .int fo, .ref m29, .ref m30, .ref m31])), (m7, .inl (y7, 96, .inl (upd (upd f7 a9 0) a9 a_1)))] H := hP
              have hD : va_D A [(mo, .inr (6, [.int th, .int tm, .int (nI sr), .int (nI nc), .ref m4, .ref m5, .ref m6, .ref m7, .ref m8, .ref m9, .ref m10, .ref m11, .ref m12, .int pw, .int rn, .int (nI no), .ref m16, .ref m17, .ref m18, .int (nI bz), .int (nI dg), .int (nI db), .int (nI df), .int (nI sp), .int tg, .int lf, .int mm, .ref m27, .int fo, .ref m29, .ref m30, .ref m31])), (m7, .inl (y7, 96, .inl (upd (upd f7 a9 0) a9 a_1)))] := hD
              rw [mback (x := 0) ea_1.symm] at hP hD
              have hP : va_P (dC, dI) vwCl [(mo, .inr (6, [.int th, .int tm, .int (nI sr), .int (nI nc), .ref m4, .ref m5, .ref m6, .ref m7, .ref m8, .ref m9, .ref m10, .ref m11, .ref m12, .int pw, .int rn, .int (nI no), .ref m16, .ref m17, .ref m18, .int (nI bz), .int (nI dg), .int (nI db), .int (nI df), .int (nI sp), .int tg, .int lf, .int mm, .ref m27, .int fo, .ref m29, .ref m30, .ref m31])), (m7, .inl (y7, 96, .inl f7))] H := hP
              have hD : va_D A [(mo, .inr (6, [.int th, .int tm, .int (nI sr), .int (nI nc), .ref m4, .ref m5, .ref m6, .ref m7, .ref m8, .ref m9, .ref m10, .ref m11, .ref m12, .int pw, .int rn, .int (nI no), .ref m16, .ref m17, .ref m18, .int (nI bz), .int (nI dg), .int (nI db), .int (nI df), .int (nI sp), .int tg, .int lf, .int mm, .ref m27, .int fo, .ref m29, .ref m30, .ref m31])), (m7, .inl (y7, 96, .inl f7))] := hD
              refine lv_iload hx hb dX8_may_84 (lv_at hl 0 rfl) ?_
              have hP9 := hP.sub (ws' := [(mo, .inr (6, [.int th, .int tm, .int (nI sr), .int (nI nc), .ref m4, .ref m5, .ref m6, .ref m7, .ref m8, .ref m9, .ref m10, .ref m11, .ref m12, .int pw, .int rn, .int (nI no), .ref m16, .ref m17, .ref m18, .int (nI bz), .int (nI dg), .int (nI db), .int (nI df), .int (nI sp), .int tg, .int lf, .int mm, .ref m27, .int fo, .ref m29, .ref m30, .ref m31])), (m7, .inl (y7, 96, .inl f7))]) [0, 1] rfl
              have hD9 := hD.sub (ws' := [(mo, .inr (6, [.int th, .int tm, .int (nI sr), .int (nI nc), .ref m4, .ref m5, .ref m6, .ref m7, .ref m8, .ref m9, .ref m10, .ref m11, .ref m12, .int pw, .int rn, .int (nI no), .ref m16, .ref m17, .ref m18, .int (nI bz), .int (nI dg), .int (nI db), .int (nI df), .int (nI sp), .int tg, .int lf, .int mm, .ref m27, .int fo, .ref m29, .ref m30, .ref m31])), (m7, .inl (y7, 96, .inl f7))]) [0, 1] (by decide) rfl
              have hK9 := hK.sub (tys' := []) [] rfl
              refine W.widen (k := 0) (n := 0) (by omega) (by omega) ?_
              exact W.zret (v := 0) (ty := .boolean) hx hb hr rfl (fun t ht hW => ⟨⟨0, (fun q_ => ([] : List Int32).getD q_ 0, fun q_ => ([] : List Nat).getD q_ 0, fun q_ => ([] : List (Nat → Int32)).getD q_ (fun _ => 0)), rfl, Or.inl rfl, by rw [ht]; exact hP9, va_K.moved hW.alike hK9, hD9⟩, hS.F ht⟩) hS.2.2 dX8_may_86
            · have c_10 : ¬ (a_9 = (-1)) := c_10
              refine lv_iconst (v := 1) hx hb dX8_may_70 (by decide) ?_
              refine lv_goto (tgt := 75) hx hb dX8_may_71 (by decide) ?_
              refine lv_istore (lv' := [(4, .int 1), (3, .int a_1), (0, .ref mo), (1, .int (nI a9)), (2, .int (nI b9))]) hx hb dX8_may_75 hl (by decide) rfl (fun ls hl => ?_)
              refine lv_aload_n hx hb dX8_may_77 rfl (lv_at hl 2 rfl) ?_
              refine va_get (D := (dC, dI)) (ci := 6) (v := .ref m7) (C := RX8) (T := TX8) (N := 32) hx hb hts iX8 hown hK hP 0 rfl rfl 7 (by decide) (hts (.fieldLink RX8 19 "ParkTowerModel" "cell" "[I") (by decide +kernel)) (fun _ h9 => h9) rfl dX8_may_78 ?_
              refine lv_iload_n hx hb dX8_may_81 rfl (lv_at hl 3 rfl) ?_
              refine lv_iload_n hx hb dX8_may_82 rfl (lv_at hl 1 rfl) ?_
              refine va_iast hx hb hK hP hD hS 1 0 rfl rfl (vp_in_nI (n := a9) (by omega) (by decide)) dX8_may_83 (fun H locs hP hD hS => ?_)
              rw [nI_clamp (n := a9) (by omega)] at hP hD
              have hP : va_P (dC, dI) vwCl [(mo, .inr (6, [.int th, .int tm, .int (nI sr), .int (nI nc), .ref m4, .ref m5, .ref m6, .ref m7, .ref m8, .ref m9, .ref m10, .ref m11, .ref m12, .int pw, .int rn, .int (nI no), .ref m16, .ref m17, .ref m18, .int (nI bz), .int (nI dg), .int (nI db), .int (nI df), .int (nI sp), .int tg, .int lf, .int mm, .ref m27, .int fo, .ref m29, .ref m30, .ref m31])), (m7, .inl (y7, 96, .inl (upd (upd f7 a9 0) a9 a_1)))] H := hP
              have hD : va_D A [(mo, .inr (6, [.int th, .int tm, .int (nI sr), .int (nI nc), .ref m4, .ref m5, .ref m6, .ref m7, .ref m8, .ref m9, .ref m10, .ref m11, .ref m12, .int pw, .int rn, .int (nI no), .ref m16, .ref m17, .ref m18, .int (nI bz), .int (nI dg), .int (nI db), .int (nI df), .int (nI sp), .int tg, .int lf, .int mm, .ref m27, .int fo, .ref m29, .ref m30, .ref m31])), (m7, .inl (y7, 96, .inl (upd (upd f7 a9 0) a9 a_1)))] := hD
              rw [mback (x := 0) ea_1.symm] at hP hD
              have hP : va_P (dC, dI) vwCl [(mo, .inr (6, [.int th, .int tm, .int (nI sr), .int (nI nc), .ref m4, .ref m5, .ref m6, .ref m7, .ref m8, .ref m9, .ref m10, .ref m11, .ref m12, .int pw, .int rn, .int (nI no), .ref m16, .ref m17, .ref m18, .int (nI bz), .int (nI dg), .int (nI db), .int (nI df), .int (nI sp), .int tg, .int lf, .int mm, .ref m27, .int fo, .ref m29, .ref m30, .ref m31])), (m7, .inl (y7, 96, .inl f7))] H := hP
              have hD : va_D A [(mo, .inr (6, [.int th, .int tm, .int (nI sr), .int (nI nc), .ref m4, .ref m5, .ref m6, .ref m7, .ref m8, .ref m9, .ref m10, .ref m11, .ref m12, .int pw, .int rn, .int (nI no), .ref m16, .ref m17, .ref m18, .int (nI bz), .int (nI dg), .int (nI db), .int (nI df), .int (nI sp), .int tg, .int lf, .int mm, .ref m27, .int fo, .ref m29, .ref m30, .ref m31])), (m7, .inl (y7, 96, .inl f7))] := hD
              refine lv_iload hx hb dX8_may_84 (lv_at hl 0 rfl) ?_
              have hP9 := hP.sub (ws' := [(mo, .inr (6, [.int th, .int tm, .int (nI sr), .int (nI nc), .ref m4, .ref m5, .ref m6, .ref m7, .ref m8, .ref m9, .ref m10, .ref m11, .ref m12, .int pw, .int rn, .int (nI no), .ref m16, .ref m17, .ref m18, .int (nI bz), .int (nI dg), .int (nI db), .int (nI df), .int (nI sp), .int tg, .int lf, .int mm, .ref m27, .int fo, .ref m29, .ref m30, .ref m31])), (m7, .inl (y7, 96, .inl f7))]) [0, 1] rfl
              have hD9 := hD.sub (ws' := [(mo, .inr (6, [.int th, .int tm, .int (nI sr), .int (nI nc), .ref m4, .ref m5, .ref m6, .ref m7, .ref m8, .ref m9, .ref m10, .ref m11, .ref m12, .int pw, .int rn, .int (nI no), .ref m16, .ref m17, .ref m18, .int (nI bz), .int (nI dg), .int (nI db), .int (nI df), .int (nI sp), .int tg, .int lf, .int mm, .ref m27, .int fo, .ref m29, .ref m30, .ref m31])), (m7, .inl (y7, 96, .inl f7))]) [0, 1] (by decide) rfl
              have hK9 := hK.sub (tys' := []) [] rfl
              refine W.widen (k := 0) (n := 0) (by omega) (by omega) ?_
              exact W.zret (v := 1) (ty := .boolean) hx hb hr rfl (fun t ht hW => ⟨⟨1, (fun q_ => ([] : List Int32).getD q_ 0, fun q_ => ([] : List Nat).getD q_ 0, fun q_ => ([] : List (Nat → Int32)).getD q_ (fun _ => 0)), rfl, Or.inr ⟨rfl, fun q9 => absurd (ea_1.symm ▸ q9) (by assumption), ea_3.symm.trans (by assumption)⟩, by rw [ht]; exact hP9, va_K.moved hW.alike hK9, hD9⟩, hS.F ht⟩) hS.2.2 dX8_may_86
set_option maxHeartbeats 4000000 in
set_option maxRecDepth 100000 in
theorem m_undo (l : Launch) (dC : Nat → ClassId) (dI : Nat → Nat → Nat) (sz : Nat) (mo m4 m5 m6 m7 m8 m9 m10 m11 m12 m16 m17 m18 m27 m29 m30 m31 : Nat) (th tm pw rn tg lf mm fo : Int32) (sr nc no bz dg db df sp : Nat) (y7 y29 y31 : ClassId) (f7 f29 f31 : Nat → Int32) (k9 a9 b9 : Nat) (hk9 : k9 < 4) (ha9 : a9 < 96) (hb9 : b9 < 96) (hpl : f29 k9 = nI (100 * a9 + b9)) : Met l yX8_undo wsX8_undo ({ frames := 0, cells := 0, slots := 0, locals := 0 }) (va_Pc [.ref mo, .int (nI k9)] (pt_BQ (dC, dI) [(mo, .inr (6, [.int th, .int tm, .int (nI sr), .int (nI nc), .ref m4, .ref m5, .ref m6, .ref m7, .ref m8, .ref m9, .ref m10, .ref m11, .ref m12, .int pw, .int rn, .int (nI no), .ref m16, .ref m17, .ref m18, .int (nI bz), .int (nI dg), .int (nI db), .int (nI df), .int (nI sp), .int tg, .int lf, .int mm, .ref m27, .int fo, .ref m29, .ref m30, .ref m31])), (m7, .inl (y7, 96, .inl f7)), (m29, .inl (y29, 8, .inl f29)), (m31, .inl (y31, 4, .inl f31))] [(y7, .int), (y29, .int), (y31, .boolean)] sz)) (va_Qv (fun (u : (Nat → Int32) × (Nat → Nat) × (Nat → Nat → Int32)) => True) (fun u t => pt_at (dC, dI) (va_A [(mo, .inr (6, [.int th, .int tm, .int (nI sr), .int (nI nc), .ref m4, .ref m5, .ref m6, .ref m7, .ref m8, .ref m9, .ref m10, .ref m11, .ref m12, .int pw, .int rn, .int (nI no), .ref m16, .ref m17, .ref m18, .int (nI bz), .int (nI dg), .int (nI db), .int (nI df), .int (nI sp), .int tg, .int lf, .int mm, .ref m27, .int fo, .ref m29, .ref m30, .ref m31])), (m7, .inl (y7, 96, .inl f7)), (m29, .inl (y29, 8, .inl f29)), (m31, .inl (y31, 4, .inl f31))] sz) [(mo, .inr (6, [.int th, .int tm, .int (nI sr), .int (nI nc), .ref m4, .ref m5, .ref m6, .ref m7, .ref m8, .ref m9, .ref m10, .ref m11, .ref m12, .int pw, .int rn, .int (nI no), .ref m16, .ref m17, .ref m18, .int (nI bz), .int (nI dg), .int (nI db), .int (nI df), .int (nI sp), .int tg, .int lf, .int mm, .ref m27, .int fo, .ref m29, .ref m30, .ref m31])), (m7, .inl (y7, 96, .inl (upd (upd f7 a9 (f7 b9)) b9 0))), (m29, .inl (y29, 8, .inl f29)), (m31, .inl (y31, 4, .inl (upd f31 k9 0)))] [] t) (va_A [(mo, .inr (6, [.int th, .int tm, .int (nI sr), .int (nI nc), .ref m4, .ref m5, .ref m6, .ref m7, .ref m8, .ref m9, .ref m10, .ref m11, .ref m12, .int pw, .int rn, .int (nI no), .ref m16, .ref m17, .ref m18, .int (nI bz), .int (nI dg), .int (nI db), .int (nI df), .int (nI sp), .int tg, .int lf, .int mm, .ref m27, .int fo, .ref m29, .ref m30, .ref m31])), (m7, .inl (y7, 96, .inl f7)), (m29, .inl (y29, 8, .inl f29)), (m31, .inl (y31, 4, .inl f31))] sz)) 0 0 (va_A [(mo, .inr (6, [.int th, .int tm, .int (nI sr), .int (nI nc), .ref m4, .ref m5, .ref m6, .ref m7, .ref m8, .ref m9, .ref m10, .ref m11, .ref m12, .int pw, .int rn, .int (nI no), .ref m16, .ref m17, .ref m18, .int (nI bz), .int (nI dg), .int (nI db), .int (nI df), .int (nI sp), .int tg, .int lf, .int mm, .ref m27, .int fo, .ref m29, .ref m30, .ref m31])), (m7, .inl (y7, 96, .inl f7)), (m29, .inl (y29, 8, .inl f29)), (m31, .inl (y31, 4, .inl f31))] sz) := by
  refine Met.ofW (cc := cX8_undo) (maxL := 4) (ret := none) (by decide) rfl ?_
  intro p e s m args below meth c s₁ B hml hv
  obtain ⟨rfl, hsz, hP, hK, hD0, hN⟩ := hv
  have hx := B.exec
  have hb := B.bytes
  have hr := B.returns
  have hts := atoms_spec (ws := wsX8_undo) B.pre
  have hown : s.vm.findClass RX8 = some m.cls := findClass_of_methodNamed B.named
  have hlocks := B.notSynchronized
  have iX8 : ∀ w ∈ wsX80, w ∈ wsX8_undo := by decide +kernel
  subst hsz
  have hD := hD0.self (sz := s.heap.size)
  generalize hAe : va_A [(mo, .inr (6, [.int th, .int tm, .int (nI sr), .int (nI nc), .ref m4, .ref m5, .ref m6, .ref m7, .ref m8, .ref m9, .ref m10, .ref m11, .ref m12, .int pw, .int rn, .int (nI no), .ref m16, .ref m17, .ref m18, .int (nI bz), .int (nI dg), .int (nI db), .int (nI df), .int (nI sp), .int tg, .int lf, .int mm, .ref m27, .int fo, .ref m29, .ref m30, .ref m31])), (m7, .inl (y7, 96, .inl f7)), (m29, .inl (y29, 8, .inl f29)), (m31, .inl (y31, 4, .inl f31))] s.heap.size = A at hD ⊢
  have hA : ∀ q : Nat, s.heap.size ≤ q → A q := fun q h => by rw [← hAe]; exact Or.inr h
  have hS : va_S A s.heap s.heap [] := va_S.rf
  have hP : va_P (dC, dI) vwCl [(mo, .inr (6, [.int th, .int tm, .int (nI sr), .int (nI nc), .ref m4, .ref m5, .ref m6, .ref m7, .ref m8, .ref m9, .ref m10, .ref m11, .ref m12, .int pw, .int rn, .int (nI no), .ref m16, .ref m17, .ref m18, .int (nI bz), .int (nI dg), .int (nI db), .int (nI df), .int (nI sp), .int tg, .int lf, .int mm, .ref m27, .int fo, .ref m29, .ref m30, .ref m31])), (m7, .inl (y7, 96, .inl f7)), (m29, .inl (y29, 8, .inl f29)), (m31, .inl (y31, 4, .inl f31))] s.heap := hP
  have hK : va_K (dC, dI) vwCl [(y7, .int), (y29, .int), (y31, .boolean)] s := hK
  have hl := lv_entry ([.ref mo, .int (nI k9)]) (n := 4) (Nat.le_of_ble_eq_true rfl)
  rw [lg_entry_eq]
  generalize (lg_sl ([.ref mo, .int (nI k9)]) ++ List.replicate (4 - (lg_sl ([.ref mo, .int (nI k9)])).length) Slot.unset).toArray = ls at hl ⊢
  have hl : lv_has ls 4 [(0, .ref mo), (1, .int (nI k9))] := hl
  refine lv_aload_n hx hb dX8_undo_0 rfl (lv_at hl 0 rfl) ?_
  refine va_get (D := (dC, dI)) (ci := 6) (v := .ref m29) (C := RX8) (T := TX8) (N := 32) hx hb hts iX8 hown hK hP 0 rfl rfl 29 (by decide) (hts (.fieldLink RX8 54 "ParkTowerModel" "plan" "[I") (by decide +kernel)) (fun _ h9 => h9) rfl dX8_undo_1 ?_
  refine lv_iload_n hx hb dX8_undo_4 rfl (lv_at hl 1 rfl) ?_
  refine va_iald hx hb hK hP 2 1 rfl rfl (vp_in_nI (n := k9) (by omega) (by decide)) dX8_undo_5 ?_
  refine lv_topi (fun a_1 ea_1 => ?_)
  rw [nI_clamp (n := k9) (by omega)] at ea_1
  obtain rfl : a_1 = nI (100 * a9 + b9) := ea_1.trans hpl
  refine lv_bipush (v := 100) hx hb dX8_undo_6 (by decide) ?_
  refine lv_idiv hx hb dX8_undo_8 (by decide) ?_
  refine pt_topi (nI ((100 * a9 + b9) / 100)) (pk_div (a := 100 * a9 + b9) (d := 100) (by omega) (by omega) (by omega)) ?_
  refine pt_topi (nI a9) (congrArg nI (by omega)) ?_
  refine lv_istore_n (lv' := [(2, .int (nI a9)), (0, .ref mo), (1, .int (nI k9))]) hx hb dX8_undo_9 rfl hl (by decide) rfl (fun ls hl => ?_)
  refine lv_aload_n hx hb dX8_undo_10 rfl (lv_at hl 1 rfl) ?_
  refine va_get (D := (dC, dI)) (ci := 6) (v := .ref m29) (C := RX8) (T := TX8) (N := 32) hx hb hts iX8 hown hK hP 0 rfl rfl 29 (by decide) (hts (.fieldLink RX8 54 "ParkTowerModel" "plan" "[I") (by decide +kernel)) (fun _ h9 => h9) rfl dX8_undo_11 ?_
  refine lv_iload_n hx hb dX8_undo_14 rfl (lv_at hl 2 rfl) ?_
  refine va_iald hx hb hK hP 2 1 rfl rfl (vp_in_nI (n := k9) (by omega) (by decide)) dX8_undo_15 ?_
  refine pt_topi (nI (100 * a9 + b9)) (by rw [nI_clamp (n := k9) (by omega)]; exact ea_1.symm) ?_
  refine lv_bipush (v := 100) hx hb dX8_undo_16 (by decide) ?_
  refine lv_irem hx hb dX8_undo_18 (by decide) ?_
  refine pt_topi (nI ((100 * a9 + b9) % 100)) (pk_rem (a := 100 * a9 + b9) (d := 100) (by omega) (by omega) (by omega)) ?_
  refine pt_topi (nI b9) (congrArg nI (by omega)) ?_
  refine lv_istore_n (lv' := [(3, .int (nI b9)), (2, .int (nI a9)), (0, .ref mo), (1, .int (nI k9))]) hx hb dX8_undo_19 rfl hl (by decide) rfl (fun ls hl => ?_)
  refine lv_aload_n hx hb dX8_undo_20 rfl (lv_at hl 2 rfl) ?_
  refine va_get (D := (dC, dI)) (ci := 6) (v := .ref m7) (C := RX8) (T := TX8) (N := 32) hx hb hts iX8 hown hK hP 0 rfl rfl 7 (by decide) (hts (.fieldLink RX8 19 "ParkTowerModel" "cell" "[I") (by decide +kernel)) (fun _ h9 => h9) rfl dX8_undo_21 ?_
  refine lv_iload_n hx hb dX8_undo_24 rfl (lv_at hl 1 rfl) ?_
  refine lv_aload_n hx hb dX8_undo_25 rfl (lv_at hl 2 rfl) ?_
  refine va_get (D := (dC, dI)) (ci := 6) (v := .ref m7) (C := RX8) (T := TX8) (N := 32) hx hb hts iX8 hown hK hP 0 rfl rfl 7 (by decide) (hts (.fieldLink RX8 19 "ParkTowerModel" "cell" "[I") (by decide +kernel)) (fun _ h9 => h9) rfl dX8_undo_26 ?_
  refine lv_iload_n hx hb dX8_undo_29 rfl (lv_at hl 0 rfl) ?_
  refine va_iald hx hb hK hP 1 0 rfl rfl (vp_in_nI (n := b9) (by omega) (by decide)) dX8_undo_30 ?_
  refine lv_topi (fun a_2 ea_2 => ?_)
  rw [nI_clamp (n := b9) (by omega)] at ea_2
  refine va_iast hx hb hK hP hD hS 1 0 rfl rfl (vp_in_nI (n := a9) (by omega) (by decide)) dX8_undo_31 (fun H locs hP hD hS => ?_)
  rw [nI_clamp (n := a9) (by omega)] at hP hD
  have hP : va_P (dC, dI) vwCl [(mo, .inr (6, [.int th, .int tm, .int (nI sr), .int (nI nc), .ref m4, .ref m5, .ref m6, .ref m7, .ref m8, .ref m9, .ref m10, .ref m11, .ref m12, .int pw, .int rn, .int (nI no), .ref m16, .ref m17, .ref m18, .int (nI bz), .int (nI dg), .int (nI db), .int (nI df), .int (nI sp), .int tg, .int lf, .int mm, .ref m27, .int fo, .ref m29, .ref m30, .ref m31])), (m7, .inl (y7, 96, .inl (upd f7 a9 a_2))), (m29, .inl (y29, 8, .inl f29)), (m31, .inl (y31, 4, .inl f31))] H := hP
  have hD : va_D A [(mo, .inr (6, [.int th, .int tm, .int (nI sr), .int (nI nc), .ref m4, .ref m5, .ref m6, .ref m7, .ref m8, .ref m9, .ref m10, .ref m11, .ref m12, .int pw, .int rn, .int (nI no), .ref m16, .ref m17, .ref m18, .int (nI bz), .int (nI dg), .int (nI db), .int (nI df), .int (nI sp), .int tg, .int lf, .int mm, .ref m27, .int fo, .ref m29, .ref m30, .ref m31])), (m7, .inl (y7, 96, .inl (upd f7 a9 a_2))), (m29, .inl (y29, 8, .inl f29)), (m31, .inl (y31, 4, .inl f31))] := hD
  refine lv_aload_n hx hb dX8_undo_32 rfl (lv_at hl 2 rfl) ?_
  refine va_get (D := (dC, dI)) (ci := 6) (v := .ref m7) (C := RX8) (T := TX8) (N := 32) hx hb hts iX8 hown hK hP 0 rfl rfl 7 (by decide) (hts (.fieldLink RX8 19 "ParkTowerModel" "cell" "[I") (by decide +kernel)) (fun _ h9 => h9) rfl dX8_undo_33 ?_
  refine lv_iload_n hx hb dX8_undo_36 rfl (lv_at hl 0 rfl) ?_
  refine lv_iconst (v := 0) hx hb dX8_undo_37 (by decide) ?_
  refine va_iast hx hb hK hP hD hS 1 0 rfl rfl (vp_in_nI (n := b9) (by omega) (by decide)) dX8_undo_38 (fun H locs hP hD hS => ?_)
  rw [nI_clamp (n := b9) (by omega)] at hP hD
  have hP : va_P (dC, dI) vwCl [(mo, .inr (6, [.int th, .int tm, .int (nI sr), .int (nI nc), .ref m4, .ref m5, .ref m6, .ref m7, .ref m8, .ref m9, .ref m10, .ref m11, .ref m12, .int pw, .int rn, .int (nI no), .ref m16, .ref m17, .ref m18, .int (nI bz), .int (nI dg), .int (nI db), .int (nI df), .int (nI sp), .int tg, .int lf, .int mm, .ref m27, .int fo, .ref m29, .ref m30, .ref m31])), (m7, .inl (y7, 96, .inl (upd (upd f7 a9 a_2) b9 0))), (m29, .inl (y29, 8, .inl f29)), (m31, .inl (y31, 4, .inl f31))] H := hP
  have hD : va_D A [(mo, .inr (6, [.int th, .int tm, .int (nI sr), .int (nI nc), .ref m4, .ref m5, .ref m6, .ref m7, .ref m8, .ref m9, .ref m10, .ref m11, .ref m12, .int pw, .int rn, .int (nI no), .ref m16, .ref m17, .ref m18, .int (nI bz), .int (nI dg), .int (nI db), .int (nI df), .int (nI sp), .int tg, .int lf, .int mm, .ref m27, .int fo, .ref m29, .ref m30, .ref m31])), (m7, .inl (y7, 96, .inl (upd (upd f7 a9 a_2) b9 0))), (m29, .inl (y29, 8, .inl f29)), (m31, .inl (y31, 4, .inl f31))] := hD
  refine lv_aload_n hx hb dX8_undo_39 rfl (lv_at hl 2 rfl) ?_
  refine va_get (D := (dC, dI)) (ci := 6) (v := .ref m31) (C := RX8) (T := TX8) (N := 32) hx hb hts iX8 hown hK hP 0 rfl rfl 31 (by decide) (hts (.fieldLink RX8 60 "ParkTowerModel" "isDone" "[Z") (by decide +kernel)) (fun _ h9 => h9) rfl dX8_undo_40 ?_
  refine lv_iload_n hx hb dX8_undo_43 rfl (lv_at hl 3 rfl) ?_
  refine lv_iconst (v := 0) hx hb dX8_undo_44 (by decide) ?_
  refine va_zast hx hb hK hP hD hS 3 2 rfl rfl (vp_in_nI (n := k9) (by omega) (by decide)) dX8_undo_45 (fun H locs hP hD hS => ?_)
  rw [nI_clamp (n := k9) (by omega)] at hP hD
  have hP : va_P (dC, dI) vwCl [(mo, .inr (6, [.int th, .int tm, .int (nI sr), .int (nI nc), .ref m4, .ref m5, .ref m6, .ref m7, .ref m8, .ref m9, .ref m10, .ref m11, .ref m12, .int pw, .int rn, .int (nI no), .ref m16, .ref m17, .ref m18, .int (nI bz), .int (nI dg), .int (nI db), .int (nI df), .int (nI sp), .int tg, .int lf, .int mm, .ref m27, .int fo, .ref m29, .ref m30, .ref m31])), (m7, .inl (y7, 96, .inl (upd (upd f7 a9 a_2) b9 0))), (m29, .inl (y29, 8, .inl f29)), (m31, .inl (y31, 4, .inl (upd f31 k9 0)))] H := hP
  have hD : va_D A [(mo, .inr (6, [.int th, .int tm, .int (nI sr), .int (nI nc), .ref m4, .ref m5, .ref m6, .ref m7, .ref m8, .ref m9, .ref m10, .ref m11, .ref m12, .int pw, .int rn, .int (nI no), .ref m16, .ref m17, .ref m18, .int (nI bz), .int (nI dg), .int (nI db), .int (nI df), .int (nI sp), .int tg, .int lf, .int mm, .ref m27, .int fo, .ref m29, .ref m30, .ref m31])), (m7, .inl (y7, 96, .inl (upd (upd f7 a9 a_2) b9 0))), (m29, .inl (y29, 8, .inl f29)), (m31, .inl (y31, 4, .inl (upd f31 k9 0)))] := hD
  subst ea_2
  have hP : va_P (dC, dI) vwCl [(mo, .inr (6, [.int th, .int tm, .int (nI sr), .int (nI nc), .ref m4, .ref m5, .ref m6, .ref m7, .ref m8, .ref m9, .ref m10, .ref m11, .ref m12, .int pw, .int rn, .int (nI no), .ref m16, .ref m17, .ref m18, .int (nI bz), .int (nI dg), .int (nI db), .int (nI df), .int (nI sp), .int tg, .int lf, .int mm, .ref m27, .int fo, .ref m29, .ref m30, .ref m31])), (m7, .inl (y7, 96, .inl (upd (upd f7 a9 (f7 b9)) b9 0))), (m29, .inl (y29, 8, .inl f29)), (m31, .inl (y31, 4, .inl (upd f31 k9 0)))] H := hP
  have hD : va_D A [(mo, .inr (6, [.int th, .int tm, .int (nI sr), .int (nI nc), .ref m4, .ref m5, .ref m6, .ref m7, .ref m8, .ref m9, .ref m10, .ref m11, .ref m12, .int pw, .int rn, .int (nI no), .ref m16, .ref m17, .ref m18, .int (nI bz), .int (nI dg), .int (nI db), .int (nI df), .int (nI sp), .int tg, .int lf, .int mm, .ref m27, .int fo, .ref m29, .ref m30, .ref m31])), (m7, .inl (y7, 96, .inl (upd (upd f7 a9 (f7 b9)) b9 0))), (m29, .inl (y29, 8, .inl f29)), (m31, .inl (y31, 4, .inl (upd f31 k9 0)))] := hD
  have hP9 := hP.sub (ws' := [(mo, .inr (6, [.int th, .int tm, .int (nI sr), .int (nI nc), .ref m4, .ref m5, .ref m6, .ref m7, .ref m8, .ref m9, .ref m10, .ref m11, .ref m12, .int pw, .int rn, .int (nI no), .ref m16, .ref m17, .ref m18, .int (nI bz), .int (nI dg), .int (nI db), .int (nI df), .int (nI sp), .int tg, .int lf, .int mm, .ref m27, .int fo, .ref m29, .ref m30, .ref m31])), (m7, .inl (y7, 96, .inl (upd (upd f7 a9 (f7 b9)) b9 0))), (m29, .inl (y29, 8, .inl f29)), (m31, .inl (y31, 4, .inl (upd f31 k9 0)))]) [0, 1, 2, 3] rfl
  have hD9 := hD.sub (ws' := [(mo, .inr (6, [.int th, .int tm, .int (nI sr), .int (nI nc), .ref m4, .ref m5, .ref m6, .ref m7, .ref m8, .ref m9, .ref m10, .ref m11, .ref m12, .int pw, .int rn, .int (nI no), .ref m16, .ref m17, .ref m18, .int (nI bz), .int (nI dg), .int (nI db), .int (nI df), .int (nI sp), .int tg, .int lf, .int mm, .ref m27, .int fo, .ref m29, .ref m30, .ref m31])), (m7, .inl (y7, 96, .inl (upd (upd f7 a9 (f7 b9)) b9 0))), (m29, .inl (y29, 8, .inl f29)), (m31, .inl (y31, 4, .inl (upd f31 k9 0)))]) [0, 1, 2, 3] (by decide) rfl
  have hK9 := hK.sub (tys' := []) [] rfl
  refine W.widen (k := 0) (n := 0) (by omega) (by omega) ?_
  exact W.vret hx hb hr (fun t ht hW => ⟨⟨(fun q_ => ([] : List Int32).getD q_ 0, fun q_ => ([] : List Nat).getD q_ 0, fun q_ => ([] : List (Nat → Int32)).getD q_ (fun _ => 0)), rfl, trivial, by rw [ht]; exact hP9, va_K.moved hW.alike hK9, hD9⟩, hS.F ht⟩) hS.2.2 dX8_undo_46

def pI : Nat → Int32
  | 0 => (-1)
  | t + 1 => nI t
theorem pI_lt {t : Nat} (h : t ≤ 575) : ¬ 575 ≤ pI t := by
  cases t with
  | zero => exact (by decide : ¬ (575 : Int32) ≤ (-1))
  | succ t => exact nI_ge (a := t) (b := 575) (by omega) (by omega)
theorem pI_s (t : Nat) : pI t + 1 = nI t := by
  cases t with
  | zero => exact (by decide : ((-1) : Int32) + 1 = nI 0)
  | succ t => exact nI_1 t
theorem mC_pos {x : Int32} (h : mC x) (hp : ¬ x ≤ 0) : ∃ v : Nat, x = nI v ∧ 1 ≤ v ∧ v ≤ 700 := by
  rcases h with rfl | ⟨j, hj, rfl⟩
  · exact absurd (by decide) hp
  · refine ⟨j, rfl, ?_, hj⟩
    rcases Nat.eq_zero_or_pos j with rfl | h
    · exact absurd (by decide) hp
    · exact h
section PTM
variable {p : Program} {l : Launch} {e : Env} {R : Room} {s : State} {m : MethodId} {args : Array Value} {below : List Frame} {meth : Method} {c : Code} {cells slots : Nat} {Q : State → Prop} {head : Nat} {rest : List Value}
/-- a loop that ends because a number falls -/
theorem pt_loopM {H : Heap} {locs : List Loc} (I : Nat → Heap → List Loc → Array Slot → Prop) (hs : ∀ n H locs ls, I n H locs ls → (∀ n' H' locs' ls', n' < n → I n' H' locs' ls' → W p l e R s m args below meth c H' locs' cells slots Q (F0 m head ls' rest)) → W p l e R s m args below meth c H locs cells slots Q (F0 m head ls rest)) {n : Nat} {ls : Array Slot} (h0 : I n H locs ls) : W p l e R s m args below meth c H locs cells slots Q (F0 m head ls rest) := by
  have key : ∀ n, ∀ H locs ls, I n H locs ls → W p l e R s m args below meth c H locs cells slots Q (F0 m head ls rest) := by
    intro n
    induction n using Nat.strongRecOn with
    | ind n ih => intro H locs ls h; exact hs n H locs ls h (fun n' H' locs' ls' hn h' => ih n' hn H' locs' ls' h')
  exact key n H locs ls h0
end PTM
def mD (dn : Nat → Int32) (j : Nat) : Prop := ∀ i, dn i = if i < j then 1 else 0
theorem mD.z {dn : Nat → Int32} (h : ∀ i, dn i = 0) : mD dn 0 := fun i => by rw [h i, if_neg (Nat.not_lt_zero i)]
theorem mD.o {dn : Nat → Int32} (h : mD dn 0) (i : Nat) : dn i = 0 := by rw [h i, if_neg (Nat.not_lt_zero i)]
theorem mD.down {dn : Nat → Int32} {j : Nat} (h : mD dn (j + 1)) : mD (upd dn j 0) j := fun i => by
  by_cases q : i = j
  · rw [q, pk_us, if_neg (Nat.lt_irrefl j)]
  · rw [pk_un q, h i]
    by_cases q2 : i < j
    · rw [if_pos q2, if_pos (by omega)]
    · rw [if_neg q2, if_neg (by omega)]
theorem mD.up {dn : Nat → Int32} {j : Nat} (h : mD dn j) : mD (upd dn j 1) (j + 1) := fun i => by
  by_cases q : i = j
  · rw [q, pk_us, if_pos (Nat.lt_succ_self j)]
  · rw [pk_un q, h i]
    by_cases q2 : i < j
    · rw [if_pos q2, if_pos (by omega)]
    · rw [if_neg q2, if_neg (by omega)]
theorem mD.yes {dn : Nat → Int32} {j i : Nat} (h : mD dn j) (hi : i < j) : dn i = 1 := by rw [h i, if_pos hi]
theorem mD.no {dn : Nat → Int32} {j i : Nat} (h : mD dn j) (hi : ¬ i < j) : dn i = 0 := by rw [h i, if_neg hi]
theorem mC_moved {f : Nat → Int32} {a b v : Nat} (h : ∀ i, mC (f i)) (hv : v ≤ 700) (i : Nat) : mC (upd (upd f b (nI v)) a 0 i) := s_upd (fun i => s_upd h (Or.inr ⟨v, hv, rfl⟩) i) (Or.inr ⟨0, by omega, rfl⟩) i
/-- the last move done, undone -/
theorem mundo' {h f : Nat → Int32} {a b v : Nat} (hab : a ≠ b) (ha : h a = nI v) (hb : h b = 0) (e : f = upd (upd h b (nI v)) a 0) : upd (upd f a (f b)) b 0 = h := by
  have e2 : f b = nI v := by rw [e, pk_un (Ne.symm hab), pk_us]
  rw [e2, e]
  exact mundo hab ha hb

set_option maxHeartbeats 4000000 in
set_option maxRecDepth 100000 in
theorem m_turns (l : Launch) (dC : Nat → ClassId) (dI : Nat → Nat → Nat) (sz : Nat) (mo m4 m5 m6 m7 m8 m9 m10 m11 m12 m16 m17 m18 m27 m29 m30 m31 : Nat) (th tm pw rn tg lf mm fo : Int32) (sr nc no bz dg db df sp : Nat) (y7 y29 y30 y31 : ClassId) (f7 f29 f30 f31 : Nat → Int32) (tg9 k9 t0 : Nat) (htg : tg9 < 96) (hk9 : k9 < 4) (ht0 : t0 ≤ 576) (h30k : f30 k9 = pI t0) (hf : ∀ i, mC (f7 i)) : Met l yX8_turns wsX8_turns ({ frames := 3, cells := 0, slots := 0, locals := 65 }) (va_Pc [.ref mo, .int (nI tg9), .int (nI k9)] (pt_BQ (dC, dI) [(mo, .inr (6, [.int th, .int tm, .int (nI sr), .int (nI nc), .ref m4, .ref m5, .ref m6, .ref m7, .ref m8, .ref m9, .ref m10, .ref m11, .ref m12, .int pw, .int rn, .int (nI no), .ref m16, .ref m17, .ref m18, .int (nI bz), .int (nI dg), .int (nI db), .int (nI df), .int (nI sp), .int tg, .int lf, .int mm, .ref m27, .int fo, .ref m29, .ref m30, .ref m31])), (m7, .inl (y7, 96, .inl f7)), (m29, .inl (y29, 8, .inl f29)), (m30, .inl (y30, 4, .inl f30)), (m31, .inl (y31, 4, .inl f31))] [(y7, .int), (y29, .int), (y30, .int), (y31, .boolean)] sz)) (va_Qi (fun (r : Int32) (u : (Nat → Int32) × (Nat → Nat) × (Nat → Nat → Int32)) => (r = 0 ∧ (u.2.2 0) = f7 ∧ (u.2.2 1) = f29 ∧ (u.2.2 3) = f31 ∧ (u.2.2 2) k9 = pI 576 ∧ (∀ i, i ≠ k9 → (u.2.2 2) i = f30 i)) ∨ (r = 1 ∧ ∃ a b v t : Nat, t0 < t ∧ t ≤ 576 ∧ (u.2.2 2) k9 = pI t ∧ (∀ i, i ≠ k9 → (u.2.2 2) i = f30 i) ∧ a < 96 ∧ b < 96 ∧ a / 24 = tg9 / 24 ∧ b / 24 = tg9 / 24 ∧ a ≠ b ∧ f7 a = nI v ∧ 1 ≤ v ∧ v ≤ 700 ∧ f7 b = 0 ∧ (u.2.2 0) = upd (upd f7 b (nI v)) a 0 ∧ (u.2.2 1) = upd f29 k9 (nI (100 * a + b)) ∧ (u.2.2 3) = upd f31 k9 1)) (fun u t => pt_at (dC, dI) (va_A [(mo, .inr (6, [.int th, .int tm, .int (nI sr), .int (nI nc), .ref m4, .ref m5, .ref m6, .ref m7, .ref m8, .ref m9, .ref m10, .ref m11, .ref m12, .int pw, .int rn, .int (nI no), .ref m16, .ref m17, .ref m18, .int (nI bz), .int (nI dg), .int (nI db), .int (nI df), .int (nI sp), .int tg, .int lf, .int mm, .ref m27, .int fo, .ref m29, .ref m30, .ref m31])), (m7, .inl (y7, 96, .inl f7)), (m29, .inl (y29, 8, .inl f29)), (m30, .inl (y30, 4, .inl f30)), (m31, .inl (y31, 4, .inl f31))] sz) [(mo, .inr (6, [.int th, .int tm, .int (nI sr), .int (nI nc), .ref m4, .ref m5, .ref m6, .ref m7, .ref m8, .ref m9, .ref m10, .ref m11, .ref m12, .int pw, .int rn, .int (nI no), .ref m16, .ref m17, .ref m18, .int (nI bz), .int (nI dg), .int (nI db), .int (nI df), .int (nI sp), .int tg, .int lf, .int mm, .ref m27, .int fo, .ref m29, .ref m30, .ref m31])), (m7, .inl (y7, 96, .inl (u.2.2 0))), (m29, .inl (y29, 8, .inl (u.2.2 1))), (m30, .inl (y30, 4, .inl (u.2.2 2))), (m31, .inl (y31, 4, .inl (u.2.2 3)))] [] t) (va_A [(mo, .inr (6, [.int th, .int tm, .int (nI sr), .int (nI nc), .ref m4, .ref m5, .ref m6, .ref m7, .ref m8, .ref m9, .ref m10, .ref m11, .ref m12, .int pw, .int rn, .int (nI no), .ref m16, .ref m17, .ref m18, .int (nI bz), .int (nI dg), .int (nI db), .int (nI df), .int (nI sp), .int tg, .int lf, .int mm, .ref m27, .int fo, .ref m29, .ref m30, .ref m31])), (m7, .inl (y7, 96, .inl f7)), (m29, .inl (y29, 8, .inl f29)), (m30, .inl (y30, 4, .inl f30)), (m31, .inl (y31, 4, .inl f31))] sz)) 0 0 (va_A [(mo, .inr (6, [.int th, .int tm, .int (nI sr), .int (nI nc), .ref m4, .ref m5, .ref m6, .ref m7, .ref m8, .ref m9, .ref m10, .ref m11, .ref m12, .int pw, .int rn, .int (nI no), .ref m16, .ref m17, .ref m18, .int (nI bz), .int (nI dg), .int (nI db), .int (nI df), .int (nI sp), .int tg, .int lf, .int mm, .ref m27, .int fo, .ref m29, .ref m30, .ref m31])), (m7, .inl (y7, 96, .inl f7)), (m29, .inl (y29, 8, .inl f29)), (m30, .inl (y30, 4, .inl f30)), (m31, .inl (y31, 4, .inl f31))] sz) := by
  refine Met.ofW (cc := cX8_turns) (maxL := 6) (ret := (some .boolean)) (by decide) rfl ?_
  intro p e s m args below meth c s₁ B hml hv
  obtain ⟨rfl, hsz, hP, hK, hD0, hN⟩ := hv
  have hx := B.exec
  have hb := B.bytes
  have hr := B.returns
  have hts := atoms_spec (ws := wsX8_turns) B.pre
  have hown : s.vm.findClass RX8 = some m.cls := findClass_of_methodNamed B.named
  have hlocks := B.notSynchronized
  have iX8 : ∀ w ∈ wsX80, w ∈ wsX8_turns := by decide +kernel
  subst hsz
  have hD := hD0.self (sz := s.heap.size)
  generalize hAe : va_A [(mo, .inr (6, [.int th, .int tm, .int (nI sr), .int (nI nc), .ref m4, .ref m5, .ref m6, .ref m7, .ref m8, .ref m9, .ref m10, .ref m11, .ref m12, .int pw, .int rn, .int (nI no), .ref m16, .ref m17, .ref m18, .int (nI bz), .int (nI dg), .int (nI db), .int (nI df), .int (nI sp), .int tg, .int lf, .int mm, .ref m27, .int fo, .ref m29, .ref m30, .ref m31])), (m7, .inl (y7, 96, .inl f7)), (m29, .inl (y29, 8, .inl f29)), (m30, .inl (y30, 4, .inl f30)), (m31, .inl (y31, 4, .inl f31))] s.heap.size = A at hD ⊢
  have hA : ∀ q : Nat, s.heap.size ≤ q → A q := fun q h => by rw [← hAe]; exact Or.inr h
  have hS : va_S A s.heap s.heap [] := va_S.rf
  have hP : va_P (dC, dI) vwCl [(mo, .inr (6, [.int th, .int tm, .int (nI sr), .int (nI nc), .ref m4, .ref m5, .ref m6, .ref m7, .ref m8, .ref m9, .ref m10, .ref m11, .ref m12, .int pw, .int rn, .int (nI no), .ref m16, .ref m17, .ref m18, .int (nI bz), .int (nI dg), .int (nI db), .int (nI df), .int (nI sp), .int tg, .int lf, .int mm, .ref m27, .int fo, .ref m29, .ref m30, .ref m31])), (m7, .inl (y7, 96, .inl f7)), (m29, .inl (y29, 8, .inl f29)), (m30, .inl (y30, 4, .inl f30)), (m31, .inl (y31, 4, .inl f31))] s.heap := hP
  have hK : va_K (dC, dI) vwCl [(y7, .int), (y29, .int), (y30, .int), (y31, .boolean)] s := hK
  have hl := lv_entry ([.ref mo, .int (nI tg9), .int (nI k9)]) (n := 6) (Nat.le_of_ble_eq_true rfl)
  rw [lg_entry_eq]
  generalize (lg_sl ([.ref mo, .int (nI tg9), .int (nI k9)]) ++ List.replicate (6 - (lg_sl ([.ref mo, .int (nI tg9), .int (nI k9)])).length) Slot.unset).toArray = ls at hl ⊢
  have hl : lv_has ls 6 [(0, .ref mo), (1, .int (nI tg9)), (2, .int (nI k9))] := hl
  refine lv_bipush (v := 24) hx hb dX8_turns_0 (by decide) ?_
  refine lv_iload_n hx hb dX8_turns_2 rfl (lv_at hl 1 rfl) ?_
  refine pt_cSi (va_runS (As := [.int (nI tg9)]) (rest := [.int 24]) ⟨hx, hb, hml, hown, hts⟩ (m_level l dC dI tg9 (by omega)) (cwS 1 hts gX8_turns_X8_level rfl rfl rfl (by decide +kernel) ⟨Nat.le_of_ble_eq_true rfl, Nat.le_of_ble_eq_true rfl⟩) ⟨pt_blind, pt_pre (w := []) (tys := []) (hP.sub [] rfl) (hK.sub [] rfl) hN⟩ rfl rfl hl.1 rfl (lv_room (Nat.le_of_ble_eq_true rfl)) dX8_turns_3 ⟨Nat.le_of_ble_eq_true rfl, Nat.le_of_ble_eq_true rfl⟩) (fun r_1 hr_1 => ?_)
  obtain rfl : r_1 = nI (tg9 / 24) := hr_1
  refine lv_imul hx hb dX8_turns_6 ?_
  refine pt_topi (nI (24 * (tg9 / 24))) (pk_mul 24 (tg9 / 24)) ?_
  refine lv_istore_n (lv' := [(3, .int (nI (24 * (tg9 / 24)))), (0, .ref mo), (1, .int (nI tg9)), (2, .int (nI k9))]) hx hb dX8_turns_7 rfl hl (by decide) rfl (fun ls hl => ?_)
  refine pt_loopH (576 - t0) (fun kk H locs ls => ∃ (h30 : Nat → Int32), lv_has ls 6 [(3, .int (nI (24 * (tg9 / 24)))), (0, .ref mo), (1, .int (nI tg9)), (2, .int (nI k9))] ∧ h30 k9 = pI (t0 + kk) ∧ (∀ i, i ≠ k9 → h30 i = f30 i) ∧ va_P (dC, dI) vwCl [(mo, .inr (6, [.int th, .int tm, .int (nI sr), .int (nI nc), .ref m4, .ref m5, .ref m6, .ref m7, .ref m8, .ref m9, .ref m10, .ref m11, .ref m12, .int pw, .int rn, .int (nI no), .ref m16, .ref m17, .ref m18, .int (nI bz), .int (nI dg), .int (nI db), .int (nI df), .int (nI sp), .int tg, .int lf, .int mm, .ref m27, .int fo, .ref m29, .ref m30, .ref m31])), (m7, .inl (y7, 96, .inl f7)), (m29, .inl (y29, 8, .inl f29)), (m30, .inl (y30, 4, .inl h30)), (m31, .inl (y31, 4, .inl f31))] H ∧ va_D A [(mo, .inr (6, [.int th, .int tm, .int (nI sr), .int (nI nc), .ref m4, .ref m5, .ref m6, .ref m7, .ref m8, .ref m9, .ref m10, .ref m11, .ref m12, .int pw, .int rn, .int (nI no), .ref m16, .ref m17, .ref m18, .int (nI bz), .int (nI dg), .int (nI db), .int (nI df), .int (nI sp), .int tg, .int lf, .int mm, .ref m27, .int fo, .ref m29, .ref m30, .ref m31])), (m7, .inl (y7, 96, .inl f7)), (m29, .inl (y29, 8, .inl f29)), (m30, .inl (y30, 4, .inl h30)), (m31, .inl (y31, 4, .inl f31))] ∧ va_S A s.heap H locs) (fun H locs ls hI => ?_) (fun kk H locs ls hk hI ih_8 => ?_) ⟨f30, lv_sub hl [0, 1, 2, 3] rfl, h30k, fun _ _ => rfl, hP.sub [0, 1, 2, 3, 4] rfl, hD.sub [0, 1, 2, 3, 4] (by decide) rfl, hS⟩
  · obtain ⟨h30, hl, g1, g2, hP, hD, hS⟩ := hI
    have hl : lv_has ls 6 [(3, .int (nI (24 * (tg9 / 24)))), (0, .ref mo), (1, .int (nI tg9)), (2, .int (nI k9))] := hl
    have hP : va_P (dC, dI) vwCl [(mo, .inr (6, [.int th, .int tm, .int (nI sr), .int (nI nc), .ref m4, .ref m5, .ref m6, .ref m7, .ref m8, .ref m9, .ref m10, .ref m11, .ref m12, .int pw, .int rn, .int (nI no), .ref m16, .ref m17, .ref m18, .int (nI bz), .int (nI dg), .int (nI db), .int (nI df), .int (nI sp), .int tg, .int lf, .int mm, .ref m27, .int fo, .ref m29, .ref m30, .ref m31])), (m7, .inl (y7, 96, .inl f7)), (m29, .inl (y29, 8, .inl f29)), (m30, .inl (y30, 4, .inl h30)), (m31, .inl (y31, 4, .inl f31))] H := hP
    have hD : va_D A [(mo, .inr (6, [.int th, .int tm, .int (nI sr), .int (nI nc), .ref m4, .ref m5, .ref m6, .ref m7, .ref m8, .ref m9, .ref m10, .ref m11, .ref m12, .int pw, .int rn, .int (nI no), .ref m16, .ref m17, .ref m18, .int (nI bz), .int (nI dg), .int (nI db), .int (nI df), .int (nI sp), .int tg, .int lf, .int mm, .ref m27, .int fo, .ref m29, .ref m30, .ref m31])), (m7, .inl (y7, 96, .inl f7)), (m29, .inl (y29, 8, .inl f29)), (m30, .inl (y30, 4, .inl h30)), (m31, .inl (y31, 4, .inl f31))] := hD
    have g1 : h30 k9 = pI (t0 + (576 - t0)) := g1
    have g2 : (∀ i, i ≠ k9 → h30 i = f30 i) := g2
    refine lv_aload_n hx hb dX8_turns_8 rfl (lv_at hl 1 rfl) ?_
    refine va_get (D := (dC, dI)) (ci := 6) (v := .ref m30) (C := RX8) (T := TX8) (N := 32) hx hb hts iX8 hown hK hP 0 rfl rfl 30 (by decide) (hts (.fieldLink RX8 57 "ParkTowerModel" "pick" "[I") (by decide +kernel)) (fun _ h9 => h9) rfl dX8_turns_9 ?_
    refine lv_iload_n hx hb dX8_turns_12 rfl (lv_at hl 3 rfl) ?_
    refine va_iald hx hb hK hP 3 2 rfl rfl (vp_in_nI (n := k9) (by omega) (by decide)) dX8_turns_13 ?_
    refine lv_topi (fun a_2 ea_2 => ?_)
    rw [nI_clamp (n := k9) (by omega)] at ea_2
    have c_9 : 575 ≤ a_2 := by rw [ea_2, g1, show t0 + (576 - t0) = 576 by omega]; exact (by decide : (575 : Int32) ≤ nI 575)
    refine lv_sipush (v := 575) hx hb dX8_turns_14 (by decide) ?_
    refine lv_icmp_ge (tgt := 121) hx hb dX8_turns_17 (by decide) (fun _ => ?_) (fun c => absurd (by assumption) c)
    refine lv_iconst (v := 0) hx hb dX8_turns_121 (by decide) ?_
    have hP9 := hP.sub (ws' := [(mo, .inr (6, [.int th, .int tm, .int (nI sr), .int (nI nc), .ref m4, .ref m5, .ref m6, .ref m7, .ref m8, .ref m9, .ref m10, .ref m11, .ref m12, .int pw, .int rn, .int (nI no), .ref m16, .ref m17, .ref m18, .int (nI bz), .int (nI dg), .int (nI db), .int (nI df), .int (nI sp), .int tg, .int lf, .int mm, .ref m27, .int fo, .ref m29, .ref m30, .ref m31])), (m7, .inl (y7, 96, .inl f7)), (m29, .inl (y29, 8, .inl f29)), (m30, .inl (y30, 4, .inl h30)), (m31, .inl (y31, 4, .inl f31))]) [0, 1, 2, 3, 4] rfl
    have hD9 := hD.sub (ws' := [(mo, .inr (6, [.int th, .int tm, .int (nI sr), .int (nI nc), .ref m4, .ref m5, .ref m6, .ref m7, .ref m8, .ref m9, .ref m10, .ref m11, .ref m12, .int pw, .int rn, .int (nI no), .ref m16, .ref m17, .ref m18, .int (nI bz), .int (nI dg), .int (nI db), .int (nI df), .int (nI sp), .int tg, .int lf, .int mm, .ref m27, .int fo, .ref m29, .ref m30, .ref m31])), (m7, .inl (y7, 96, .inl f7)), (m29, .inl (y29, 8, .inl f29)), (m30, .inl (y30, 4, .inl h30)), (m31, .inl (y31, 4, .inl f31))]) [0, 1, 2, 3, 4] (by decide) rfl
    have hK9 := hK.sub (tys' := []) [] rfl
    refine W.widen (k := 0) (n := 0) (by omega) (by omega) ?_
    exact W.zret (v := 0) (ty := .boolean) hx hb hr rfl (fun t ht hW => ⟨⟨0, (fun q_ => ([] : List Int32).getD q_ 0, fun q_ => ([] : List Nat).getD q_ 0, fun q_ => ([f7, f29, h30, f31] : List (Nat → Int32)).getD q_ (fun _ => 0)), rfl, Or.inl ⟨rfl, rfl, rfl, rfl, g1.trans (by rw [show t0 + (576 - t0) = 576 by omega]), g2⟩, by rw [ht]; exact hP9, va_K.moved hW.alike hK9, hD9⟩, hS.F ht⟩) hS.2.2 dX8_turns_122
  · obtain ⟨h30, hl, g1, g2, hP, hD, hS⟩ := hI
    have hl : lv_has ls 6 [(3, .int (nI (24 * (tg9 / 24)))), (0, .ref mo), (1, .int (nI tg9)), (2, .int (nI k9))] := hl
    have hP : va_P (dC, dI) vwCl [(mo, .inr (6, [.int th, .int tm, .int (nI sr), .int (nI nc), .ref m4, .ref m5, .ref m6, .ref m7, .ref m8, .ref m9, .ref m10, .ref m11, .ref m12, .int pw, .int rn, .int (nI no), .ref m16, .ref m17, .ref m18, .int (nI bz), .int (nI dg), .int (nI db), .int (nI df), .int (nI sp), .int tg, .int lf, .int mm, .ref m27, .int fo, .ref m29, .ref m30, .ref m31])), (m7, .inl (y7, 96, .inl f7)), (m29, .inl (y29, 8, .inl f29)), (m30, .inl (y30, 4, .inl h30)), (m31, .inl (y31, 4, .inl f31))] H := hP
    have hD : va_D A [(mo, .inr (6, [.int th, .int tm, .int (nI sr), .int (nI nc), .ref m4, .ref m5, .ref m6, .ref m7, .ref m8, .ref m9, .ref m10, .ref m11, .ref m12, .int pw, .int rn, .int (nI no), .ref m16, .ref m17, .ref m18, .int (nI bz), .int (nI dg), .int (nI db), .int (nI df), .int (nI sp), .int tg, .int lf, .int mm, .ref m27, .int fo, .ref m29, .ref m30, .ref m31])), (m7, .inl (y7, 96, .inl f7)), (m29, .inl (y29, 8, .inl f29)), (m30, .inl (y30, 4, .inl h30)), (m31, .inl (y31, 4, .inl f31))] := hD
    have g1 : h30 k9 = pI (t0 + kk) := g1
    have g2 : (∀ i, i ≠ k9 → h30 i = f30 i) := g2
    refine lv_aload_n hx hb dX8_turns_8 rfl (lv_at hl 1 rfl) ?_
    refine va_get (D := (dC, dI)) (ci := 6) (v := .ref m30) (C := RX8) (T := TX8) (N := 32) hx hb hts iX8 hown hK hP 0 rfl rfl 30 (by decide) (hts (.fieldLink RX8 57 "ParkTowerModel" "pick" "[I") (by decide +kernel)) (fun _ h9 => h9) rfl dX8_turns_9 ?_
    refine lv_iload_n hx hb dX8_turns_12 rfl (lv_at hl 3 rfl) ?_
    refine va_iald hx hb hK hP 3 2 rfl rfl (vp_in_nI (n := k9) (by omega) (by decide)) dX8_turns_13 ?_
    refine lv_topi (fun a_3 ea_3 => ?_)
    rw [nI_clamp (n := k9) (by omega)] at ea_3
    have c_9 : ¬ 575 ≤ a_3 := by rw [ea_3, g1]; exact pI_lt (by omega)
    refine lv_sipush (v := 575) hx hb dX8_turns_14 (by decide) ?_
    refine lv_icmp_ge (tgt := 121) hx hb dX8_turns_17 (by decide) (fun c => absurd c (by assumption)) (fun _ => ?_)
    refine lv_aload_n hx hb dX8_turns_20 rfl (lv_at hl 1 rfl) ?_
    refine va_get (D := (dC, dI)) (ci := 6) (v := .ref m30) (C := RX8) (T := TX8) (N := 32) hx hb hts iX8 hown hK hP 0 rfl rfl 30 (by decide) (hts (.fieldLink RX8 57 "ParkTowerModel" "pick" "[I") (by decide +kernel)) (fun _ h9 => h9) rfl dX8_turns_21 ?_
    refine lv_iload_n hx hb dX8_turns_24 rfl (lv_at hl 3 rfl) ?_
    refine lv_dup2_11 hx hb dX8_turns_25 rfl rfl ?_
    refine va_iald hx hb hK hP 3 2 rfl rfl (vp_in_nI (n := k9) (by omega) (by decide)) dX8_turns_26 ?_
    refine pt_topi a_3 (by rw [nI_clamp (n := k9) (by omega)]; exact ea_3.symm) ?_
    refine lv_iconst (v := 1) hx hb dX8_turns_27 (by decide) ?_
    refine lv_iadd hx hb dX8_turns_28 ?_
    refine lv_topi (fun z_4 ez_4 => ?_)
    obtain rfl : z_4 = nI (t0 + kk) := ez_4.trans (by rw [ea_3, g1]; exact pI_s _)
    refine va_iast hx hb hK hP hD hS 3 2 rfl rfl (vp_in_nI (n := k9) (by omega) (by decide)) dX8_turns_29 (fun H locs hP hD hS => ?_)
    rw [nI_clamp (n := k9) (by omega)] at hP hD
    have hP : va_P (dC, dI) vwCl [(mo, .inr (6, [.int th, .int tm, .int (nI sr), .int (nI nc), .ref m4, .ref m5, .ref m6, .ref m7, .ref m8, .ref m9, .ref m10, .ref m11, .ref m12, .int pw, .int rn, .int (nI no), .ref m16, .ref m17, .ref m18, .int (nI bz), .int (nI dg), .int (nI db), .int (nI df), .int (nI sp), .int tg, .int lf, .int mm, .ref m27, .int fo, .ref m29, .ref m30, .ref m31])), (m7, .inl (y7, 96, .inl f7)), (m29, .inl (y29, 8, .inl f29)), (m30, .inl (y30, 4, .inl (upd h30 k9 (nI (t0 + kk))))), (m31, .inl (y31, 4, .inl f31))] H := hP
    have hD : va_D A [(mo, .inr (6, [.int th, .int tm, .int (nI sr), .int (nI nc), .ref m4, .ref m5, .ref m6, .ref m7, .ref m8, .ref m9, .ref m10, .ref m11, .ref m12, .int pw, .int rn, .int (nI no), .ref m16, .ref m17, .ref m18, .int (nI bz), .int (nI dg), .int (nI db), .int (nI df), .int (nI sp), .int tg, .int lf, .int mm, .ref m27, .int fo, .ref m29, .ref m30, .ref m31])), (m7, .inl (y7, 96, .inl f7)), (m29, .inl (y29, 8, .inl f29)), (m30, .inl (y30, 4, .inl (upd h30 k9 (nI (t0 + kk))))), (m31, .inl (y31, 4, .inl f31))] := hD
    refine lv_iload_n hx hb dX8_turns_30 rfl (lv_at hl 0 rfl) ?_
    refine lv_aload_n hx hb dX8_turns_31 rfl (lv_at hl 1 rfl) ?_
    refine va_get (D := (dC, dI)) (ci := 6) (v := .ref m30) (C := RX8) (T := TX8) (N := 32) hx hb hts iX8 hown hK hP 0 rfl rfl 30 (by decide) (hts (.fieldLink RX8 57 "ParkTowerModel" "pick" "[I") (by decide +kernel)) (fun _ h9 => h9) rfl dX8_turns_32 ?_
    refine lv_iload_n hx hb dX8_turns_35 rfl (lv_at hl 3 rfl) ?_
    refine va_iald hx hb hK hP 3 2 rfl rfl (vp_in_nI (n := k9) (by omega) (by decide)) dX8_turns_36 ?_
    refine pt_topi (nI (t0 + kk)) (by rw [nI_clamp (n := k9) (by omega)]; exact pk_us) ?_
    refine lv_bipush (v := 24) hx hb dX8_turns_37 (by decide) ?_
    refine lv_idiv hx hb dX8_turns_39 (by decide) ?_
    refine pt_topi (nI ((t0 + kk) / 24)) (pk_div (a := t0 + kk) (d := 24) (by omega) (by omega) (by omega)) ?_
    refine lv_iadd hx hb dX8_turns_40 ?_
    refine pt_topi (nI (24 * (tg9 / 24) + ((t0 + kk) / 24))) (nI_add (24 * (tg9 / 24)) ((t0 + kk) / 24)) ?_
    obtain ⟨a9, ha9⟩ : ∃ x : Nat, x = 24 * (tg9 / 24) + (t0 + kk) / 24 := ⟨_, rfl⟩
    refine pt_topi (nI a9) (congrArg nI (by omega)) ?_
    refine lv_istore (lv' := [(4, .int (nI a9)), (3, .int (nI (24 * (tg9 / 24)))), (0, .ref mo), (1, .int (nI tg9)), (2, .int (nI k9))]) hx hb dX8_turns_41 hl (by decide) rfl (fun ls hl => ?_)
    refine lv_iload_n hx hb dX8_turns_43 rfl (lv_at hl 1 rfl) ?_
    refine lv_aload_n hx hb dX8_turns_44 rfl (lv_at hl 2 rfl) ?_
    refine va_get (D := (dC, dI)) (ci := 6) (v := .ref m30) (C := RX8) (T := TX8) (N := 32) hx hb hts iX8 hown hK hP 0 rfl rfl 30 (by decide) (hts (.fieldLink RX8 57 "ParkTowerModel" "pick" "[I") (by decide +kernel)) (fun _ h9 => h9) rfl dX8_turns_45 ?_
    refine lv_iload_n hx hb dX8_turns_48 rfl (lv_at hl 4 rfl) ?_
    refine va_iald hx hb hK hP 3 2 rfl rfl (vp_in_nI (n := k9) (by omega) (by decide)) dX8_turns_49 ?_
    refine pt_topi (nI (t0 + kk)) (by rw [nI_clamp (n := k9) (by omega)]; exact pk_us) ?_
    refine lv_bipush (v := 24) hx hb dX8_turns_50 (by decide) ?_
    refine lv_irem hx hb dX8_turns_52 (by decide) ?_
    refine pt_topi (nI ((t0 + kk) % 24)) (pk_rem (a := t0 + kk) (d := 24) (by omega) (by omega) (by omega)) ?_
    refine lv_iadd hx hb dX8_turns_53 ?_
    refine pt_topi (nI (24 * (tg9 / 24) + ((t0 + kk) % 24))) (nI_add (24 * (tg9 / 24)) ((t0 + kk) % 24)) ?_
    obtain ⟨b9, hb9⟩ : ∃ x : Nat, x = 24 * (tg9 / 24) + (t0 + kk) % 24 := ⟨_, rfl⟩
    refine pt_topi (nI b9) (congrArg nI (by omega)) ?_
    refine lv_istore (lv' := [(5, .int (nI b9)), (4, .int (nI a9)), (3, .int (nI (24 * (tg9 / 24)))), (0, .ref mo), (1, .int (nI tg9)), (2, .int (nI k9))]) hx hb dX8_turns_54 hl (by decide) rfl (fun ls hl => ?_)
    refine lv_iload hx hb dX8_turns_56 (lv_at hl 1 rfl) ?_
    refine lv_iload_n hx hb dX8_turns_58 rfl (lv_at hl 4 rfl) ?_
    refine lv_icmp_eq (tgt := 8) hx hb dX8_turns_59 (by decide) (fun c_5 => ?_) (fun c_5 => ?_)
    · have c_5 : a9 = tg9 := (nI_eq (a := a9) (b := tg9) (by omega) (by omega)).mp c_5
      exact ih_8 H locs ls ⟨upd h30 k9 (nI (t0 + kk)), lv_sub hl [2, 3, 4, 5] rfl, pk_us, fun i hi => (pk_un hi).trans (g2 i hi), hP.sub [0, 1, 2, 3, 4] rfl, hD.sub [0, 1, 2, 3, 4] (by decide) rfl, hS⟩
    · have c_5 : ¬ (a9 = tg9) := fun q_ => c_5 ((nI_eq (a := a9) (b := tg9) (by omega) (by omega)).mpr q_)
      refine lv_aload_n hx hb dX8_turns_62 rfl (lv_at hl 3 rfl) ?_
      refine lv_iload hx hb dX8_turns_63 (lv_at hl 1 rfl) ?_
      refine lv_iload hx hb dX8_turns_65 (lv_at hl 0 rfl) ?_
      have hPc := hP.sub (ws' := [(mo, .inr (6, [.int th, .int tm, .int (nI sr), .int (nI nc), .ref m4, .ref m5, .ref m6, .ref m7, .ref m8, .ref m9, .ref m10, .ref m11, .ref m12, .int pw, .int rn, .int (nI no), .ref m16, .ref m17, .ref m18, .int (nI bz), .int (nI dg), .int (nI db), .int (nI df), .int (nI sp), .int tg, .int lf, .int mm, .ref m27, .int fo, .ref m29, .ref m30, .ref m31])), (m7, .inl (y7, 96, .inl f7))]) [0, 1] rfl
      have hDc := hD.sub (ws' := [(mo, .inr (6, [.int th, .int tm, .int (nI sr), .int (nI nc), .ref m4, .ref m5, .ref m6, .ref m7, .ref m8, .ref m9, .ref m10, .ref m11, .ref m12, .int pw, .int rn, .int (nI no), .ref m16, .ref m17, .ref m18, .int (nI bz), .int (nI dg), .int (nI db), .int (nI df), .int (nI sp), .int tg, .int lf, .int mm, .ref m27, .int fo, .ref m29, .ref m30, .ref m31])), (m7, .inl (y7, 96, .inl f7))]) [0, 1] (by decide) rfl
      have hKc := hK.sub (tys' := [(y7, .int)]) [0] rfl
      have hFc := va_free (wc := [(mo, .inr (6, [.int th, .int tm, .int (nI sr), .int (nI nc), .ref m4, .ref m5, .ref m6, .ref m7, .ref m8, .ref m9, .ref m10, .ref m11, .ref m12, .int pw, .int rn, .int (nI no), .ref m16, .ref m17, .ref m18, .int (nI bz), .int (nI dg), .int (nI db), .int (nI df), .int (nI sp), .int tg, .int lf, .int mm, .ref m27, .int fo, .ref m29, .ref m30, .ref m31])), (m7, .inl (y7, 96, .inl f7))]) hD hS hA [0, 1] rfl
      refine va_calli (va_runV (As := [.int (nI a9), .int (nI b9)]) (rest := []) ⟨hx, hb, hml, hown, hts⟩ (m_may l dC dI _ mo m4 m5 m6 m7 m8 m9 m10 m11 m12 m16 m17 m18 m27 m29 m30 m31 th tm pw rn tg lf mm fo sr nc no bz dg db df sp y7 f7 a9 b9 (by omega) (by omega)) (cwV 2 hts gX8_turns_X8_may rfl rfl rfl (by decide +kernel) ⟨Nat.le_of_ble_eq_true rfl, Nat.le_of_ble_eq_true rfl⟩) ⟨pt_blindQ, va_recv hK hP (ci := 6) (q0 := 0) rfl rfl, pt_preQ hPc hKc hDc hN⟩ rfl rfl hl.1 rfl (lv_room (Nat.le_of_ble_eq_true rfl)) dX8_turns_67 ⟨Nat.le_of_ble_eq_true rfl, Nat.le_of_ble_eq_true rfl⟩) hS (fun q _ h => hFc q h) hFc (fun r_6 u_6 t H1 locs ht hvm hw_6 hB hz1 hk1 hS => ?_)
      obtain ⟨v_6, n_6, F_6⟩ := u_6
      obtain ⟨hP1, hK1, hD1⟩ := hB
      try dsimp only at hw_6
      rw [ht] at hP1
      have hK1 := va_K.moved hvm.symm hK1
      obtain ⟨hP, hD⟩ := va_join (wr := [(m29, .inl (y29, 8, .inl f29)), (m30, .inl (y30, 4, .inl (upd h30 k9 (nI (t0 + kk))))), (m31, .inl (y31, 4, .inl f31))]) (w1 := [(mo, .inr (6, [.int th, .int tm, .int (nI sr), .int (nI nc), .ref m4, .ref m5, .ref m6, .ref m7, .ref m8, .ref m9, .ref m10, .ref m11, .ref m12, .int pw, .int rn, .int (nI no), .ref m16, .ref m17, .ref m18, .int (nI bz), .int (nI dg), .int (nI db), .int (nI df), .int (nI sp), .int tg, .int lf, .int mm, .ref m27, .int fo, .ref m29, .ref m30, .ref m31])), (m7, .inl (y7, 96, .inl f7))]) hP hD [0, 1] [2, 3, 4] rfl rfl (by decide) (by decide) hk1 hFc hP1 hD1
      have hK := hK.app hK1
      generalize H1 = H at hP hS ⊢
      have hP : va_P (dC, dI) vwCl [(m29, .inl (y29, 8, .inl f29)), (m30, .inl (y30, 4, .inl (upd h30 k9 (nI (t0 + kk))))), (m31, .inl (y31, 4, .inl f31)), (mo, .inr (6, [.int th, .int tm, .int (nI sr), .int (nI nc), .ref m4, .ref m5, .ref m6, .ref m7, .ref m8, .ref m9, .ref m10, .ref m11, .ref m12, .int pw, .int rn, .int (nI no), .ref m16, .ref m17, .ref m18, .int (nI bz), .int (nI dg), .int (nI db), .int (nI df), .int (nI sp), .int tg, .int lf, .int mm, .ref m27, .int fo, .ref m29, .ref m30, .ref m31])), (m7, .inl (y7, 96, .inl f7))] H := hP
      have hD : va_D A [(m29, .inl (y29, 8, .inl f29)), (m30, .inl (y30, 4, .inl (upd h30 k9 (nI (t0 + kk))))), (m31, .inl (y31, 4, .inl f31)), (mo, .inr (6, [.int th, .int tm, .int (nI sr), .int (nI nc), .ref m4, .ref m5, .ref m6, .ref m7, .ref m8, .ref m9, .ref m10, .ref m11, .ref m12, .int pw, .int rn, .int (nI no), .ref m16, .ref m17, .ref m18, .int (nI bz), .int (nI dg), .int (nI db), .int (nI df), .int (nI sp), .int tg, .int lf, .int mm, .ref m27, .int fo, .ref m29, .ref m30, .ref m31])), (m7, .inl (y7, 96, .inl f7))] := hD
      have hK : va_K (dC, dI) vwCl [(y7, .int), (y29, .int), (y30, .int), (y31, .boolean)] s := hK
      rcases hw_6 with rfl | ⟨rfl, hy1, hy2⟩
      · skip
        refine lv_if_ne (tgt := 76) hx hb dX8_turns_70 (by decide) (fun c => absurd (by decide) c) (fun _ => ?_)
        refine lv_goto (tgt := 8) hx hb dX8_turns_73 (by decide) ?_
        exact ih_8 H locs ls ⟨upd h30 k9 (nI (t0 + kk)), lv_sub hl [2, 3, 4, 5] rfl, pk_us, fun i hi => (pk_un hi).trans (g2 i hi), hP.sub [3, 4, 0, 1, 2] rfl, hD.sub [3, 4, 0, 1, 2] (by decide) rfl, hS⟩
      · skip
        obtain ⟨v9, hv1, hv2, hv3⟩ := mC_pos (hf a9) hy1
        refine lv_if_ne (tgt := 76) hx hb dX8_turns_70 (by decide) (fun _ => ?_) (fun c => absurd c (by decide))
        refine lv_aload_n hx hb dX8_turns_76 rfl (lv_at hl 3 rfl) ?_
        refine va_get (D := (dC, dI)) (ci := 6) (v := .ref m29) (C := RX8) (T := TX8) (N := 32) hx hb hts iX8 hown hK hP 3 rfl rfl 29 (by decide) (hts (.fieldLink RX8 54 "ParkTowerModel" "plan" "[I") (by decide +kernel)) (fun _ h9 => h9) rfl dX8_turns_77 ?_
        refine lv_iload_n hx hb dX8_turns_80 rfl (lv_at hl 5 rfl) ?_
        refine lv_bipush (v := 100) hx hb dX8_turns_81 (by decide) ?_
        refine lv_iload hx hb dX8_turns_83 (lv_at hl 1 rfl) ?_
        refine lv_imul hx hb dX8_turns_85 ?_
        refine pt_topi (nI (100 * a9)) (pk_mul 100 a9) ?_
        refine lv_iload hx hb dX8_turns_86 (lv_at hl 0 rfl) ?_
        refine lv_iadd hx hb dX8_turns_88 ?_
        refine pt_topi (nI (100 * a9 + b9)) (nI_add (100 * a9) b9) ?_
        refine va_iast hx hb hK hP hD hS 0 1 rfl rfl (vp_in_nI (n := k9) (by omega) (by decide)) dX8_turns_89 (fun H locs hP hD hS => ?_)
        rw [nI_clamp (n := k9) (by omega)] at hP hD
        have hP : va_P (dC, dI) vwCl [(m29, .inl (y29, 8, .inl (upd f29 k9 (nI (100 * a9 + b9))))), (m30, .inl (y30, 4, .inl (upd h30 k9 (nI (t0 + kk))))), (m31, .inl (y31, 4, .inl f31)), (mo, .inr (6, [.int th, .int tm, .int (nI sr), .int (nI nc), .ref m4, .ref m5, .ref m6, .ref m7, .ref m8, .ref m9, .ref m10, .ref m11, .ref m12, .int pw, .int rn, .int (nI no), .ref m16, .ref m17, .ref m18, .int (nI bz), .int (nI dg), .int (nI db), .int (nI df), .int (nI sp), .int tg, .int lf, .int mm, .ref m27, .int fo, .ref m29, .ref m30, .ref m31])), (m7, .inl (y7, 96, .inl f7))] H := hP
        have hD : va_D A [(m29, .inl (y29, 8, .inl (upd f29 k9 (nI (100 * a9 + b9))))), (m30, .inl (y30, 4, .inl (upd h30 k9 (nI (t0 + kk))))), (m31, .inl (y31, 4, .inl f31)), (mo, .inr (6, [.int th, .int tm, .int (nI sr), .int (nI nc), .ref m4, .ref m5, .ref m6, .ref m7, .ref m8, .ref m9, .ref m10, .ref m11, .ref m12, .int pw, .int rn, .int (nI no), .ref m16, .ref m17, .ref m18, .int (nI bz), .int (nI dg), .int (nI db), .int (nI df), .int (nI sp), .int tg, .int lf, .int mm, .ref m27, .int fo, .ref m29, .ref m30, .ref m31])), (m7, .inl (y7, 96, .inl f7))] := hD
        refine lv_aload_n hx hb dX8_turns_90 rfl (lv_at hl 3 rfl) ?_
        refine va_get (D := (dC, dI)) (ci := 6) (v := .ref m7) (C := RX8) (T := TX8) (N := 32) hx hb hts iX8 hown hK hP 3 rfl rfl 7 (by decide) (hts (.fieldLink RX8 19 "ParkTowerModel" "cell" "[I") (by decide +kernel)) (fun _ h9 => h9) rfl dX8_turns_91 ?_
        refine lv_iload hx hb dX8_turns_94 (lv_at hl 0 rfl) ?_
        refine lv_aload_n hx hb dX8_turns_96 rfl (lv_at hl 3 rfl) ?_
        refine va_get (D := (dC, dI)) (ci := 6) (v := .ref m7) (C := RX8) (T := TX8) (N := 32) hx hb hts iX8 hown hK hP 3 rfl rfl 7 (by decide) (hts (.fieldLink RX8 19 "ParkTowerModel" "cell" "[I") (by decide +kernel)) (fun _ h9 => h9) rfl dX8_turns_97 ?_
        refine lv_iload hx hb dX8_turns_100 (lv_at hl 1 rfl) ?_
        refine va_iald hx hb hK hP 4 0 rfl rfl (vp_in_nI (n := a9) (by omega) (by decide)) dX8_turns_102 ?_
        refine lv_topi (fun a_7 ea_7 => ?_)
        rw [nI_clamp (n := a9) (by omega)] at ea_7
        obtain rfl : a_7 = nI v9 := ea_7.trans hv1
        refine va_iast hx hb hK hP hD hS 4 0 rfl rfl (vp_in_nI (n := b9) (by omega) (by decide)) dX8_turns_103 (fun H locs hP hD hS => ?_)
        rw [nI_clamp (n := b9) (by omega)] at hP hD
        have hP : va_P (dC, dI) vwCl [(m29, .inl (y29, 8, .inl (upd f29 k9 (nI (100 * a9 + b9))))), (m30, .inl (y30, 4, .inl (upd h30 k9 (nI (t0 + kk))))), (m31, .inl (y31, 4, .inl f31)), (mo, .inr (6, [.int th, .int tm, .int (nI sr), .int (nI nc), .ref m4, .ref m5, .ref m6, .ref m7, .ref m8, .ref m9, .ref m10, .ref m11, .ref m12, .int pw, .int rn, .int (nI no), .ref m16, .ref m17, .ref m18, .int (nI bz), .int (nI dg), .int (nI db), .int (nI df), .int (nI sp), .int tg, .int lf, .int mm, .ref m27, .int fo, .ref m29, .ref m30, .ref m31])), (m7, .inl (y7, 96, .inl (upd f7 b9 (nI v9))))] H := hP
        have hD : va_D A [(m29, .inl (y29, 8, .inl (upd f29 k9 (nI (100 * a9 + b9))))), (m30, .inl (y30, 4, .inl (upd h30 k9 (nI (t0 + kk))))), (m31, .inl (y31, 4, .inl f31)), (mo, .inr (6, [.int th, .int tm, .int (nI sr), .int (nI nc), .ref m4, .ref m5, .ref m6, .ref m7, .ref m8, .ref m9, .ref m10, .ref m11, .ref m12, .int pw, .int rn, .int (nI no), .ref m16, .ref m17, .ref m18, .int (nI bz), .int (nI dg), .int (nI db), .int (nI df), .int (nI sp), .int tg, .int lf, .int mm, .ref m27, .int fo, .ref m29, .ref m30, .ref m31])), (m7, .inl (y7, 96, .inl (upd f7 b9 (nI v9))))] := hD
        refine lv_aload_n hx hb dX8_turns_104 rfl (lv_at hl 3 rfl) ?_
        refine va_get (D := (dC, dI)) (ci := 6) (v := .ref m7) (C := RX8) (T := TX8) (N := 32) hx hb hts iX8 hown hK hP 3 rfl rfl 7 (by decide) (hts (.fieldLink RX8 19 "ParkTowerModel" "cell" "[I") (by decide +kernel)) (fun _ h9 => h9) rfl dX8_turns_105 ?_
        refine lv_iload hx hb dX8_turns_108 (lv_at hl 1 rfl) ?_
        refine lv_iconst (v := 0) hx hb dX8_turns_110 (by decide) ?_
        refine va_iast hx hb hK hP hD hS 4 0 rfl rfl (vp_in_nI (n := a9) (by omega) (by decide)) dX8_turns_111 (fun H locs hP hD hS => ?_)
        rw [nI_clamp (n := a9) (by omega)] at hP hD
        have hP : va_P (dC, dI) vwCl [(m29, .inl (y29, 8, .inl (upd f29 k9 (nI (100 * a9 + b9))))), (m30, .inl (y30, 4, .inl (upd h30 k9 (nI (t0 + kk))))), (m31, .inl (y31, 4, .inl f31)), (mo, .inr (6, [.int th, .int tm, .int (nI sr), .int (nI nc), .ref m4, .ref m5, .ref m6, .ref m7, .ref m8, .ref m9, .ref m10, .ref m11, .ref m12, .int pw, .int rn, .int (nI no), .ref m16, .ref m17, .ref m18, .int (nI bz), .int (nI dg), .int (nI db), .int (nI df), .int (nI sp), .int tg, .int lf, .int mm, .ref m27, .int fo, .ref m29, .ref m30, .ref m31])), (m7, .inl (y7, 96, .inl (upd (upd f7 b9 (nI v9)) a9 0)))] H := hP
        have hD : va_D A [(m29, .inl (y29, 8, .inl (upd f29 k9 (nI (100 * a9 + b9))))), (m30, .inl (y30, 4, .inl (upd h30 k9 (nI (t0 + kk))))), (m31, .inl (y31, 4, .inl f31)), (mo, .inr (6, [.int th, .int tm, .int (nI sr), .int (nI nc), .ref m4, .ref m5, .ref m6, .ref m7, .ref m8, .ref m9, .ref m10, .ref m11, .ref m12, .int pw, .int rn, .int (nI no), .ref m16, .ref m17, .ref m18, .int (nI bz), .int (nI dg), .int (nI db), .int (nI df), .int (nI sp), .int tg, .int lf, .int mm, .ref m27, .int fo, .ref m29, .ref m30, .ref m31])), (m7, .inl (y7, 96, .inl (upd (upd f7 b9 (nI v9)) a9 0)))] := hD
        refine lv_aload_n hx hb dX8_turns_112 rfl (lv_at hl 3 rfl) ?_
        refine va_get (D := (dC, dI)) (ci := 6) (v := .ref m31) (C := RX8) (T := TX8) (N := 32) hx hb hts iX8 hown hK hP 3 rfl rfl 31 (by decide) (hts (.fieldLink RX8 60 "ParkTowerModel" "isDone" "[Z") (by decide +kernel)) (fun _ h9 => h9) rfl dX8_turns_113 ?_
        refine lv_iload_n hx hb dX8_turns_116 rfl (lv_at hl 5 rfl) ?_
        refine lv_iconst (v := 1) hx hb dX8_turns_117 (by decide) ?_
        refine va_zast hx hb hK hP hD hS 2 3 rfl rfl (vp_in_nI (n := k9) (by omega) (by decide)) dX8_turns_118 (fun H locs hP hD hS => ?_)
        rw [nI_clamp (n := k9) (by omega)] at hP hD
        have hP : va_P (dC, dI) vwCl [(m29, .inl (y29, 8, .inl (upd f29 k9 (nI (100 * a9 + b9))))), (m30, .inl (y30, 4, .inl (upd h30 k9 (nI (t0 + kk))))), (m31, .inl (y31, 4, .inl (upd f31 k9 1))), (mo, .inr (6, [.int th, .int tm, .int (nI sr), .int (nI nc), .ref m4, .ref m5, .ref m6, .ref m7, .ref m8, .ref m9, .ref m10, .ref m11, .ref m12, .int pw, .int rn, .int (nI no), .ref m16, .ref m17, .ref m18, .int (nI bz), .int (nI dg), .int (nI db), .int (nI df), .int (nI sp), .int tg, .int lf, .int mm, .ref m27, .int fo, .ref m29, .ref m30, .ref m31])), (m7, .inl (y7, 96, .inl (upd (upd f7 b9 (nI v9)) a9 0)))] H := hP
        have hD : va_D A [(m29, .inl (y29, 8, .inl (upd f29 k9 (nI (100 * a9 + b9))))), (m30, .inl (y30, 4, .inl (upd h30 k9 (nI (t0 + kk))))), (m31, .inl (y31, 4, .inl (upd f31 k9 1))), (mo, .inr (6, [.int th, .int tm, .int (nI sr), .int (nI nc), .ref m4, .ref m5, .ref m6, .ref m7, .ref m8, .ref m9, .ref m10, .ref m11, .ref m12, .int pw, .int rn, .int (nI no), .ref m16, .ref m17, .ref m18, .int (nI bz), .int (nI dg), .int (nI db), .int (nI df), .int (nI sp), .int tg, .int lf, .int mm, .ref m27, .int fo, .ref m29, .ref m30, .ref m31])), (m7, .inl (y7, 96, .inl (upd (upd f7 b9 (nI v9)) a9 0)))] := hD
        refine lv_iconst (v := 1) hx hb dX8_turns_119 (by decide) ?_
        have hP9 := hP.sub (ws' := [(mo, .inr (6, [.int th, .int tm, .int (nI sr), .int (nI nc), .ref m4, .ref m5, .ref m6, .ref m7, .ref m8, .ref m9, .ref m10, .ref m11, .ref m12, .int pw, .int rn, .int (nI no), .ref m16, .ref m17, .ref m18, .int (nI bz), .int (nI dg), .int (nI db), .int (nI df), .int (nI sp), .int tg, .int lf, .int mm, .ref m27, .int fo, .ref m29, .ref m30, .ref m31])), (m7, .inl (y7, 96, .inl (upd (upd f7 b9 (nI v9)) a9 0))), (m29, .inl (y29, 8, .inl (upd f29 k9 (nI (100 * a9 + b9))))), (m30, .inl (y30, 4, .inl (upd h30 k9 (nI (t0 + kk))))), (m31, .inl (y31, 4, .inl (upd f31 k9 1)))]) [3, 4, 0, 1, 2] rfl
        have hD9 := hD.sub (ws' := [(mo, .inr (6, [.int th, .int tm, .int (nI sr), .int (nI nc), .ref m4, .ref m5, .ref m6, .ref m7, .ref m8, .ref m9, .ref m10, .ref m11, .ref m12, .int pw, .int rn, .int (nI no), .ref m16, .ref m17, .ref m18, .int (nI bz), .int (nI dg), .int (nI db), .int (nI df), .int (nI sp), .int tg, .int lf, .int mm, .ref m27, .int fo, .ref m29, .ref m30, .ref m31])), (m7, .inl (y7, 96, .inl (upd (upd f7 b9 (nI v9)) a9 0))), (m29, .inl (y29, 8, .inl (upd f29 k9 (nI (100 * a9 + b9))))), (m30, .inl (y30, 4, .inl (upd h30 k9 (nI (t0 + kk))))), (m31, .inl (y31, 4, .inl (upd f31 k9 1)))]) [3, 4, 0, 1, 2] (by decide) rfl
        have hK9 := hK.sub (tys' := []) [] rfl
        refine W.widen (k := 0) (n := 0) (by omega) (by omega) ?_
        exact W.zret (v := 1) (ty := .boolean) hx hb hr rfl (fun t ht hW => ⟨⟨1, (fun q_ => ([] : List Int32).getD q_ 0, fun q_ => ([] : List Nat).getD q_ 0, fun q_ => ([upd (upd f7 b9 (nI v9)) a9 0, upd f29 k9 (nI (100 * a9 + b9)), upd h30 k9 (nI (t0 + kk)), upd f31 k9 1] : List (Nat → Int32)).getD q_ (fun _ => 0)), rfl, Or.inr ⟨rfl, a9, b9, v9, t0 + kk + 1, by omega, by omega, pk_us, fun i hi => (pk_un hi).trans (g2 i hi), by omega, by omega, by omega, by omega, (fun q9 => by subst q9; rw [hy2] at hy1; exact hy1 (by decide)), hv1, hv2, hv3, hy2, rfl, rfl, rfl⟩, by rw [ht]; exact hP9, va_K.moved hW.alike hK9, hD9⟩, hS.F ht⟩) hS.2.2 dX8_turns_120
