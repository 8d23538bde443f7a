set_option maxHeartbeats 4000000 in
set_option maxRecDepth 100000 in
theorem w_arrive (l : Launch) (hlt : l.stackTraces = false) (dC : Nat → ClassId) (dI : Nat → Nat → Nat) (sz : Nat) (x rk hd jm bs b0 b1 od o1 o2 o3 jb pl ap : Nat) (cI cZ cB : ClassId) (ot : Nat) (cL : ClassId) (f : Nat → Int64) (b len h w : Int32) : Met l yL_arrive wsL_arrive ({ frames := 7, cells := 1, slots := 6, locals := 116 }) (va_Pc [.ref x, .int b, .int len, .int h, .int w, .ref ot] (pt_BT (dC, dI) [(x, .inr (5, [.ref rk, .ref bs, .ref od, .ref jb, .ref ap, .int 0, .int 1, .int 0, .int 0, .int 0])), (rk, .inr (4, [.ref hd, .ref jm])), (hd, .inl (cI, 96, .inl (fun _ => 0))), (jm, .inl (cZ, 4, .inl (fun _ => 0))), (bs, .inl (cB, 2, .inr (.inr (.inr (.inr (va_up (va_up (fun _ => none) 0 (some b0)) 1 (some b1))))))), (b0, .inr (0, [.int 2, .int 0, .int 0, .int 0, .int 0, .int (-1)])), (b1, .inr (0, [.int 2, .int 0, .int 0, .int 0, .int 0, .int (-1)])), (od, .inr (2, [.ref o1, .ref o2, .ref o3, .int 0])), (jb, .inr (1, [.ref pl, .int (-1), .int 0, .int 0, .int 0])), (ot, .inl (cL, 1, .inr (.inl f)))] [(cI, .int), (cZ, .boolean), (cB, .object "ParkTower$Bay"), (cL, .long)] sz)) (va_Qi (fun (r : Int32) (g : Nat → Int64) => r = (if (b = 0 ∨ b = 1) ∧ ¬ len < 1 ∧ ¬ h < 1 ∧ 1 ≤ w then 0 else 1) ∧ (r = 0 → g 0 = ((if 520 < len ∨ ¬ (h ≤ 210 ∧ w ≤ 3000) then (-3) else 19) : Int32).toInt64)) (fun g t => pt_at (dC, dI) (va_A [(x, .inr (5, [.ref rk, .ref bs, .ref od, .ref jb, .ref ap, .int 0, .int 1, .int 0, .int 0, .int 0])), (rk, .inr (4, [.ref hd, .ref jm])), (hd, .inl (cI, 96, .inl (fun _ => 0))), (jm, .inl (cZ, 4, .inl (fun _ => 0))), (bs, .inl (cB, 2, .inr (.inr (.inr (.inr (va_up (va_up (fun _ => none) 0 (some b0)) 1 (some b1))))))), (b0, .inr (0, [.int 2, .int 0, .int 0, .int 0, .int 0, .int (-1)])), (b1, .inr (0, [.int 2, .int 0, .int 0, .int 0, .int 0, .int (-1)])), (od, .inr (2, [.ref o1, .ref o2, .ref o3, .int 0])), (jb, .inr (1, [.ref pl, .int (-1), .int 0, .int 0, .int 0])), (ot, .inl (cL, 1, .inr (.inl f)))] sz) [(ot, .inl (cL, 1, .inr (.inl g)))] [] t) (va_A [(x, .inr (5, [.ref rk, .ref bs, .ref od, .ref jb, .ref ap, .int 0, .int 1, .int 0, .int 0, .int 0])), (rk, .inr (4, [.ref hd, .ref jm])), (hd, .inl (cI, 96, .inl (fun _ => 0))), (jm, .inl (cZ, 4, .inl (fun _ => 0))), (bs, .inl (cB, 2, .inr (.inr (.inr (.inr (va_up (va_up (fun _ => none) 0 (some b0)) 1 (some b1))))))), (b0, .inr (0, [.int 2, .int 0, .int 0, .int 0, .int 0, .int (-1)])), (b1, .inr (0, [.int 2, .int 0, .int 0, .int 0, .int 0, .int (-1)])), (od, .inr (2, [.ref o1, .ref o2, .ref o3, .int 0])), (jb, .inr (1, [.ref pl, .int (-1), .int 0, .int 0, .int 0])), (ot, .inl (cL, 1, .inr (.inl f)))] sz)) 1 6 (va_A [(x, .inr (5, [.ref rk, .ref bs, .ref od, .ref jb, .ref ap, .int 0, .int 1, .int 0, .int 0, .int 0])), (rk, .inr (4, [.ref hd, .ref jm])), (hd, .inl (cI, 96, .inl (fun _ => 0))), (jm, .inl (cZ, 4, .inl (fun _ => 0))), (bs, .inl (cB, 2, .inr (.inr (.inr (.inr (va_up (va_up (fun _ => none) 0 (some b0)) 1 (some b1))))))), (b0, .inr (0, [.int 2, .int 0, .int 0, .int 0, .int 0, .int (-1)])), (b1, .inr (0, [.int 2, .int 0, .int 0, .int 0, .int 0, .int (-1)])), (od, .inr (2, [.ref o1, .ref o2, .ref o3, .int 0])), (jb, .inr (1, [.ref pl, .int (-1), .int 0, .int 0, .int 0])), (ot, .inl (cL, 1, .inr (.inl f)))] sz) := by
  refine va_MetW (cc := cL_arrive) (maxL := 7) (ret := some .int) (hh := [(0, 14, 17, 13)]) (by decide) rfl ?_
  intro p e s m args below meth c s₁ B hml hv
  obtain ⟨rfl, hsz, hP, hK, hD0, hN, hE, hZ⟩ := hv
  have hx := B.exec
  have hb := B.bytes
  have hr := B.returns
  have hts := atoms_spec (ws := wsL_arrive) B.pre
  have hown : s.vm.findClass RL = some m.cls := findClass_of_methodNamed B.named
  have hlocks := B.notSynchronized
  have htab := vx_table (x := yL_arrive) B (hts (.codeWith yL_arrive cL_arrive 7 (some .int) [(0, 14, 17, 13)]) List.mem_cons_self)
  subst hsz
  have hD := hD0.self (sz := s.heap.size)
  generalize hAe : va_A [(x, .inr (5, [.ref rk, .ref bs, .ref od, .ref jb, .ref ap, .int 0, .int 1, .int 0, .int 0, .int 0])), (rk, .inr (4, [.ref hd, .ref jm])), (hd, .inl (cI, 96, .inl (fun _ => 0))), (jm, .inl (cZ, 4, .inl (fun _ => 0))), (bs, .inl (cB, 2, .inr (.inr (.inr (.inr (va_up (va_up (fun _ => none) 0 (some b0)) 1 (some b1))))))), (b0, .inr (0, [.int 2, .int 0, .int 0, .int 0, .int 0, .int (-1)])), (b1, .inr (0, [.int 2, .int 0, .int 0, .int 0, .int 0, .int (-1)])), (od, .inr (2, [.ref o1, .ref o2, .ref o3, .int 0])), (jb, .inr (1, [.ref pl, .int (-1), .int 0, .int 0, .int 0])), (ot, .inl (cL, 1, .inr (.inl f)))] s.heap.size = A at hD ⊢
  have hA : ∀ q : Nat, s.heap.size ≤ q → A q := fun q h => by rw [← hAe]; exact Or.inr h
  have hS : va_S A s.heap s.heap [] := va_S.rf
  have hP : va_P (dC, dI) vwCl [(x, .inr (5, [.ref rk, .ref bs, .ref od, .ref jb, .ref ap, .int 0, .int 1, .int 0, .int 0, .int 0])), (rk, .inr (4, [.ref hd, .ref jm])), (hd, .inl (cI, 96, .inl (fun _ => 0))), (jm, .inl (cZ, 4, .inl (fun _ => 0))), (bs, .inl (cB, 2, .inr (.inr (.inr (.inr (va_up (va_up (fun _ => none) 0 (some b0)) 1 (some b1))))))), (b0, .inr (0, [.int 2, .int 0, .int 0, .int 0, .int 0, .int (-1)])), (b1, .inr (0, [.int 2, .int 0, .int 0, .int 0, .int 0, .int (-1)])), (od, .inr (2, [.ref o1, .ref o2, .ref o3, .int 0])), (jb, .inr (1, [.ref pl, .int (-1), .int 0, .int 0, .int 0])), (ot, .inl (cL, 1, .inr (.inl f)))] s.heap := hP
  have hK : va_K (dC, dI) vwCl [(cI, .int), (cZ, .boolean), (cB, .object "ParkTower$Bay"), (cL, .long)] s := hK
  have hl := lv_entry ([.ref x, .int b, .int len, .int h, .int w, .ref ot]) (n := 7) (Nat.le_of_ble_eq_true rfl)
  rw [lg_entry_eq]
  generalize (lg_sl ([.ref x, .int b, .int len, .int h, .int w, .ref ot]) ++ List.replicate (7 - (lg_sl ([.ref x, .int b, .int len, .int h, .int w, .ref ot])).length) Slot.unset).toArray = ls at hl ⊢
  have hl : lv_has ls 7 [(0, .ref x), (1, .int b), (2, .int len), (3, .int h), (4, .int w), (5, .ref ot)] := hl
  by_cases hok : (b = 0 ∨ b = 1) ∧ ¬ len < 1 ∧ ¬ h < 1 ∧ 1 ≤ w
  · obtain ⟨hb0, a1, a2, a3⟩ := hok
    rcases hb0 with rfl | rfl
    · skip
      refine lv_aload hx hb dL_arrive_0 (lv_at hl 5 rfl) ?_
      refine lv_iconst (v := 0) hx hb dL_arrive_2 (by decide) ?_
      refine lv_aload_n hx hb dL_arrive_3 rfl (lv_at hl 0 rfl) ?_
      refine lv_iload_n hx hb dL_arrive_4 rfl (lv_at hl 1 rfl) ?_
      refine lv_iload_n hx hb dL_arrive_5 rfl (lv_at hl 2 rfl) ?_
      refine lv_iload_n hx hb dL_arrive_6 rfl (lv_at hl 3 rfl) ?_
      refine lv_iload hx hb dL_arrive_7 (lv_at hl 4 rfl) ?_
      have hPc := hP.sub (ws' := [(x, .inr (5, [.ref rk, .ref bs, .ref od, .ref jb, .ref ap, .int 0, .int 1, .int 0, .int 0, .int 0])), (rk, .inr (4, [.ref hd, .ref jm])), (hd, .inl (cI, 96, .inl (fun _ => 0))), (jm, .inl (cZ, 4, .inl (fun _ => 0))), (bs, .inl (cB, 2, .inr (.inr (.inr (.inr (va_up (va_up (fun _ => none) 0 (some b0)) 1 (some b1))))))), (b0, .inr (0, [.int 2, .int 0, .int 0, .int 0, .int 0, .int (-1)])), (b1, .inr (0, [.int 2, .int 0, .int 0, .int 0, .int 0, .int (-1)])), (od, .inr (2, [.ref o1, .ref o2, .ref o3, .int 0])), (jb, .inr (1, [.ref pl, .int (-1), .int 0, .int 0, .int 0]))]) [0, 1, 2, 3, 4, 5, 6, 7, 8] rfl
      have hDc := hD.sub (ws' := [(x, .inr (5, [.ref rk, .ref bs, .ref od, .ref jb, .ref ap, .int 0, .int 1, .int 0, .int 0, .int 0])), (rk, .inr (4, [.ref hd, .ref jm])), (hd, .inl (cI, 96, .inl (fun _ => 0))), (jm, .inl (cZ, 4, .inl (fun _ => 0))), (bs, .inl (cB, 2, .inr (.inr (.inr (.inr (va_up (va_up (fun _ => none) 0 (some b0)) 1 (some b1))))))), (b0, .inr (0, [.int 2, .int 0, .int 0, .int 0, .int 0, .int (-1)])), (b1, .inr (0, [.int 2, .int 0, .int 0, .int 0, .int 0, .int (-1)])), (od, .inr (2, [.ref o1, .ref o2, .ref o3, .int 0])), (jb, .inr (1, [.ref pl, .int (-1), .int 0, .int 0, .int 0]))]) [0, 1, 2, 3, 4, 5, 6, 7, 8] (by decide) rfl
      have hKc := hK.sub (tys' := [(cI, .int), (cZ, .boolean), (cB, .object "ParkTower$Bay")]) [0, 1, 2] rfl
      have hFc := va_free (wc := [(x, .inr (5, [.ref rk, .ref bs, .ref od, .ref jb, .ref ap, .int 0, .int 1, .int 0, .int 0, .int 0])), (rk, .inr (4, [.ref hd, .ref jm])), (hd, .inl (cI, 96, .inl (fun _ => 0))), (jm, .inl (cZ, 4, .inl (fun _ => 0))), (bs, .inl (cB, 2, .inr (.inr (.inr (.inr (va_up (va_up (fun _ => none) 0 (some b0)) 1 (some b1))))))), (b0, .inr (0, [.int 2, .int 0, .int 0, .int 0, .int 0, .int (-1)])), (b1, .inr (0, [.int 2, .int 0, .int 0, .int 0, .int 0, .int (-1)])), (od, .inr (2, [.ref o1, .ref o2, .ref o3, .int 0])), (jb, .inr (1, [.ref pl, .int (-1), .int 0, .int 0, .int 0]))]) hD hS hA [0, 1, 2, 3, 4, 5, 6, 7, 8] rfl
      refine va_calli (va_runV (As := [.int 0, .int len, .int h, .int w]) (rest := [.int 0, .ref ot]) ⟨hx, hb, hml, hown, hts⟩ (n_arrive0 l dC dI _ x rk hd jm bs b0 b1 od o1 o2 o3 jb pl ap cI cZ cB len h w a1 a2 a3) (cwV 4 hts gL_arrive_X7_arrive rfl rfl rfl (by decide +kernel) ⟨Nat.le_of_ble_eq_true rfl, Nat.le_of_ble_eq_true rfl⟩) ⟨pt_blindQ, va_recv hK hP (ci := 5) (q0 := 0) rfl rfl, pt_preQ hPc hKc hDc hN⟩ rfl rfl hl.1 rfl (lv_room (Nat.le_of_ble_eq_true rfl)) dL_arrive_9 ⟨Nat.le_of_ble_eq_true rfl, Nat.le_of_ble_eq_true rfl⟩) hS (fun q _ h => hFc q h) hFc (fun r_1 u_1 t H1 locs ht hvm hw_1 hB hz1 hk1 hS => ?_)
      obtain ⟨hP1, hK1, hD1⟩ := hB
      rw [ht] at hP1
      have hK1 := va_K.moved hvm.symm hK1
      obtain ⟨hP, hD⟩ := va_join (wr := [(ot, .inl (cL, 1, .inr (.inl f)))]) (w1 := []) hP hD [0, 1, 2, 3, 4, 5, 6, 7, 8] [9] rfl rfl (by decide) (by decide) hk1 hFc hP1 hD1
      have hK := hK.app hK1
      generalize H1 = H at hP hS ⊢
      have hP : va_P (dC, dI) vwCl [(ot, .inl (cL, 1, .inr (.inl f)))] H := hP
      have hD : va_D A [(ot, .inl (cL, 1, .inr (.inl f)))] := hD
      have hK : va_K (dC, dI) vwCl [(cI, .int), (cZ, .boolean), (cB, .object "ParkTower$Bay"), (cL, .long)] s := hK
      refine lv_i2l (v := r_1.toInt64) hx hb dL_arrive_12 rfl ?_
      refine va_last hx hb hK hP hD hS 0 3 rfl rfl (vp_in_iff.mpr (by decide)) dL_arrive_13 (fun H locs hP hD hS => ?_)
      have hP : va_P (dC, dI) vwCl [(ot, .inl (cL, 1, .inr (.inl (vp_updL f 0 r_1.toInt64))))] H := hP
      have hD : va_D A [(ot, .inl (cL, 1, .inr (.inl (vp_updL f 0 r_1.toInt64))))] := hD
      refine lv_goto (tgt := 21) hx hb dL_arrive_14 (by decide) ?_
      refine lv_iconst (v := 0) hx hb dL_arrive_21 (by decide) ?_
      have hP9 := hP.sub (ws' := [(ot, .inl (cL, 1, .inr (.inl (vp_updL f 0 r_1.toInt64))))]) [0] rfl
      have hD9 := hD.sub (ws' := [(ot, .inl (cL, 1, .inr (.inl (vp_updL f 0 r_1.toInt64))))]) [0] (by decide) rfl
      have hK9 := hK.sub (tys' := []) [] rfl
      refine W.widen (k := 1) (n := 6) (by omega) (by omega) ?_
      exact W.iret (v := 0) hx hb hr (fun t ht hW => ⟨⟨0, (vp_updL f 0 r_1.toInt64), rfl, ⟨(if_pos ⟨by decide, a1, a2, a3⟩).symm, fun _ => congrArg Int32.toInt64 hw_1⟩, by rw [ht]; exact hP9, va_K.moved hW.alike hK9, hD9⟩, hS.F ht⟩) hS.2.2 dL_arrive_22
    · skip
      refine lv_aload hx hb dL_arrive_0 (lv_at hl 5 rfl) ?_
      refine lv_iconst (v := 0) hx hb dL_arrive_2 (by decide) ?_
      refine lv_aload_n hx hb dL_arrive_3 rfl (lv_at hl 0 rfl) ?_
      refine lv_iload_n hx hb dL_arrive_4 rfl (lv_at hl 1 rfl) ?_
      refine lv_iload_n hx hb dL_arrive_5 rfl (lv_at hl 2 rfl) ?_
      refine lv_iload_n hx hb dL_arrive_6 rfl (lv_at hl 3 rfl) ?_
      refine lv_iload hx hb dL_arrive_7 (lv_at hl 4 rfl) ?_
      have hPc := hP.sub (ws' := [(x, .inr (5, [.ref rk, .ref bs, .ref od, .ref jb, .ref ap, .int 0, .int 1, .int 0, .int 0, .int 0])), (rk, .inr (4, [.ref hd, .ref jm])), (hd, .inl (cI, 96, .inl (fun _ => 0))), (jm, .inl (cZ, 4, .inl (fun _ => 0))), (bs, .inl (cB, 2, .inr (.inr (.inr (.inr (va_up (va_up (fun _ => none) 0 (some b0)) 1 (some b1))))))), (b0, .inr (0, [.int 2, .int 0, .int 0, .int 0, .int 0, .int (-1)])), (b1, .inr (0, [.int 2, .int 0, .int 0, .int 0, .int 0, .int (-1)])), (od, .inr (2, [.ref o1, .ref o2, .ref o3, .int 0])), (jb, .inr (1, [.ref pl, .int (-1), .int 0, .int 0, .int 0]))]) [0, 1, 2, 3, 4, 5, 6, 7, 8] rfl
      have hDc := hD.sub (ws' := [(x, .inr (5, [.ref rk, .ref bs, .ref od, .ref jb, .ref ap, .int 0, .int 1, .int 0, .int 0, .int 0])), (rk, .inr (4, [.ref hd, .ref jm])), (hd, .inl (cI, 96, .inl (fun _ => 0))), (jm, .inl (cZ, 4, .inl (fun _ => 0))), (bs, .inl (cB, 2, .inr (.inr (.inr (.inr (va_up (va_up (fun _ => none) 0 (some b0)) 1 (some b1))))))), (b0, .inr (0, [.int 2, .int 0, .int 0, .int 0, .int 0, .int (-1)])), (b1, .inr (0, [.int 2, .int 0, .int 0, .int 0, .int 0, .int (-1)])), (od, .inr (2, [.ref o1, .ref o2, .ref o3, .int 0])), (jb, .inr (1, [.ref pl, .int (-1), .int 0, .int 0, .int 0]))]) [0, 1, 2, 3, 4, 5, 6, 7, 8] (by decide) rfl
      have hKc := hK.sub (tys' := [(cI, .int), (cZ, .boolean), (cB, .object "ParkTower$Bay")]) [0, 1, 2] rfl
      have hFc := va_free (wc := [(x, .inr (5, [.ref rk, .ref bs, .ref od, .ref jb, .ref ap, .int 0, .int 1, .int 0, .int 0, .int 0])), (rk, .inr (4, [.ref hd, .ref jm])), (hd, .inl (cI, 96, .inl (fun _ => 0))), (jm, .inl (cZ, 4, .inl (fun _ => 0))), (bs, .inl (cB, 2, .inr (.inr (.inr (.inr (va_up (va_up (fun _ => none) 0 (some b0)) 1 (some b1))))))), (b0, .inr (0, [.int 2, .int 0, .int 0, .int 0, .int 0, .int (-1)])), (b1, .inr (0, [.int 2, .int 0, .int 0, .int 0, .int 0, .int (-1)])), (od, .inr (2, [.ref o1, .ref o2, .ref o3, .int 0])), (jb, .inr (1, [.ref pl, .int (-1), .int 0, .int 0, .int 0]))]) hD hS hA [0, 1, 2, 3, 4, 5, 6, 7, 8] rfl
      refine va_calli (va_runV (As := [.int 1, .int len, .int h, .int w]) (rest := [.int 0, .ref ot]) ⟨hx, hb, hml, hown, hts⟩ (n_arrive1 l dC dI _ x rk hd jm bs b0 b1 od o1 o2 o3 jb pl ap cI cZ cB len h w a1 a2 a3) (cwV 4 hts gL_arrive_X7_arrive rfl rfl rfl (by decide +kernel) ⟨Nat.le_of_ble_eq_true rfl, Nat.le_of_ble_eq_true rfl⟩) ⟨pt_blindQ, va_recv hK hP (ci := 5) (q0 := 0) rfl rfl, pt_preQ hPc hKc hDc hN⟩ rfl rfl hl.1 rfl (lv_room (Nat.le_of_ble_eq_true rfl)) dL_arrive_9 ⟨Nat.le_of_ble_eq_true rfl, Nat.le_of_ble_eq_true rfl⟩) hS (fun q _ h => hFc q h) hFc (fun r_2 u_2 t H1 locs ht hvm hw_2 hB hz1 hk1 hS => ?_)
      obtain ⟨hP1, hK1, hD1⟩ := hB
      rw [ht] at hP1
      have hK1 := va_K.moved hvm.symm hK1
      obtain ⟨hP, hD⟩ := va_join (wr := [(ot, .inl (cL, 1, .inr (.inl f)))]) (w1 := []) hP hD [0, 1, 2, 3, 4, 5, 6, 7, 8] [9] rfl rfl (by decide) (by decide) hk1 hFc hP1 hD1
      have hK := hK.app hK1
      generalize H1 = H at hP hS ⊢
      have hP : va_P (dC, dI) vwCl [(ot, .inl (cL, 1, .inr (.inl f)))] H := hP
      have hD : va_D A [(ot, .inl (cL, 1, .inr (.inl f)))] := hD
      have hK : va_K (dC, dI) vwCl [(cI, .int), (cZ, .boolean), (cB, .object "ParkTower$Bay"), (cL, .long)] s := hK
      refine lv_i2l (v := r_2.toInt64) hx hb dL_arrive_12 rfl ?_
      refine va_last hx hb hK hP hD hS 0 3 rfl rfl (vp_in_iff.mpr (by decide)) dL_arrive_13 (fun H locs hP hD hS => ?_)
      have hP : va_P (dC, dI) vwCl [(ot, .inl (cL, 1, .inr (.inl (vp_updL f 0 r_2.toInt64))))] H := hP
      have hD : va_D A [(ot, .inl (cL, 1, .inr (.inl (vp_updL f 0 r_2.toInt64))))] := hD
      refine lv_goto (tgt := 21) hx hb dL_arrive_14 (by decide) ?_
      refine lv_iconst (v := 0) hx hb dL_arrive_21 (by decide) ?_
      have hP9 := hP.sub (ws' := [(ot, .inl (cL, 1, .inr (.inl (vp_updL f 0 r_2.toInt64))))]) [0] rfl
      have hD9 := hD.sub (ws' := [(ot, .inl (cL, 1, .inr (.inl (vp_updL f 0 r_2.toInt64))))]) [0] (by decide) rfl
      have hK9 := hK.sub (tys' := []) [] rfl
      refine W.widen (k := 1) (n := 6) (by omega) (by omega) ?_
      exact W.iret (v := 0) hx hb hr (fun t ht hW => ⟨⟨0, (vp_updL f 0 r_2.toInt64), rfl, ⟨(if_pos ⟨by decide, a1, a2, a3⟩).symm, fun _ => congrArg Int32.toInt64 hw_2⟩, by rw [ht]; exact hP9, va_K.moved hW.alike hK9, hD9⟩, hS.F ht⟩) hS.2.2 dL_arrive_22
  · skip
    refine lv_aload hx hb dL_arrive_0 (lv_at hl 5 rfl) ?_
    refine lv_iconst (v := 0) hx hb dL_arrive_2 (by decide) ?_
    refine lv_aload_n hx hb dL_arrive_3 rfl (lv_at hl 0 rfl) ?_
    refine lv_iload_n hx hb dL_arrive_4 rfl (lv_at hl 1 rfl) ?_
    refine lv_iload_n hx hb dL_arrive_5 rfl (lv_at hl 2 rfl) ?_
    refine lv_iload_n hx hb dL_arrive_6 rfl (lv_at hl 3 rfl) ?_
    refine lv_iload hx hb dL_arrive_7 (lv_at hl 4 rfl) ?_
    have hPc := hP.sub (ws' := [(x, .inr (5, [.ref rk, .ref bs, .ref od, .ref jb, .ref ap, .int 0, .int 1, .int 0, .int 0, .int 0])), (rk, .inr (4, [.ref hd, .ref jm])), (hd, .inl (cI, 96, .inl (fun _ => 0))), (jm, .inl (cZ, 4, .inl (fun _ => 0))), (bs, .inl (cB, 2, .inr (.inr (.inr (.inr (va_up (va_up (fun _ => none) 0 (some b0)) 1 (some b1))))))), (b0, .inr (0, [.int 2, .int 0, .int 0, .int 0, .int 0, .int (-1)])), (b1, .inr (0, [.int 2, .int 0, .int 0, .int 0, .int 0, .int (-1)])), (od, .inr (2, [.ref o1, .ref o2, .ref o3, .int 0])), (jb, .inr (1, [.ref pl, .int (-1), .int 0, .int 0, .int 0]))]) [0, 1, 2, 3, 4, 5, 6, 7, 8] rfl
    have hDc := hD.sub (ws' := [(x, .inr (5, [.ref rk, .ref bs, .ref od, .ref jb, .ref ap, .int 0, .int 1, .int 0, .int 0, .int 0])), (rk, .inr (4, [.ref hd, .ref jm])), (hd, .inl (cI, 96, .inl (fun _ => 0))), (jm, .inl (cZ, 4, .inl (fun _ => 0))), (bs, .inl (cB, 2, .inr (.inr (.inr (.inr (va_up (va_up (fun _ => none) 0 (some b0)) 1 (some b1))))))), (b0, .inr (0, [.int 2, .int 0, .int 0, .int 0, .int 0, .int (-1)])), (b1, .inr (0, [.int 2, .int 0, .int 0, .int 0, .int 0, .int (-1)])), (od, .inr (2, [.ref o1, .ref o2, .ref o3, .int 0])), (jb, .inr (1, [.ref pl, .int (-1), .int 0, .int 0, .int 0]))]) [0, 1, 2, 3, 4, 5, 6, 7, 8] (by decide) rfl
    have hKc := hK.sub (tys' := [(cI, .int), (cZ, .boolean), (cB, .object "ParkTower$Bay")]) [0, 1, 2] rfl
    refine vx_calli (vx_runV (As := [.int b, .int len, .int h, .int w]) (rest := [.int 0, .ref ot]) ⟨hx, hb, hml, hown, hts⟩ (t_arrive l hlt dC dI _ x rk hd jm bs b0 b1 od o1 o2 o3 jb pl ap cI cZ cB b len h w hok) (cwV 4 hts gL_arrive_X7_arrive rfl rfl rfl (by decide +kernel) ⟨Nat.le_of_ble_eq_true rfl, Nat.le_of_ble_eq_true rfl⟩) ⟨pt_blindT, va_recv hK hP (ci := 5) (q0 := 0) rfl rfl, pt_preT hPc hKc hDc hN hE hZ⟩ rfl rfl hl.1 rfl (lv_room (Nat.le_of_ble_eq_true rfl)) dL_arrive_9 ⟨Nat.le_of_ble_eq_true rfl, Nat.le_of_ble_eq_true rfl⟩) hS (fun q h1 h2 => absurd h1 (Nat.not_lt.mpr h2)) (fun q h => hA q h) (fun q h1 h2 => absurd h1 (Nat.not_lt.mpr h2)) (fun E ce q9 u t H1 locs ht hvm hp hEE hz1 hk1 hS hce hcv hcl => ?_) (fun r u t H1 locs ht hvm hw hB hz1 hk1 hS => hw.elim)
    subst hEE
    have hP := pt_stay hP hk1
    generalize H1 = H at hP hS hce ⊢
    have hP : va_P (dC, dI) vwCl [(x, .inr (5, [.ref rk, .ref bs, .ref od, .ref jb, .ref ap, .int 0, .int 1, .int 0, .int 0, .int 0])), (rk, .inr (4, [.ref hd, .ref jm])), (hd, .inl (cI, 96, .inl (fun _ => 0))), (jm, .inl (cZ, 4, .inl (fun _ => 0))), (bs, .inl (cB, 2, .inr (.inr (.inr (.inr (va_up (va_up (fun _ => none) 0 (some b0)) 1 (some b1))))))), (b0, .inr (0, [.int 2, .int 0, .int 0, .int 0, .int 0, .int (-1)])), (b1, .inr (0, [.int 2, .int 0, .int 0, .int 0, .int 0, .int (-1)])), (od, .inr (2, [.ref o1, .ref o2, .ref o3, .int 0])), (jb, .inr (1, [.ref pl, .int (-1), .int 0, .int 0, .int 0])), (ot, .inl (cL, 1, .inr (.inl f)))] H := hP
    have hD : va_D A [(x, .inr (5, [.ref rk, .ref bs, .ref od, .ref jb, .ref ap, .int 0, .int 1, .int 0, .int 0, .int 0])), (rk, .inr (4, [.ref hd, .ref jm])), (hd, .inl (cI, 96, .inl (fun _ => 0))), (jm, .inl (cZ, 4, .inl (fun _ => 0))), (bs, .inl (cB, 2, .inr (.inr (.inr (.inr (va_up (va_up (fun _ => none) 0 (some b0)) 1 (some b1))))))), (b0, .inr (0, [.int 2, .int 0, .int 0, .int 0, .int 0, .int (-1)])), (b1, .inr (0, [.int 2, .int 0, .int 0, .int 0, .int 0, .int (-1)])), (od, .inr (2, [.ref o1, .ref o2, .ref o3, .int 0])), (jb, .inr (1, [.ref pl, .int (-1), .int 0, .int 0, .int 0])), (ot, .inl (cL, 1, .inr (.inl f)))] := hD
    refine vx_catch (name := "java/lang/IllegalArgumentException") hown [] ⟨0, 14, 17, 13⟩ [] (by rw [htab]; rfl) (fun z hz => by cases hz) (by decide) (by decide) (hts (.classLink RL 13 "java/lang/IllegalArgumentException") (by decide +kernel)) (va_Nw.use rfl (hE.1 (.castable "java/lang/IllegalArgumentException" "java/lang/IllegalArgumentException") (by decide +kernel))) hce hcv hcl ?_
    refine W.widen (k := 1) (n := 6) (by omega) (by omega) ?_
    refine lv_astore (lv' := [(6, .ref q9), (0, .ref x), (1, .int b), (2, .int len), (3, .int h), (4, .int w), (5, .ref ot)]) hx hb dL_arrive_17 hl (by decide) rfl (fun ls hl => ?_)
    refine lv_iconst (v := 1) hx hb dL_arrive_19 (by decide) ?_
    have hP9 := hP.sub (ws' := [(ot, .inl (cL, 1, .inr (.inl f)))]) [9] rfl
    have hD9 := hD.sub (ws' := [(ot, .inl (cL, 1, .inr (.inl f)))]) [9] (by decide) rfl
    have hK9 := hK.sub (tys' := []) [] rfl
    refine W.widen (k := 1) (n := 6) (by omega) (by omega) ?_
    exact W.iret (v := 1) hx hb hr (fun t ht hW => ⟨⟨1, f, rfl, ⟨(if_neg hok).symm, fun z => absurd z (by decide)⟩, by rw [ht]; exact hP9, va_K.moved hW.alike hK9, hD9⟩, hS.F ht⟩) hS.2.2 dL_arrive_20
set_option maxHeartbeats 4000000 in
set_option maxRecDepth 100000 in
theorem w_shut (l : Launch) (hlt : l.stackTraces = false) (dC : Nat → ClassId) (dI : Nat → Nat → Nat) (sz : Nat) (x rk hd jm bs b0 b1 od o1 o2 o3 jb pl ap : Nat) (cI cZ cB : ClassId) (b : Int32) : Met l yL_shut wsL_shut ({ frames := 7, cells := 1, slots := 6, locals := 111 }) (va_Pc [.ref x, .int b] (pt_BT (dC, dI) [(x, .inr (5, [.ref rk, .ref bs, .ref od, .ref jb, .ref ap, .int 0, .int 1, .int 0, .int 0, .int 0])), (rk, .inr (4, [.ref hd, .ref jm])), (hd, .inl (cI, 96, .inl (fun _ => 0))), (jm, .inl (cZ, 4, .inl (fun _ => 0))), (bs, .inl (cB, 2, .inr (.inr (.inr (.inr (va_up (va_up (fun _ => none) 0 (some b0)) 1 (some b1))))))), (b0, .inr (0, [.int 2, .int 0, .int 0, .int 0, .int 0, .int (-1)])), (b1, .inr (0, [.int 2, .int 0, .int 0, .int 0, .int 0, .int (-1)])), (od, .inr (2, [.ref o1, .ref o2, .ref o3, .int 0])), (jb, .inr (1, [.ref pl, .int (-1), .int 0, .int 0, .int 0]))] [(cI, .int), (cZ, .boolean), (cB, .object "ParkTower$Bay")] sz)) (va_Qi (fun (r : Int32) (_ : Unit) => r = (if b = 0 ∨ b = 1 then 0 else 1)) (fun _ t => pt_at (dC, dI) (va_A [(x, .inr (5, [.ref rk, .ref bs, .ref od, .ref jb, .ref ap, .int 0, .int 1, .int 0, .int 0, .int 0])), (rk, .inr (4, [.ref hd, .ref jm])), (hd, .inl (cI, 96, .inl (fun _ => 0))), (jm, .inl (cZ, 4, .inl (fun _ => 0))), (bs, .inl (cB, 2, .inr (.inr (.inr (.inr (va_up (va_up (fun _ => none) 0 (some b0)) 1 (some b1))))))), (b0, .inr (0, [.int 2, .int 0, .int 0, .int 0, .int 0, .int (-1)])), (b1, .inr (0, [.int 2, .int 0, .int 0, .int 0, .int 0, .int (-1)])), (od, .inr (2, [.ref o1, .ref o2, .ref o3, .int 0])), (jb, .inr (1, [.ref pl, .int (-1), .int 0, .int 0, .int 0]))] sz) [] [] t) (va_A [(x, .inr (5, [.ref rk, .ref bs, .ref od, .ref jb, .ref ap, .int 0, .int 1, .int 0, .int 0, .int 0])), (rk, .inr (4, [.ref hd, .ref jm])), (hd, .inl (cI, 96, .inl (fun _ => 0))), (jm, .inl (cZ, 4, .inl (fun _ => 0))), (bs, .inl (cB, 2, .inr (.inr (.inr (.inr (va_up (va_up (fun _ => none) 0 (some b0)) 1 (some b1))))))), (b0, .inr (0, [.int 2, .int 0, .int 0, .int 0, .int 0, .int (-1)])), (b1, .inr (0, [.int 2, .int 0, .int 0, .int 0, .int 0, .int (-1)])), (od, .inr (2, [.ref o1, .ref o2, .ref o3, .int 0])), (jb, .inr (1, [.ref pl, .int (-1), .int 0, .int 0, .int 0]))] sz)) 1 6 (va_A [(x, .inr (5, [.ref rk, .ref bs, .ref od, .ref jb, .ref ap, .int 0, .int 1, .int 0, .int 0, .int 0])), (rk, .inr (4, [.ref hd, .ref jm])), (hd, .inl (cI, 96, .inl (fun _ => 0))), (jm, .inl (cZ, 4, .inl (fun _ => 0))), (bs, .inl (cB, 2, .inr (.inr (.inr (.inr (va_up (va_up (fun _ => none) 0 (some b0)) 1 (some b1))))))), (b0, .inr (0, [.int 2, .int 0, .int 0, .int 0, .int 0, .int (-1)])), (b1, .inr (0, [.int 2, .int 0, .int 0, .int 0, .int 0, .int (-1)])), (od, .inr (2, [.ref o1, .ref o2, .ref o3, .int 0])), (jb, .inr (1, [.ref pl, .int (-1), .int 0, .int 0, .int 0]))] sz) := by
  refine va_MetW (cc := cL_shut) (maxL := 3) (ret := some .int) (hh := [(0, 5, 8, 13), (0, 5, 11, 19)]) (by decide) rfl ?_
  intro p e s m args below meth c s₁ B hml hv
  obtain ⟨rfl, hsz, hP, hK, hD0, hN, hE, hZ⟩ := hv
  have hx := B.exec
  have hb := B.bytes
  have hr := B.returns
  have hts := atoms_spec (ws := wsL_shut) B.pre
  have hown : s.vm.findClass RL = some m.cls := findClass_of_methodNamed B.named
  have hlocks := B.notSynchronized
  have htab := vx_table (x := yL_shut) B (hts (.codeWith yL_shut cL_shut 3 (some .int) [(0, 5, 8, 13), (0, 5, 11, 19)]) List.mem_cons_self)
  subst hsz
  have hD := hD0.self (sz := s.heap.size)
  generalize hAe : va_A [(x, .inr (5, [.ref rk, .ref bs, .ref od, .ref jb, .ref ap, .int 0, .int 1, .int 0, .int 0, .int 0])), (rk, .inr (4, [.ref hd, .ref jm])), (hd, .inl (cI, 96, .inl (fun _ => 0))), (jm, .inl (cZ, 4, .inl (fun _ => 0))), (bs, .inl (cB, 2, .inr (.inr (.inr (.inr (va_up (va_up (fun _ => none) 0 (some b0)) 1 (some b1))))))), (b0, .inr (0, [.int 2, .int 0, .int 0, .int 0, .int 0, .int (-1)])), (b1, .inr (0, [.int 2, .int 0, .int 0, .int 0, .int 0, .int (-1)])), (od, .inr (2, [.ref o1, .ref o2, .ref o3, .int 0])), (jb, .inr (1, [.ref pl, .int (-1), .int 0, .int 0, .int 0]))] s.heap.size = A at hD ⊢
  have hA : ∀ q : Nat, s.heap.size ≤ q → A q := fun q h => by rw [← hAe]; exact Or.inr h
  have hS : va_S A s.heap s.heap [] := va_S.rf
  have hP : va_P (dC, dI) vwCl [(x, .inr (5, [.ref rk, .ref bs, .ref od, .ref jb, .ref ap, .int 0, .int 1, .int 0, .int 0, .int 0])), (rk, .inr (4, [.ref hd, .ref jm])), (hd, .inl (cI, 96, .inl (fun _ => 0))), (jm, .inl (cZ, 4, .inl (fun _ => 0))), (bs, .inl (cB, 2, .inr (.inr (.inr (.inr (va_up (va_up (fun _ => none) 0 (some b0)) 1 (some b1))))))), (b0, .inr (0, [.int 2, .int 0, .int 0, .int 0, .int 0, .int (-1)])), (b1, .inr (0, [.int 2, .int 0, .int 0, .int 0, .int 0, .int (-1)])), (od, .inr (2, [.ref o1, .ref o2, .ref o3, .int 0])), (jb, .inr (1, [.ref pl, .int (-1), .int 0, .int 0, .int 0]))] s.heap := hP
  have hK : va_K (dC, dI) vwCl [(cI, .int), (cZ, .boolean), (cB, .object "ParkTower$Bay")] s := hK
  have hl := lv_entry ([.ref x, .int b]) (n := 3) (Nat.le_of_ble_eq_true rfl)
  rw [lg_entry_eq]
  generalize (lg_sl ([.ref x, .int b]) ++ List.replicate (3 - (lg_sl ([.ref x, .int b])).length) Slot.unset).toArray = ls at hl ⊢
  have hl : lv_has ls 3 [(0, .ref x), (1, .int b)] := hl
  by_cases hok : b = 0 ∨ b = 1
  · rcases hok with rfl | rfl
    · skip
      refine lv_aload_n hx hb dL_shut_0 rfl (lv_at hl 0 rfl) ?_
      refine lv_iload_n hx hb dL_shut_1 rfl (lv_at hl 1 rfl) ?_
      have hPc := hP.sub (ws' := [(x, .inr (5, [.ref rk, .ref bs, .ref od, .ref jb, .ref ap, .int 0, .int 1, .int 0, .int 0, .int 0])), (rk, .inr (4, [.ref hd, .ref jm])), (hd, .inl (cI, 96, .inl (fun _ => 0))), (jm, .inl (cZ, 4, .inl (fun _ => 0))), (bs, .inl (cB, 2, .inr (.inr (.inr (.inr (va_up (va_up (fun _ => none) 0 (some b0)) 1 (some b1))))))), (b0, .inr (0, [.int 2, .int 0, .int 0, .int 0, .int 0, .int (-1)])), (b1, .inr (0, [.int 2, .int 0, .int 0, .int 0, .int 0, .int (-1)])), (od, .inr (2, [.ref o1, .ref o2, .ref o3, .int 0])), (jb, .inr (1, [.ref pl, .int (-1), .int 0, .int 0, .int 0]))]) [0, 1, 2, 3, 4, 5, 6, 7, 8] rfl
      have hDc := hD.sub (ws' := [(x, .inr (5, [.ref rk, .ref bs, .ref od, .ref jb, .ref ap, .int 0, .int 1, .int 0, .int 0, .int 0])), (rk, .inr (4, [.ref hd, .ref jm])), (hd, .inl (cI, 96, .inl (fun _ => 0))), (jm, .inl (cZ, 4, .inl (fun _ => 0))), (bs, .inl (cB, 2, .inr (.inr (.inr (.inr (va_up (va_up (fun _ => none) 0 (some b0)) 1 (some b1))))))), (b0, .inr (0, [.int 2, .int 0, .int 0, .int 0, .int 0, .int (-1)])), (b1, .inr (0, [.int 2, .int 0, .int 0, .int 0, .int 0, .int (-1)])), (od, .inr (2, [.ref o1, .ref o2, .ref o3, .int 0])), (jb, .inr (1, [.ref pl, .int (-1), .int 0, .int 0, .int 0]))]) [0, 1, 2, 3, 4, 5, 6, 7, 8] (by decide) rfl
      have hKc := hK.sub (tys' := [(cI, .int), (cZ, .boolean), (cB, .object "ParkTower$Bay")]) [0, 1, 2] rfl
      have hFc := va_free (wc := [(x, .inr (5, [.ref rk, .ref bs, .ref od, .ref jb, .ref ap, .int 0, .int 1, .int 0, .int 0, .int 0])), (rk, .inr (4, [.ref hd, .ref jm])), (hd, .inl (cI, 96, .inl (fun _ => 0))), (jm, .inl (cZ, 4, .inl (fun _ => 0))), (bs, .inl (cB, 2, .inr (.inr (.inr (.inr (va_up (va_up (fun _ => none) 0 (some b0)) 1 (some b1))))))), (b0, .inr (0, [.int 2, .int 0, .int 0, .int 0, .int 0, .int (-1)])), (b1, .inr (0, [.int 2, .int 0, .int 0, .int 0, .int 0, .int (-1)])), (od, .inr (2, [.ref o1, .ref o2, .ref o3, .int 0])), (jb, .inr (1, [.ref pl, .int (-1), .int 0, .int 0, .int 0]))]) hD hS hA [0, 1, 2, 3, 4, 5, 6, 7, 8] rfl
      refine va_callv (va_runV (As := [.int 0]) (rest := []) ⟨hx, hb, hml, hown, hts⟩ (n_shut0 l dC dI _ x rk hd jm bs b0 b1 od o1 o2 o3 jb pl ap cI cZ cB) (cwV 1 hts gL_shut_X7_shut rfl rfl rfl (by decide +kernel) ⟨Nat.le_of_ble_eq_true rfl, Nat.le_of_ble_eq_true rfl⟩) ⟨pt_blindQ, va_recv hK hP (ci := 5) (q0 := 0) rfl rfl, pt_preQ hPc hKc hDc hN⟩ rfl rfl hl.1 rfl (lv_room (Nat.le_of_ble_eq_true rfl)) dL_shut_2 ⟨Nat.le_of_ble_eq_true rfl, Nat.le_of_ble_eq_true rfl⟩) hS (fun q _ h => hFc q h) hFc (fun u_1 t H1 locs ht hvm hw_1 hB hz1 hk1 hS => ?_)
      obtain ⟨hP1, hK1, hD1⟩ := hB
      rw [ht] at hP1
      have hK1 := va_K.moved hvm.symm hK1
      obtain ⟨hP, hD⟩ := va_join (wr := []) (w1 := []) hP hD [0, 1, 2, 3, 4, 5, 6, 7, 8] [] rfl rfl (by decide) (by decide) hk1 hFc hP1 hD1
      have hK := hK.app hK1
      generalize H1 = H at hP hS ⊢
      have hP : va_P (dC, dI) vwCl [] H := hP
      have hD : va_D A [] := hD
      have hK : va_K (dC, dI) vwCl [(cI, .int), (cZ, .boolean), (cB, .object "ParkTower$Bay")] s := hK
      refine lv_goto (tgt := 14) hx hb dL_shut_5 (by decide) ?_
      refine lv_iconst (v := 0) hx hb dL_shut_14 (by decide) ?_
      have hP9 := hP.sub (ws' := []) [] rfl
      have hD9 := hD.sub (ws' := []) [] (by decide) rfl
      have hK9 := hK.sub (tys' := []) [] rfl
      refine W.widen (k := 1) (n := 6) (by omega) (by omega) ?_
      exact W.iret (v := 0) hx hb hr (fun t ht hW => ⟨⟨0, (), rfl, (if_pos (by decide)).symm, by rw [ht]; exact hP9, va_K.moved hW.alike hK9, hD9⟩, hS.F ht⟩) hS.2.2 dL_shut_15
    · skip
      refine lv_aload_n hx hb dL_shut_0 rfl (lv_at hl 0 rfl) ?_
      refine lv_iload_n hx hb dL_shut_1 rfl (lv_at hl 1 rfl) ?_
      have hPc := hP.sub (ws' := [(x, .inr (5, [.ref rk, .ref bs, .ref od, .ref jb, .ref ap, .int 0, .int 1, .int 0, .int 0, .int 0])), (rk, .inr (4, [.ref hd, .ref jm])), (hd, .inl (cI, 96, .inl (fun _ => 0))), (jm, .inl (cZ, 4, .inl (fun _ => 0))), (bs, .inl (cB, 2, .inr (.inr (.inr (.inr (va_up (va_up (fun _ => none) 0 (some b0)) 1 (some b1))))))), (b0, .inr (0, [.int 2, .int 0, .int 0, .int 0, .int 0, .int (-1)])), (b1, .inr (0, [.int 2, .int 0, .int 0, .int 0, .int 0, .int (-1)])), (od, .inr (2, [.ref o1, .ref o2, .ref o3, .int 0])), (jb, .inr (1, [.ref pl, .int (-1), .int 0, .int 0, .int 0]))]) [0, 1, 2, 3, 4, 5, 6, 7, 8] rfl
      have hDc := hD.sub (ws' := [(x, .inr (5, [.ref rk, .ref bs, .ref od, .ref jb, .ref ap, .int 0, .int 1, .int 0, .int 0, .int 0])), (rk, .inr (4, [.ref hd, .ref jm])), (hd, .inl (cI, 96, .inl (fun _ => 0))), (jm, .inl (cZ, 4, .inl (fun _ => 0))), (bs, .inl (cB, 2, .inr (.inr (.inr (.inr (va_up (va_up (fun _ => none) 0 (some b0)) 1 (some b1))))))), (b0, .inr (0, [.int 2, .int 0, .int 0, .int 0, .int 0, .int (-1)])), (b1, .inr (0, [.int 2, .int 0, .int 0, .int 0, .int 0, .int (-1)])), (od, .inr (2, [.ref o1, .ref o2, .ref o3, .int 0])), (jb, .inr (1, [.ref pl, .int (-1), .int 0, .int 0, .int 0]))]) [0, 1, 2, 3, 4, 5, 6, 7, 8] (by decide) rfl
      have hKc := hK.sub (tys' := [(cI, .int), (cZ, .boolean), (cB, .object "ParkTower$Bay")]) [0, 1, 2] rfl
      have hFc := va_free (wc := [(x, .inr (5, [.ref rk, .ref bs, .ref od, .ref jb, .ref ap, .int 0, .int 1, .int 0, .int 0, .int 0])), (rk, .inr (4, [.ref hd, .ref jm])), (hd, .inl (cI, 96, .inl (fun _ => 0))), (jm, .inl (cZ, 4, .inl (fun _ => 0))), (bs, .inl (cB, 2, .inr (.inr (.inr (.inr (va_up (va_up (fun _ => none) 0 (some b0)) 1 (some b1))))))), (b0, .inr (0, [.int 2, .int 0, .int 0, .int 0, .int 0, .int (-1)])), (b1, .inr (0, [.int 2, .int 0, .int 0, .int 0, .int 0, .int (-1)])), (od, .inr (2, [.ref o1, .ref o2, .ref o3, .int 0])), (jb, .inr (1, [.ref pl, .int (-1), .int 0, .int 0, .int 0]))]) hD hS hA [0, 1, 2, 3, 4, 5, 6, 7, 8] rfl
      refine va_callv (va_runV (As := [.int 1]) (rest := []) ⟨hx, hb, hml, hown, hts⟩ (n_shut1 l dC dI _ x rk hd jm bs b0 b1 od o1 o2 o3 jb pl ap cI cZ cB) (cwV 1 hts gL_shut_X7_shut rfl rfl rfl (by decide +kernel) ⟨Nat.le_of_ble_eq_true rfl, Nat.le_of_ble_eq_true rfl⟩) ⟨pt_blindQ, va_recv hK hP (ci := 5) (q0 := 0) rfl rfl, pt_preQ hPc hKc hDc hN⟩ rfl rfl hl.1 rfl (lv_room (Nat.le_of_ble_eq_true rfl)) dL_shut_2 ⟨Nat.le_of_ble_eq_true rfl, Nat.le_of_ble_eq_true rfl⟩) hS (fun q _ h => hFc q h) hFc (fun u_2 t H1 locs ht hvm hw_2 hB hz1 hk1 hS => ?_)
      obtain ⟨hP1, hK1, hD1⟩ := hB
      rw [ht] at hP1
      have hK1 := va_K.moved hvm.symm hK1
      obtain ⟨hP, hD⟩ := va_join (wr := []) (w1 := []) hP hD [0, 1, 2, 3, 4, 5, 6, 7, 8] [] rfl rfl (by decide) (by decide) hk1 hFc hP1 hD1
      have hK := hK.app hK1
      generalize H1 = H at hP hS ⊢
      have hP : va_P (dC, dI) vwCl [] H := hP
      have hD : va_D A [] := hD
      have hK : va_K (dC, dI) vwCl [(cI, .int), (cZ, .boolean), (cB, .object "ParkTower$Bay")] s := hK
      refine lv_goto (tgt := 14) hx hb dL_shut_5 (by decide) ?_
      refine lv_iconst (v := 0) hx hb dL_shut_14 (by decide) ?_
      have hP9 := hP.sub (ws' := []) [] rfl
      have hD9 := hD.sub (ws' := []) [] (by decide) rfl
      have hK9 := hK.sub (tys' := []) [] rfl
      refine W.widen (k := 1) (n := 6) (by omega) (by omega) ?_
      exact W.iret (v := 0) hx hb hr (fun t ht hW => ⟨⟨0, (), rfl, (if_pos (by decide)).symm, by rw [ht]; exact hP9, va_K.moved hW.alike hK9, hD9⟩, hS.F ht⟩) hS.2.2 dL_shut_15
  · skip
    refine lv_aload_n hx hb dL_shut_0 rfl (lv_at hl 0 rfl) ?_
    refine lv_iload_n hx hb dL_shut_1 rfl (lv_at hl 1 rfl) ?_
    have hPc := hP.sub (ws' := [(x, .inr (5, [.ref rk, .ref bs, .ref od, .ref jb, .ref ap, .int 0, .int 1, .int 0, .int 0, .int 0])), (rk, .inr (4, [.ref hd, .ref jm])), (hd, .inl (cI, 96, .inl (fun _ => 0))), (jm, .inl (cZ, 4, .inl (fun _ => 0))), (bs, .inl (cB, 2, .inr (.inr (.inr (.inr (va_up (va_up (fun _ => none) 0 (some b0)) 1 (some b1))))))), (b0, .inr (0, [.int 2, .int 0, .int 0, .int 0, .int 0, .int (-1)])), (b1, .inr (0, [.int 2, .int 0, .int 0, .int 0, .int 0, .int (-1)])), (od, .inr (2, [.ref o1, .ref o2, .ref o3, .int 0])), (jb, .inr (1, [.ref pl, .int (-1), .int 0, .int 0, .int 0]))]) [0, 1, 2, 3, 4, 5, 6, 7, 8] rfl
    have hDc := hD.sub (ws' := [(x, .inr (5, [.ref rk, .ref bs, .ref od, .ref jb, .ref ap, .int 0, .int 1, .int 0, .int 0, .int 0])), (rk, .inr (4, [.ref hd, .ref jm])), (hd, .inl (cI, 96, .inl (fun _ => 0))), (jm, .inl (cZ, 4, .inl (fun _ => 0))), (bs, .inl (cB, 2, .inr (.inr (.inr (.inr (va_up (va_up (fun _ => none) 0 (some b0)) 1 (some b1))))))), (b0, .inr (0, [.int 2, .int 0, .int 0, .int 0, .int 0, .int (-1)])), (b1, .inr (0, [.int 2, .int 0, .int 0, .int 0, .int 0, .int (-1)])), (od, .inr (2, [.ref o1, .ref o2, .ref o3, .int 0])), (jb, .inr (1, [.ref pl, .int (-1), .int 0, .int 0, .int 0]))]) [0, 1, 2, 3, 4, 5, 6, 7, 8] (by decide) rfl
    have hKc := hK.sub (tys' := [(cI, .int), (cZ, .boolean), (cB, .object "ParkTower$Bay")]) [0, 1, 2] rfl
    refine vx_callv (vx_runV (As := [.int b]) (rest := []) ⟨hx, hb, hml, hown, hts⟩ (t_shut l hlt dC dI _ x rk hd jm bs b0 b1 od o1 o2 o3 jb pl ap cI cZ cB b hok) (cwV 1 hts gL_shut_X7_shut rfl rfl rfl (by decide +kernel) ⟨Nat.le_of_ble_eq_true rfl, Nat.le_of_ble_eq_true rfl⟩) ⟨pt_blindT, va_recv hK hP (ci := 5) (q0 := 0) rfl rfl, pt_preT hPc hKc hDc hN hE hZ⟩ rfl rfl hl.1 rfl (lv_room (Nat.le_of_ble_eq_true rfl)) dL_shut_2 ⟨Nat.le_of_ble_eq_true rfl, Nat.le_of_ble_eq_true rfl⟩) hS (fun q h1 h2 => absurd h1 (Nat.not_lt.mpr h2)) (fun q h => hA q h) (fun q h1 h2 => absurd h1 (Nat.not_lt.mpr h2)) (fun E ce q9 u t H1 locs ht hvm hp hEE hz1 hk1 hS hce hcv hcl => ?_) (fun u t H1 locs ht hvm hw hB hz1 hk1 hS => hw.elim)
    subst hEE
    have hP := pt_stay hP hk1
    generalize H1 = H at hP hS hce ⊢
    have hP : va_P (dC, dI) vwCl [(x, .inr (5, [.ref rk, .ref bs, .ref od, .ref jb, .ref ap, .int 0, .int 1, .int 0, .int 0, .int 0])), (rk, .inr (4, [.ref hd, .ref jm])), (hd, .inl (cI, 96, .inl (fun _ => 0))), (jm, .inl (cZ, 4, .inl (fun _ => 0))), (bs, .inl (cB, 2, .inr (.inr (.inr (.inr (va_up (va_up (fun _ => none) 0 (some b0)) 1 (some b1))))))), (b0, .inr (0, [.int 2, .int 0, .int 0, .int 0, .int 0, .int (-1)])), (b1, .inr (0, [.int 2, .int 0, .int 0, .int 0, .int 0, .int (-1)])), (od, .inr (2, [.ref o1, .ref o2, .ref o3, .int 0])), (jb, .inr (1, [.ref pl, .int (-1), .int 0, .int 0, .int 0]))] H := hP
    have hD : va_D A [(x, .inr (5, [.ref rk, .ref bs, .ref od, .ref jb, .ref ap, .int 0, .int 1, .int 0, .int 0, .int 0])), (rk, .inr (4, [.ref hd, .ref jm])), (hd, .inl (cI, 96, .inl (fun _ => 0))), (jm, .inl (cZ, 4, .inl (fun _ => 0))), (bs, .inl (cB, 2, .inr (.inr (.inr (.inr (va_up (va_up (fun _ => none) 0 (some b0)) 1 (some b1))))))), (b0, .inr (0, [.int 2, .int 0, .int 0, .int 0, .int 0, .int (-1)])), (b1, .inr (0, [.int 2, .int 0, .int 0, .int 0, .int 0, .int (-1)])), (od, .inr (2, [.ref o1, .ref o2, .ref o3, .int 0])), (jb, .inr (1, [.ref pl, .int (-1), .int 0, .int 0, .int 0]))] := hD
    refine vx_catch (name := "java/lang/IllegalArgumentException") hown [] ⟨0, 5, 8, 13⟩ [⟨0, 5, 11, 19⟩] (by rw [htab]; rfl) (fun z hz => by cases hz) (by decide) (by decide) (hts (.classLink RL 13 "java/lang/IllegalArgumentException") (by decide +kernel)) (va_Nw.use rfl (hE.1 (.castable "java/lang/IllegalArgumentException" "java/lang/IllegalArgumentException") (by decide +kernel))) hce hcv hcl ?_
    refine W.widen (k := 1) (n := 6) (by omega) (by omega) ?_
    refine lv_astore_n (lv' := [(2, .ref q9), (0, .ref x), (1, .int b)]) hx hb dL_shut_8 rfl hl (by decide) rfl (fun ls hl => ?_)
    refine lv_iconst (v := 1) hx hb dL_shut_9 (by decide) ?_
    have hP9 := hP.sub (ws' := []) [] rfl
    have hD9 := hD.sub (ws' := []) [] (by decide) rfl
    have hK9 := hK.sub (tys' := []) [] rfl
    refine W.widen (k := 1) (n := 6) (by omega) (by omega) ?_
    exact W.iret (v := 1) hx hb hr (fun t ht hW => ⟨⟨1, (), rfl, (if_neg hok).symm, by rw [ht]; exact hP9, va_K.moved hW.alike hK9, hD9⟩, hS.F ht⟩) hS.2.2 dL_shut_10
set_option maxHeartbeats 4000000 in
set_option maxRecDepth 100000 in
theorem w_person (l : Launch) (hlt : l.stackTraces = false) (dC : Nat → ClassId) (dI : Nat → Nat → Nat) (sz : Nat) (x rk hd jm bs b0 b1 od o1 o2 o3 jb pl ap : Nat) (cI cZ cB : ClassId) (b on : Int32) (ho : on = 0 ∨ on = 1) : Met l yL_person wsL_person ({ frames := 7, cells := 1, slots := 6, locals := 112 }) (va_Pc [.ref x, .int b, .int on] (pt_BT (dC, dI) [(x, .inr (5, [.ref rk, .ref bs, .ref od, .ref jb, .ref ap, .int 0, .int 1, .int 0, .int 0, .int 0])), (rk, .inr (4, [.ref hd, .ref jm])), (hd, .inl (cI, 96, .inl (fun _ => 0))), (jm, .inl (cZ, 4, .inl (fun _ => 0))), (bs, .inl (cB, 2, .inr (.inr (.inr (.inr (va_up (va_up (fun _ => none) 0 (some b0)) 1 (some b1))))))), (b0, .inr (0, [.int 2, .int 0, .int 0, .int 0, .int 0, .int (-1)])), (b1, .inr (0, [.int 2, .int 0, .int 0, .int 0, .int 0, .int (-1)])), (od, .inr (2, [.ref o1, .ref o2, .ref o3, .int 0])), (jb, .inr (1, [.ref pl, .int (-1), .int 0, .int 0, .int 0]))] [(cI, .int), (cZ, .boolean), (cB, .object "ParkTower$Bay")] sz)) (va_Qi (fun (r : Int32) (_ : Unit) => r = (if b = 0 ∨ b = 1 then 0 else 1)) (fun _ t => pt_at (dC, dI) (va_A [(x, .inr (5, [.ref rk, .ref bs, .ref od, .ref jb, .ref ap, .int 0, .int 1, .int 0, .int 0, .int 0])), (rk, .inr (4, [.ref hd, .ref jm])), (hd, .inl (cI, 96, .inl (fun _ => 0))), (jm, .inl (cZ, 4, .inl (fun _ => 0))), (bs, .inl (cB, 2, .inr (.inr (.inr (.inr (va_up (va_up (fun _ => none) 0 (some b0)) 1 (some b1))))))), (b0, .inr (0, [.int 2, .int 0, .int 0, .int 0, .int 0, .int (-1)])), (b1, .inr (0, [.int 2, .int 0, .int 0, .int 0, .int 0, .int (-1)])), (od, .inr (2, [.ref o1, .ref o2, .ref o3, .int 0])), (jb, .inr (1, [.ref pl, .int (-1), .int 0, .int 0, .int 0]))] sz) [] [] t) (va_A [(x, .inr (5, [.ref rk, .ref bs, .ref od, .ref jb, .ref ap, .int 0, .int 1, .int 0, .int 0, .int 0])), (rk, .inr (4, [.ref hd, .ref jm])), (hd, .inl (cI, 96, .inl (fun _ => 0))), (jm, .inl (cZ, 4, .inl (fun _ => 0))), (bs, .inl (cB, 2, .inr (.inr (.inr (.inr (va_up (va_up (fun _ => none) 0 (some b0)) 1 (some b1))))))), (b0, .inr (0, [.int 2, .int 0, .int 0, .int 0, .int 0, .int (-1)])), (b1, .inr (0, [.int 2, .int 0, .int 0, .int 0, .int 0, .int (-1)])), (od, .inr (2, [.ref o1, .ref o2, .ref o3, .int 0])), (jb, .inr (1, [.ref pl, .int (-1), .int 0, .int 0, .int 0]))] sz)) 1 6 (va_A [(x, .inr (5, [.ref rk, .ref bs, .ref od, .ref jb, .ref ap, .int 0, .int 1, .int 0, .int 0, .int 0])), (rk, .inr (4, [.ref hd, .ref jm])), (hd, .inl (cI, 96, .inl (fun _ => 0))), (jm, .inl (cZ, 4, .inl (fun _ => 0))), (bs, .inl (cB, 2, .inr (.inr (.inr (.inr (va_up (va_up (fun _ => none) 0 (some b0)) 1 (some b1))))))), (b0, .inr (0, [.int 2, .int 0, .int 0, .int 0, .int 0, .int (-1)])), (b1, .inr (0, [.int 2, .int 0, .int 0, .int 0, .int 0, .int (-1)])), (od, .inr (2, [.ref o1, .ref o2, .ref o3, .int 0])), (jb, .inr (1, [.ref pl, .int (-1), .int 0, .int 0, .int 0]))] sz) := by
  refine va_MetW (cc := cL_person) (maxL := 4) (ret := some .int) (hh := [(0, 6, 9, 13), (0, 6, 12, 19)]) (by decide) rfl ?_
  intro p e s m args below meth c s₁ B hml hv
  obtain ⟨rfl, hsz, hP, hK, hD0, hN, hE, hZ⟩ := hv
  have hx := B.exec
  have hb := B.bytes
  have hr := B.returns
  have hts := atoms_spec (ws := wsL_person) B.pre
  have hown : s.vm.findClass RL = some m.cls := findClass_of_methodNamed B.named
  have hlocks := B.notSynchronized
  have htab := vx_table (x := yL_person) B (hts (.codeWith yL_person cL_person 4 (some .int) [(0, 6, 9, 13), (0, 6, 12, 19)]) List.mem_cons_self)
  subst hsz
  have hD := hD0.self (sz := s.heap.size)
  generalize hAe : va_A [(x, .inr (5, [.ref rk, .ref bs, .ref od, .ref jb, .ref ap, .int 0, .int 1, .int 0, .int 0, .int 0])), (rk, .inr (4, [.ref hd, .ref jm])), (hd, .inl (cI, 96, .inl (fun _ => 0))), (jm, .inl (cZ, 4, .inl (fun _ => 0))), (bs, .inl (cB, 2, .inr (.inr (.inr (.inr (va_up (va_up (fun _ => none) 0 (some b0)) 1 (some b1))))))), (b0, .inr (0, [.int 2, .int 0, .int 0, .int 0, .int 0, .int (-1)])), (b1, .inr (0, [.int 2, .int 0, .int 0, .int 0, .int 0, .int (-1)])), (od, .inr (2, [.ref o1, .ref o2, .ref o3, .int 0])), (jb, .inr (1, [.ref pl, .int (-1), .int 0, .int 0, .int 0]))] s.heap.size = A at hD ⊢
  have hA : ∀ q : Nat, s.heap.size ≤ q → A q := fun q h => by rw [← hAe]; exact Or.inr h
  have hS : va_S A s.heap s.heap [] := va_S.rf
  have hP : va_P (dC, dI) vwCl [(x, .inr (5, [.ref rk, .ref bs, .ref od, .ref jb, .ref ap, .int 0, .int 1, .int 0, .int 0, .int 0])), (rk, .inr (4, [.ref hd, .ref jm])), (hd, .inl (cI, 96, .inl (fun _ => 0))), (jm, .inl (cZ, 4, .inl (fun _ => 0))), (bs, .inl (cB, 2, .inr (.inr (.inr (.inr (va_up (va_up (fun _ => none) 0 (some b0)) 1 (some b1))))))), (b0, .inr (0, [.int 2, .int 0, .int 0, .int 0, .int 0, .int (-1)])), (b1, .inr (0, [.int 2, .int 0, .int 0, .int 0, .int 0, .int (-1)])), (od, .inr (2, [.ref o1, .ref o2, .ref o3, .int 0])), (jb, .inr (1, [.ref pl, .int (-1), .int 0, .int 0, .int 0]))] s.heap := hP
  have hK : va_K (dC, dI) vwCl [(cI, .int), (cZ, .boolean), (cB, .object "ParkTower$Bay")] s := hK
  have hl := lv_entry ([.ref x, .int b, .int on]) (n := 4) (Nat.le_of_ble_eq_true rfl)
  rw [lg_entry_eq]
  generalize (lg_sl ([.ref x, .int b, .int on]) ++ List.replicate (4 - (lg_sl ([.ref x, .int b, .int on])).length) Slot.unset).toArray = ls at hl ⊢
  have hl : lv_has ls 4 [(0, .ref x), (1, .int b), (2, .int on)] := hl
  by_cases hok : b = 0 ∨ b = 1
  · rcases hok with rfl | rfl <;> rcases ho with rfl | rfl
    · skip
      refine lv_aload_n hx hb dL_person_0 rfl (lv_at hl 0 rfl) ?_
      refine lv_iload_n hx hb dL_person_1 rfl (lv_at hl 1 rfl) ?_
      refine lv_iload_n hx hb dL_person_2 rfl (lv_at hl 2 rfl) ?_
      have hPc := hP.sub (ws' := [(x, .inr (5, [.ref rk, .ref bs, .ref od, .ref jb, .ref ap, .int 0, .int 1, .int 0, .int 0, .int 0])), (rk, .inr (4, [.ref hd, .ref jm])), (hd, .inl (cI, 96, .inl (fun _ => 0))), (jm, .inl (cZ, 4, .inl (fun _ => 0))), (bs, .inl (cB, 2, .inr (.inr (.inr (.inr (va_up (va_up (fun _ => none) 0 (some b0)) 1 (some b1))))))), (b0, .inr (0, [.int 2, .int 0, .int 0, .int 0, .int 0, .int (-1)])), (b1, .inr (0, [.int 2, .int 0, .int 0, .int 0, .int 0, .int (-1)])), (od, .inr (2, [.ref o1, .ref o2, .ref o3, .int 0])), (jb, .inr (1, [.ref pl, .int (-1), .int 0, .int 0, .int 0]))]) [0, 1, 2, 3, 4, 5, 6, 7, 8] rfl
      have hDc := hD.sub (ws' := [(x, .inr (5, [.ref rk, .ref bs, .ref od, .ref jb, .ref ap, .int 0, .int 1, .int 0, .int 0, .int 0])), (rk, .inr (4, [.ref hd, .ref jm])), (hd, .inl (cI, 96, .inl (fun _ => 0))), (jm, .inl (cZ, 4, .inl (fun _ => 0))), (bs, .inl (cB, 2, .inr (.inr (.inr (.inr (va_up (va_up (fun _ => none) 0 (some b0)) 1 (some b1))))))), (b0, .inr (0, [.int 2, .int 0, .int 0, .int 0, .int 0, .int (-1)])), (b1, .inr (0, [.int 2, .int 0, .int 0, .int 0, .int 0, .int (-1)])), (od, .inr (2, [.ref o1, .ref o2, .ref o3, .int 0])), (jb, .inr (1, [.ref pl, .int (-1), .int 0, .int 0, .int 0]))]) [0, 1, 2, 3, 4, 5, 6, 7, 8] (by decide) rfl
      have hKc := hK.sub (tys' := [(cI, .int), (cZ, .boolean), (cB, .object "ParkTower$Bay")]) [0, 1, 2] rfl
      have hFc := va_free (wc := [(x, .inr (5, [.ref rk, .ref bs, .ref od, .ref jb, .ref ap, .int 0, .int 1, .int 0, .int 0, .int 0])), (rk, .inr (4, [.ref hd, .ref jm])), (hd, .inl (cI, 96, .inl (fun _ => 0))), (jm, .inl (cZ, 4, .inl (fun _ => 0))), (bs, .inl (cB, 2, .inr (.inr (.inr (.inr (va_up (va_up (fun _ => none) 0 (some b0)) 1 (some b1))))))), (b0, .inr (0, [.int 2, .int 0, .int 0, .int 0, .int 0, .int (-1)])), (b1, .inr (0, [.int 2, .int 0, .int 0, .int 0, .int 0, .int (-1)])), (od, .inr (2, [.ref o1, .ref o2, .ref o3, .int 0])), (jb, .inr (1, [.ref pl, .int (-1), .int 0, .int 0, .int 0]))]) hD hS hA [0, 1, 2, 3, 4, 5, 6, 7, 8] rfl
      refine va_callv (va_runV (As := [.int 0, .int 0]) (rest := []) ⟨hx, hb, hml, hown, hts⟩ (n_person00 l dC dI _ x rk hd jm bs b0 b1 od o1 o2 o3 jb pl ap cI cZ cB) (cwV 2 hts gL_person_X7_person rfl rfl rfl (by decide +kernel) ⟨Nat.le_of_ble_eq_true rfl, Nat.le_of_ble_eq_true rfl⟩) ⟨pt_blindQ, va_recv hK hP (ci := 5) (q0 := 0) rfl rfl, pt_preQ hPc hKc hDc hN⟩ rfl rfl hl.1 rfl (lv_room (Nat.le_of_ble_eq_true rfl)) dL_person_3 ⟨Nat.le_of_ble_eq_true rfl, Nat.le_of_ble_eq_true rfl⟩) hS (fun q _ h => hFc q h) hFc (fun u_1 t H1 locs ht hvm hw_1 hB hz1 hk1 hS => ?_)
      obtain ⟨hP1, hK1, hD1⟩ := hB
      rw [ht] at hP1
      have hK1 := va_K.moved hvm.symm hK1
      obtain ⟨hP, hD⟩ := va_join (wr := []) (w1 := []) hP hD [0, 1, 2, 3, 4, 5, 6, 7, 8] [] rfl rfl (by decide) (by decide) hk1 hFc hP1 hD1
      have hK := hK.app hK1
      generalize H1 = H at hP hS ⊢
      have hP : va_P (dC, dI) vwCl [] H := hP
      have hD : va_D A [] := hD
      have hK : va_K (dC, dI) vwCl [(cI, .int), (cZ, .boolean), (cB, .object "ParkTower$Bay")] s := hK
      refine lv_goto (tgt := 15) hx hb dL_person_6 (by decide) ?_
      refine lv_iconst (v := 0) hx hb dL_person_15 (by decide) ?_
      have hP9 := hP.sub (ws' := []) [] rfl
      have hD9 := hD.sub (ws' := []) [] (by decide) rfl
      have hK9 := hK.sub (tys' := []) [] rfl
      refine W.widen (k := 1) (n := 6) (by omega) (by omega) ?_
      exact W.iret (v := 0) hx hb hr (fun t ht hW => ⟨⟨0, (), rfl, (if_pos (by decide)).symm, by rw [ht]; exact hP9, va_K.moved hW.alike hK9, hD9⟩, hS.F ht⟩) hS.2.2 dL_person_16
    · skip
      refine lv_aload_n hx hb dL_person_0 rfl (lv_at hl 0 rfl) ?_
      refine lv_iload_n hx hb dL_person_1 rfl (lv_at hl 1 rfl) ?_
      refine lv_iload_n hx hb dL_person_2 rfl (lv_at hl 2 rfl) ?_
      have hPc := hP.sub (ws' := [(x, .inr (5, [.ref rk, .ref bs, .ref od, .ref jb, .ref ap, .int 0, .int 1, .int 0, .int 0, .int 0])), (rk, .inr (4, [.ref hd, .ref jm])), (hd, .inl (cI, 96, .inl (fun _ => 0))), (jm, .inl (cZ, 4, .inl (fun _ => 0))), (bs, .inl (cB, 2, .inr (.inr (.inr (.inr (va_up (va_up (fun _ => none) 0 (some b0)) 1 (some b1))))))), (b0, .inr (0, [.int 2, .int 0, .int 0, .int 0, .int 0, .int (-1)])), (b1, .inr (0, [.int 2, .int 0, .int 0, .int 0, .int 0, .int (-1)])), (od, .inr (2, [.ref o1, .ref o2, .ref o3, .int 0])), (jb, .inr (1, [.ref pl, .int (-1), .int 0, .int 0, .int 0]))]) [0, 1, 2, 3, 4, 5, 6, 7, 8] rfl
      have hDc := hD.sub (ws' := [(x, .inr (5, [.ref rk, .ref bs, .ref od, .ref jb, .ref ap, .int 0, .int 1, .int 0, .int 0, .int 0])), (rk, .inr (4, [.ref hd, .ref jm])), (hd, .inl (cI, 96, .inl (fun _ => 0))), (jm, .inl (cZ, 4, .inl (fun _ => 0))), (bs, .inl (cB, 2, .inr (.inr (.inr (.inr (va_up (va_up (fun _ => none) 0 (some b0)) 1 (some b1))))))), (b0, .inr (0, [.int 2, .int 0, .int 0, .int 0, .int 0, .int (-1)])), (b1, .inr (0, [.int 2, .int 0, .int 0, .int 0, .int 0, .int (-1)])), (od, .inr (2, [.ref o1, .ref o2, .ref o3, .int 0])), (jb, .inr (1, [.ref pl, .int (-1), .int 0, .int 0, .int 0]))]) [0, 1, 2, 3, 4, 5, 6, 7, 8] (by decide) rfl
      have hKc := hK.sub (tys' := [(cI, .int), (cZ, .boolean), (cB, .object "ParkTower$Bay")]) [0, 1, 2] rfl
      have hFc := va_free (wc := [(x, .inr (5, [.ref rk, .ref bs, .ref od, .ref jb, .ref ap, .int 0, .int 1, .int 0, .int 0, .int 0])), (rk, .inr (4, [.ref hd, .ref jm])), (hd, .inl (cI, 96, .inl (fun _ => 0))), (jm, .inl (cZ, 4, .inl (fun _ => 0))), (bs, .inl (cB, 2, .inr (.inr (.inr (.inr (va_up (va_up (fun _ => none) 0 (some b0)) 1 (some b1))))))), (b0, .inr (0, [.int 2, .int 0, .int 0, .int 0, .int 0, .int (-1)])), (b1, .inr (0, [.int 2, .int 0, .int 0, .int 0, .int 0, .int (-1)])), (od, .inr (2, [.ref o1, .ref o2, .ref o3, .int 0])), (jb, .inr (1, [.ref pl, .int (-1), .int 0, .int 0, .int 0]))]) hD hS hA [0, 1, 2, 3, 4, 5, 6, 7, 8] rfl
      refine va_callv (va_runV (As := [.int 0, .int 1]) (rest := []) ⟨hx, hb, hml, hown, hts⟩ (n_person01 l dC dI _ x rk hd jm bs b0 b1 od o1 o2 o3 jb pl ap cI cZ cB) (cwV 2 hts gL_person_X7_person rfl rfl rfl (by decide +kernel) ⟨Nat.le_of_ble_eq_true rfl, Nat.le_of_ble_eq_true rfl⟩) ⟨pt_blindQ, va_recv hK hP (ci := 5) (q0 := 0) rfl rfl, pt_preQ hPc hKc hDc hN⟩ rfl rfl hl.1 rfl (lv_room (Nat.le_of_ble_eq_true rfl)) dL_person_3 ⟨Nat.le_of_ble_eq_true rfl, Nat.le_of_ble_eq_true rfl⟩) hS (fun q _ h => hFc q h) hFc (fun u_2 t H1 locs ht hvm hw_2 hB hz1 hk1 hS => ?_)
      obtain ⟨hP1, hK1, hD1⟩ := hB
      rw [ht] at hP1
      have hK1 := va_K.moved hvm.symm hK1
      obtain ⟨hP, hD⟩ := va_join (wr := []) (w1 := []) hP hD [0, 1, 2, 3, 4, 5, 6, 7, 8] [] rfl rfl (by decide) (by decide) hk1 hFc hP1 hD1
      have hK := hK.app hK1
      generalize H1 = H at hP hS ⊢
      have hP : va_P (dC, dI) vwCl [] H := hP
      have hD : va_D A [] := hD
      have hK : va_K (dC, dI) vwCl [(cI, .int), (cZ, .boolean), (cB, .object "ParkTower$Bay")] s := hK
      refine lv_goto (tgt := 15) hx hb dL_person_6 (by decide) ?_
      refine lv_iconst (v := 0) hx hb dL_person_15 (by decide) ?_
      have hP9 := hP.sub (ws' := []) [] rfl
      have hD9 := hD.sub (ws' := []) [] (by decide) rfl
      have hK9 := hK.sub (tys' := []) [] rfl
      refine W.widen (k := 1) (n := 6) (by omega) (by omega) ?_
      exact W.iret (v := 0) hx hb hr (fun t ht hW => ⟨⟨0, (), rfl, (if_pos (by decide)).symm, by rw [ht]; exact hP9, va_K.moved hW.alike hK9, hD9⟩, hS.F ht⟩) hS.2.2 dL_person_16
    · skip
      refine lv_aload_n hx hb dL_person_0 rfl (lv_at hl 0 rfl) ?_
      refine lv_iload_n hx hb dL_person_1 rfl (lv_at hl 1 rfl) ?_
      refine lv_iload_n hx hb dL_person_2 rfl (lv_at hl 2 rfl) ?_
      have hPc := hP.sub (ws' := [(x, .inr (5, [.ref rk, .ref bs, .ref od, .ref jb, .ref ap, .int 0, .int 1, .int 0, .int 0, .int 0])), (rk, .inr (4, [.ref hd, .ref jm])), (hd, .inl (cI, 96, .inl (fun _ => 0))), (jm, .inl (cZ, 4, .inl (fun _ => 0))), (bs, .inl (cB, 2, .inr (.inr (.inr (.inr (va_up (va_up (fun _ => none) 0 (some b0)) 1 (some b1))))))), (b0, .inr (0, [.int 2, .int 0, .int 0, .int 0, .int 0, .int (-1)])), (b1, .inr (0, [.int 2, .int 0, .int 0, .int 0, .int 0, .int (-1)])), (od, .inr (2, [.ref o1, .ref o2, .ref o3, .int 0])), (jb, .inr (1, [.ref pl, .int (-1), .int 0, .int 0, .int 0]))]) [0, 1, 2, 3, 4, 5, 6, 7, 8] rfl
      have hDc := hD.sub (ws' := [(x, .inr (5, [.ref rk, .ref bs, .ref od, .ref jb, .ref ap, .int 0, .int 1, .int 0, .int 0, .int 0])), (rk, .inr (4, [.ref hd, .ref jm])), (hd, .inl (cI, 96, .inl (fun _ => 0))), (jm, .inl (cZ, 4, .inl (fun _ => 0))), (bs, .inl (cB, 2, .inr (.inr (.inr (.inr (va_up (va_up (fun _ => none) 0 (some b0)) 1 (some b1))))))), (b0, .inr (0, [.int 2, .int 0, .int 0, .int 0, .int 0, .int (-1)])), (b1, .inr (0, [.int 2, .int 0, .int 0, .int 0, .int 0, .int (-1)])), (od, .inr (2, [.ref o1, .ref o2, .ref o3, .int 0])), (jb, .inr (1, [.ref pl, .int (-1), .int 0, .int 0, .int 0]))]) [0, 1, 2, 3, 4, 5, 6, 7, 8] (by decide) rfl
      have hKc := hK.sub (tys' := [(cI, .int), (cZ, .boolean), (cB, .object "ParkTower$Bay")]) [0, 1, 2] rfl
      have hFc := va_free (wc := [(x, .inr (5, [.ref rk, .ref bs, .ref od, .ref jb, .ref ap, .int 0, .int 1, .int 0, .int 0, .int 0])), (rk, .inr (4, [.ref hd, .ref jm])), (hd, .inl (cI, 96, .inl (fun _ => 0))), (jm, .inl (cZ, 4, .inl (fun _ => 0))), (bs, .inl (cB, 2, .inr (.inr (.inr (.inr (va_up (va_up (fun _ => none) 0 (some b0)) 1 (some b1))))))), (b0, .inr (0, [.int 2, .int 0, .int 0, .int 0, .int 0, .int (-1)])), (b1, .inr (0, [.int 2, .int 0, .int 0, .int 0, .int 0, .int (-1)])), (od, .inr (2, [.ref o1, .ref o2, .ref o3, .int 0])), (jb, .inr (1, [.ref pl, .int (-1), .int 0, .int 0, .int 0]))]) hD hS hA [0, 1, 2, 3, 4, 5, 6, 7, 8] rfl
      refine va_callv (va_runV (As := [.int 1, .int 0]) (rest := []) ⟨hx, hb, hml, hown, hts⟩ (n_person10 l dC dI _ x rk hd jm bs b0 b1 od o1 o2 o3 jb pl ap cI cZ cB) (cwV 2 hts gL_person_X7_person rfl rfl rfl (by decide +kernel) ⟨Nat.le_of_ble_eq_true rfl, Nat.le_of_ble_eq_true rfl⟩) ⟨pt_blindQ, va_recv hK hP (ci := 5) (q0 := 0) rfl rfl, pt_preQ hPc hKc hDc hN⟩ rfl rfl hl.1 rfl (lv_room (Nat.le_of_ble_eq_true rfl)) dL_person_3 ⟨Nat.le_of_ble_eq_true rfl, Nat.le_of_ble_eq_true rfl⟩) hS (fun q _ h => hFc q h) hFc (fun u_3 t H1 locs ht hvm hw_3 hB hz1 hk1 hS => ?_)
      obtain ⟨hP1, hK1, hD1⟩ := hB
      rw [ht] at hP1
      have hK1 := va_K.moved hvm.symm hK1
      obtain ⟨hP, hD⟩ := va_join (wr := []) (w1 := []) hP hD [0, 1, 2, 3, 4, 5, 6, 7, 8] [] rfl rfl (by decide) (by decide) hk1 hFc hP1 hD1
      have hK := hK.app hK1
      generalize H1 = H at hP hS ⊢
      have hP : va_P (dC, dI) vwCl [] H := hP
      have hD : va_D A [] := hD
      have hK : va_K (dC, dI) vwCl [(cI, .int), (cZ, .boolean), (cB, .object "ParkTower$Bay")] s := hK
      refine lv_goto (tgt := 15) hx hb dL_person_6 (by decide) ?_
      refine lv_iconst (v := 0) hx hb dL_person_15 (by decide) ?_
      have hP9 := hP.sub (ws' := []) [] rfl
      have hD9 := hD.sub (ws' := []) [] (by decide) rfl
      have hK9 := hK.sub (tys' := []) [] rfl
      refine W.widen (k := 1) (n := 6) (by omega) (by omega) ?_
      exact W.iret (v := 0) hx hb hr (fun t ht hW => ⟨⟨0, (), rfl, (if_pos (by decide)).symm, by rw [ht]; exact hP9, va_K.moved hW.alike hK9, hD9⟩, hS.F ht⟩) hS.2.2 dL_person_16
    · skip
      refine lv_aload_n hx hb dL_person_0 rfl (lv_at hl 0 rfl) ?_
      refine lv_iload_n hx hb dL_person_1 rfl (lv_at hl 1 rfl) ?_
      refine lv_iload_n hx hb dL_person_2 rfl (lv_at hl 2 rfl) ?_
      have hPc := hP.sub (ws' := [(x, .inr (5, [.ref rk, .ref bs, .ref od, .ref jb, .ref ap, .int 0, .int 1, .int 0, .int 0, .int 0])), (rk, .inr (4, [.ref hd, .ref jm])), (hd, .inl (cI, 96, .inl (fun _ => 0))), (jm, .inl (cZ, 4, .inl (fun _ => 0))), (bs, .inl (cB, 2, .inr (.inr (.inr (.inr (va_up (va_up (fun _ => none) 0 (some b0)) 1 (some b1))))))), (b0, .inr (0, [.int 2, .int 0, .int 0, .int 0, .int 0, .int (-1)])), (b1, .inr (0, [.int 2, .int 0, .int 0, .int 0, .int 0, .int (-1)])), (od, .inr (2, [.ref o1, .ref o2, .ref o3, .int 0])), (jb, .inr (1, [.ref pl, .int (-1), .int 0, .int 0, .int 0]))]) [0, 1, 2, 3, 4, 5, 6, 7, 8] rfl
      have hDc := hD.sub (ws' := [(x, .inr (5, [.ref rk, .ref bs, .ref od, .ref jb, .ref ap, .int 0, .int 1, .int 0, .int 0, .int 0])), (rk, .inr (4, [.ref hd, .ref jm])), (hd, .inl (cI, 96, .inl (fun _ => 0))), (jm, .inl (cZ, 4, .inl (fun _ => 0))), (bs, .inl (cB, 2, .inr (.inr (.inr (.inr (va_up (va_up (fun _ => none) 0 (some b0)) 1 (some b1))))))), (b0, .inr (0, [.int 2, .int 0, .int 0, .int 0, .int 0, .int (-1)])), (b1, .inr (0, [.int 2, .int 0, .int 0, .int 0, .int 0, .int (-1)])), (od, .inr (2, [.ref o1, .ref o2, .ref o3, .int 0])), (jb, .inr (1, [.ref pl, .int (-1), .int 0, .int 0, .int 0]))]) [0, 1, 2, 3, 4, 5, 6, 7, 8] (by decide) rfl
      have hKc := hK.sub (tys' := [(cI, .int), (cZ, .boolean), (cB, .object "ParkTower$Bay")]) [0, 1, 2] rfl
      have hFc := va_free (wc := [(x, .inr (5, [.ref rk, .ref bs, .ref od, .ref jb, .ref ap, .int 0, .int 1, .int 0, .int 0, .int 0])), (rk, .inr (4, [.ref hd, .ref jm])), (hd, .inl (cI, 96, .inl (fun _ => 0))), (jm, .inl (cZ, 4, .inl (fun _ => 0))), (bs, .inl (cB, 2, .inr (.inr (.inr (.inr (va_up (va_up (fun _ => none) 0 (some b0)) 1 (some b1))))))), (b0, .inr (0, [.int 2, .int 0, .int 0, .int 0, .int 0, .int (-1)])), (b1, .inr (0, [.int 2, .int 0, .int 0, .int 0, .int 0, .int (-1)])), (od, .inr (2, [.ref o1, .ref o2, .ref o3, .int 0])), (jb, .inr (1, [.ref pl, .int (-1), .int 0, .int 0, .int 0]))]) hD hS hA [0, 1, 2, 3, 4, 5, 6, 7, 8] rfl
      refine va_callv (va_runV (As := [.int 1, .int 1]) (rest := []) ⟨hx, hb, hml, hown, hts⟩ (n_person11 l dC dI _ x rk hd jm bs b0 b1 od o1 o2 o3 jb pl ap cI cZ cB) (cwV 2 hts gL_person_X7_person rfl rfl rfl (by decide +kernel) ⟨Nat.le_of_ble_eq_true rfl, Nat.le_of_ble_eq_true rfl⟩) ⟨pt_blindQ, va_recv hK hP (ci := 5) (q0 := 0) rfl rfl, pt_preQ hPc hKc hDc hN⟩ rfl rfl hl.1 rfl (lv_room (Nat.le_of_ble_eq_true rfl)) dL_person_3 ⟨Nat.le_of_ble_eq_true rfl, Nat.le_of_ble_eq_true rfl⟩) hS (fun q _ h => hFc q h) hFc (fun u_4 t H1 locs ht hvm hw_4 hB hz1 hk1 hS => ?_)
      obtain ⟨hP1, hK1, hD1⟩ := hB
      rw [ht] at hP1
      have hK1 := va_K.moved hvm.symm hK1
      obtain ⟨hP, hD⟩ := va_join (wr := []) (w1 := []) hP hD [0, 1, 2, 3, 4, 5, 6, 7, 8] [] rfl rfl (by decide) (by decide) hk1 hFc hP1 hD1
      have hK := hK.app hK1
      generalize H1 = H at hP hS ⊢
      have hP : va_P (dC, dI) vwCl [] H := hP
      have hD : va_D A [] := hD
      have hK : va_K (dC, dI) vwCl [(cI, .int), (cZ, .boolean), (cB, .object "ParkTower$Bay")] s := hK
      refine lv_goto (tgt := 15) hx hb dL_person_6 (by decide) ?_
      refine lv_iconst (v := 0) hx hb dL_person_15 (by decide) ?_
      have hP9 := hP.sub (ws' := []) [] rfl
      have hD9 := hD.sub (ws' := []) [] (by decide) rfl
      have hK9 := hK.sub (tys' := []) [] rfl
      refine W.widen (k := 1) (n := 6) (by omega) (by omega) ?_
      exact W.iret (v := 0) hx hb hr (fun t ht hW => ⟨⟨0, (), rfl, (if_pos (by decide)).symm, by rw [ht]; exact hP9, va_K.moved hW.alike hK9, hD9⟩, hS.F ht⟩) hS.2.2 dL_person_16
  · skip
    refine lv_aload_n hx hb dL_person_0 rfl (lv_at hl 0 rfl) ?_
    refine lv_iload_n hx hb dL_person_1 rfl (lv_at hl 1 rfl) ?_
    refine lv_iload_n hx hb dL_person_2 rfl (lv_at hl 2 rfl) ?_
    have hPc := hP.sub (ws' := [(x, .inr (5, [.ref rk, .ref bs, .ref od, .ref jb, .ref ap, .int 0, .int 1, .int 0, .int 0, .int 0])), (rk, .inr (4, [.ref hd, .ref jm])), (hd, .inl (cI, 96, .inl (fun _ => 0))), (jm, .inl (cZ, 4, .inl (fun _ => 0))), (bs, .inl (cB, 2, .inr (.inr (.inr (.inr (va_up (va_up (fun _ => none) 0 (some b0)) 1 (some b1))))))), (b0, .inr (0, [.int 2, .int 0, .int 0, .int 0, .int 0, .int (-1)])), (b1, .inr (0, [.int 2, .int 0, .int 0, .int 0, .int 0, .int (-1)])), (od, .inr (2, [.ref o1, .ref o2, .ref o3, .int 0])), (jb, .inr (1, [.ref pl, .int (-1), .int 0, .int 0, .int 0]))]) [0, 1, 2, 3, 4, 5, 6, 7, 8] rfl
    have hDc := hD.sub (ws' := [(x, .inr (5, [.ref rk, .ref bs, .ref od, .ref jb, .ref ap, .int 0, .int 1, .int 0, .int 0, .int 0])), (rk, .inr (4, [.ref hd, .ref jm])), (hd, .inl (cI, 96, .inl (fun _ => 0))), (jm, .inl (cZ, 4, .inl (fun _ => 0))), (bs, .inl (cB, 2, .inr (.inr (.inr (.inr (va_up (va_up (fun _ => none) 0 (some b0)) 1 (some b1))))))), (b0, .inr (0, [.int 2, .int 0, .int 0, .int 0, .int 0, .int (-1)])), (b1, .inr (0, [.int 2, .int 0, .int 0, .int 0, .int 0, .int (-1)])), (od, .inr (2, [.ref o1, .ref o2, .ref o3, .int 0])), (jb, .inr (1, [.ref pl, .int (-1), .int 0, .int 0, .int 0]))]) [0, 1, 2, 3, 4, 5, 6, 7, 8] (by decide) rfl
    have hKc := hK.sub (tys' := [(cI, .int), (cZ, .boolean), (cB, .object "ParkTower$Bay")]) [0, 1, 2] rfl
    refine vx_callv (vx_runV (As := [.int b, .int on]) (rest := []) ⟨hx, hb, hml, hown, hts⟩ (t_person l hlt dC dI _ x rk hd jm bs b0 b1 od o1 o2 o3 jb pl ap cI cZ cB b on hok) (cwV 2 hts gL_person_X7_person rfl rfl rfl (by decide +kernel) ⟨Nat.le_of_ble_eq_true rfl, Nat.le_of_ble_eq_true rfl⟩) ⟨pt_blindT, va_recv hK hP (ci := 5) (q0 := 0) rfl rfl, pt_preT hPc hKc hDc hN hE hZ⟩ rfl rfl hl.1 rfl (lv_room (Nat.le_of_ble_eq_true rfl)) dL_person_3 ⟨Nat.le_of_ble_eq_true rfl, Nat.le_of_ble_eq_true rfl⟩) hS (fun q h1 h2 => absurd h1 (Nat.not_lt.mpr h2)) (fun q h => hA q h) (fun q h1 h2 => absurd h1 (Nat.not_lt.mpr h2)) (fun E ce q9 u t H1 locs ht hvm hp hEE hz1 hk1 hS hce hcv hcl => ?_) (fun u t H1 locs ht hvm hw hB hz1 hk1 hS => hw.elim)
    subst hEE
    have hP := pt_stay hP hk1
    generalize H1 = H at hP hS hce ⊢
    have hP : va_P (dC, dI) vwCl [(x, .inr (5, [.ref rk, .ref bs, .ref od, .ref jb, .ref ap, .int 0, .int 1, .int 0, .int 0, .int 0])), (rk, .inr (4, [.ref hd, .ref jm])), (hd, .inl (cI, 96, .inl (fun _ => 0))), (jm, .inl (cZ, 4, .inl (fun _ => 0))), (bs, .inl (cB, 2, .inr (.inr (.inr (.inr (va_up (va_up (fun _ => none) 0 (some b0)) 1 (some b1))))))), (b0, .inr (0, [.int 2, .int 0, .int 0, .int 0, .int 0, .int (-1)])), (b1, .inr (0, [.int 2, .int 0, .int 0, .int 0, .int 0, .int (-1)])), (od, .inr (2, [.ref o1, .ref o2, .ref o3, .int 0])), (jb, .inr (1, [.ref pl, .int (-1), .int 0, .int 0, .int 0]))] H := hP
    have hD : va_D A [(x, .inr (5, [.ref rk, .ref bs, .ref od, .ref jb, .ref ap, .int 0, .int 1, .int 0, .int 0, .int 0])), (rk, .inr (4, [.ref hd, .ref jm])), (hd, .inl (cI, 96, .inl (fun _ => 0))), (jm, .inl (cZ, 4, .inl (fun _ => 0))), (bs, .inl (cB, 2, .inr (.inr (.inr (.inr (va_up (va_up (fun _ => none) 0 (some b0)) 1 (some b1))))))), (b0, .inr (0, [.int 2, .int 0, .int 0, .int 0, .int 0, .int (-1)])), (b1, .inr (0, [.int 2, .int 0, .int 0, .int 0, .int 0, .int (-1)])), (od, .inr (2, [.ref o1, .ref o2, .ref o3, .int 0])), (jb, .inr (1, [.ref pl, .int (-1), .int 0, .int 0, .int 0]))] := hD
    refine vx_catch (name := "java/lang/IllegalArgumentException") hown [] ⟨0, 6, 9, 13⟩ [⟨0, 6, 12, 19⟩] (by rw [htab]; rfl) (fun z hz => by cases hz) (by decide) (by decide) (hts (.classLink RL 13 "java/lang/IllegalArgumentException") (by decide +kernel)) (va_Nw.use rfl (hE.1 (.castable "java/lang/IllegalArgumentException" "java/lang/IllegalArgumentException") (by decide +kernel))) hce hcv hcl ?_
    refine W.widen (k := 1) (n := 6) (by omega) (by omega) ?_
    refine lv_astore_n (lv' := [(3, .ref q9), (0, .ref x), (1, .int b), (2, .int on)]) hx hb dL_person_9 rfl hl (by decide) rfl (fun ls hl => ?_)
    refine lv_iconst (v := 1) hx hb dL_person_10 (by decide) ?_
    have hP9 := hP.sub (ws' := []) [] rfl
    have hD9 := hD.sub (ws' := []) [] (by decide) rfl
    have hK9 := hK.sub (tys' := []) [] rfl
    refine W.widen (k := 1) (n := 6) (by omega) (by omega) ?_
    exact W.iret (v := 1) hx hb hr (fun t ht hW => ⟨⟨1, (), rfl, (if_neg hok).symm, by rw [ht]; exact hP9, va_K.moved hW.alike hK9, hD9⟩, hS.F ht⟩) hS.2.2 dL_person_11
set_option maxHeartbeats 4000000 in
set_option maxRecDepth 100000 in
theorem w_gone (l : Launch) (hlt : l.stackTraces = false) (dC : Nat → ClassId) (dI : Nat → Nat → Nat) (sz : Nat) (x rk hd jm bs b0 b1 od o1 o2 o3 jb pl ap : Nat) (cI cZ cB : ClassId) (ot : Nat) (cL : ClassId) (f : Nat → Int64) (b : Int32) : Met l yL_gone wsL_gone ({ frames := 7, cells := 1, slots := 6, locals := 112 }) (va_Pc [.ref x, .int b, .ref ot] (pt_BT (dC, dI) [(x, .inr (5, [.ref rk, .ref bs, .ref od, .ref jb, .ref ap, .int 0, .int 1, .int 0, .int 0, .int 0])), (rk, .inr (4, [.ref hd, .ref jm])), (hd, .inl (cI, 96, .inl (fun _ => 0))), (jm, .inl (cZ, 4, .inl (fun _ => 0))), (bs, .inl (cB, 2, .inr (.inr (.inr (.inr (va_up (va_up (fun _ => none) 0 (some b0)) 1 (some b1))))))), (b0, .inr (0, [.int 2, .int 0, .int 0, .int 0, .int 0, .int (-1)])), (b1, .inr (0, [.int 2, .int 0, .int 0, .int 0, .int 0, .int (-1)])), (od, .inr (2, [.ref o1, .ref o2, .ref o3, .int 0])), (jb, .inr (1, [.ref pl, .int (-1), .int 0, .int 0, .int 0])), (ot, .inl (cL, 1, .inr (.inl f)))] [(cI, .int), (cZ, .boolean), (cB, .object "ParkTower$Bay"), (cL, .long)] sz)) (va_Qi (fun (r : Int32) (g : Nat → Int64) => r = (if b = 0 ∨ b = 1 then 2 else 1) ∧ (r = 0 → g 0 = (0 : Int32).toInt64)) (fun g t => pt_at (dC, dI) (va_A [(x, .inr (5, [.ref rk, .ref bs, .ref od, .ref jb, .ref ap, .int 0, .int 1, .int 0, .int 0, .int 0])), (rk, .inr (4, [.ref hd, .ref jm])), (hd, .inl (cI, 96, .inl (fun _ => 0))), (jm, .inl (cZ, 4, .inl (fun _ => 0))), (bs, .inl (cB, 2, .inr (.inr (.inr (.inr (va_up (va_up (fun _ => none) 0 (some b0)) 1 (some b1))))))), (b0, .inr (0, [.int 2, .int 0, .int 0, .int 0, .int 0, .int (-1)])), (b1, .inr (0, [.int 2, .int 0, .int 0, .int 0, .int 0, .int (-1)])), (od, .inr (2, [.ref o1, .ref o2, .ref o3, .int 0])), (jb, .inr (1, [.ref pl, .int (-1), .int 0, .int 0, .int 0])), (ot, .inl (cL, 1, .inr (.inl f)))] sz) [(ot, .inl (cL, 1, .inr (.inl g)))] [] t) (va_A [(x, .inr (5, [.ref rk, .ref bs, .ref od, .ref jb, .ref ap, .int 0, .int 1, .int 0, .int 0, .int 0])), (rk, .inr (4, [.ref hd, .ref jm])), (hd, .inl (cI, 96, .inl (fun _ => 0))), (jm, .inl (cZ, 4, .inl (fun _ => 0))), (bs, .inl (cB, 2, .inr (.inr (.inr (.inr (va_up (va_up (fun _ => none) 0 (some b0)) 1 (some b1))))))), (b0, .inr (0, [.int 2, .int 0, .int 0, .int 0, .int 0, .int (-1)])), (b1, .inr (0, [.int 2, .int 0, .int 0, .int 0, .int 0, .int (-1)])), (od, .inr (2, [.ref o1, .ref o2, .ref o3, .int 0])), (jb, .inr (1, [.ref pl, .int (-1), .int 0, .int 0, .int 0])), (ot, .inl (cL, 1, .inr (.inl f)))] sz)) 1 6 (va_A [(x, .inr (5, [.ref rk, .ref bs, .ref od, .ref jb, .ref ap, .int 0, .int 1, .int 0, .int 0, .int 0])), (rk, .inr (4, [.ref hd, .ref jm])), (hd, .inl (cI, 96, .inl (fun _ => 0))), (jm, .inl (cZ, 4, .inl (fun _ => 0))), (bs, .inl (cB, 2, .inr (.inr (.inr (.inr (va_up (va_up (fun _ => none) 0 (some b0)) 1 (some b1))))))), (b0, .inr (0, [.int 2, .int 0, .int 0, .int 0, .int 0, .int (-1)])), (b1, .inr (0, [.int 2, .int 0, .int 0, .int 0, .int 0, .int (-1)])), (od, .inr (2, [.ref o1, .ref o2, .ref o3, .int 0])), (jb, .inr (1, [.ref pl, .int (-1), .int 0, .int 0, .int 0])), (ot, .inl (cL, 1, .inr (.inl f)))] sz) := by
  refine va_MetW (cc := cL_gone) (maxL := 4) (ret := some .int) (hh := [(0, 9, 12, 13), (0, 9, 15, 19)]) (by decide) rfl ?_
  intro p e s m args below meth c s₁ B hml hv
  obtain ⟨rfl, hsz, hP, hK, hD0, hN, hE, hZ⟩ := hv
  have hx := B.exec
  have hb := B.bytes
  have hr := B.returns
  have hts := atoms_spec (ws := wsL_gone) B.pre
  have hown : s.vm.findClass RL = some m.cls := findClass_of_methodNamed B.named
  have hlocks := B.notSynchronized
  have htab := vx_table (x := yL_gone) B (hts (.codeWith yL_gone cL_gone 4 (some .int) [(0, 9, 12, 13), (0, 9, 15, 19)]) List.mem_cons_self)
  subst hsz
  have hD := hD0.self (sz := s.heap.size)
  generalize hAe : va_A [(x, .inr (5, [.ref rk, .ref bs, .ref od, .ref jb, .ref ap, .int 0, .int 1, .int 0, .int 0, .int 0])), (rk, .inr (4, [.ref hd, .ref jm])), (hd, .inl (cI, 96, .inl (fun _ => 0))), (jm, .inl (cZ, 4, .inl (fun _ => 0))), (bs, .inl (cB, 2, .inr (.inr (.inr (.inr (va_up (va_up (fun _ => none) 0 (some b0)) 1 (some b1))))))), (b0, .inr (0, [.int 2, .int 0, .int 0, .int 0, .int 0, .int (-1)])), (b1, .inr (0, [.int 2, .int 0, .int 0, .int 0, .int 0, .int (-1)])), (od, .inr (2, [.ref o1, .ref o2, .ref o3, .int 0])), (jb, .inr (1, [.ref pl, .int (-1), .int 0, .int 0, .int 0])), (ot, .inl (cL, 1, .inr (.inl f)))] s.heap.size = A at hD ⊢
  have hA : ∀ q : Nat, s.heap.size ≤ q → A q := fun q h => by rw [← hAe]; exact Or.inr h
  have hS : va_S A s.heap s.heap [] := va_S.rf
  have hP : va_P (dC, dI) vwCl [(x, .inr (5, [.ref rk, .ref bs, .ref od, .ref jb, .ref ap, .int 0, .int 1, .int 0, .int 0, .int 0])), (rk, .inr (4, [.ref hd, .ref jm])), (hd, .inl (cI, 96, .inl (fun _ => 0))), (jm, .inl (cZ, 4, .inl (fun _ => 0))), (bs, .inl (cB, 2, .inr (.inr (.inr (.inr (va_up (va_up (fun _ => none) 0 (some b0)) 1 (some b1))))))), (b0, .inr (0, [.int 2, .int 0, .int 0, .int 0, .int 0, .int (-1)])), (b1, .inr (0, [.int 2, .int 0, .int 0, .int 0, .int 0, .int (-1)])), (od, .inr (2, [.ref o1, .ref o2, .ref o3, .int 0])), (jb, .inr (1, [.ref pl, .int (-1), .int 0, .int 0, .int 0])), (ot, .inl (cL, 1, .inr (.inl f)))] s.heap := hP
  have hK : va_K (dC, dI) vwCl [(cI, .int), (cZ, .boolean), (cB, .object "ParkTower$Bay"), (cL, .long)] s := hK
  have hl := lv_entry ([.ref x, .int b, .ref ot]) (n := 4) (Nat.le_of_ble_eq_true rfl)
  rw [lg_entry_eq]
  generalize (lg_sl ([.ref x, .int b, .ref ot]) ++ List.replicate (4 - (lg_sl ([.ref x, .int b, .ref ot])).length) Slot.unset).toArray = ls at hl ⊢
  have hl : lv_has ls 4 [(0, .ref x), (1, .int b), (2, .ref ot)] := hl
  by_cases hok : b = 0 ∨ b = 1
  · rcases hok with rfl | rfl
    · skip
      refine lv_aload_n hx hb dL_gone_0 rfl (lv_at hl 2 rfl) ?_
      refine lv_iconst (v := 0) hx hb dL_gone_1 (by decide) ?_
      refine lv_aload_n hx hb dL_gone_2 rfl (lv_at hl 0 rfl) ?_
      refine lv_iload_n hx hb dL_gone_3 rfl (lv_at hl 1 rfl) ?_
      have hPc := hP.sub (ws' := [(x, .inr (5, [.ref rk, .ref bs, .ref od, .ref jb, .ref ap, .int 0, .int 1, .int 0, .int 0, .int 0])), (rk, .inr (4, [.ref hd, .ref jm])), (hd, .inl (cI, 96, .inl (fun _ => 0))), (jm, .inl (cZ, 4, .inl (fun _ => 0))), (bs, .inl (cB, 2, .inr (.inr (.inr (.inr (va_up (va_up (fun _ => none) 0 (some b0)) 1 (some b1))))))), (b0, .inr (0, [.int 2, .int 0, .int 0, .int 0, .int 0, .int (-1)])), (b1, .inr (0, [.int 2, .int 0, .int 0, .int 0, .int 0, .int (-1)])), (od, .inr (2, [.ref o1, .ref o2, .ref o3, .int 0])), (jb, .inr (1, [.ref pl, .int (-1), .int 0, .int 0, .int 0]))]) [0, 1, 2, 3, 4, 5, 6, 7, 8] rfl
      have hDc := hD.sub (ws' := [(x, .inr (5, [.ref rk, .ref bs, .ref od, .ref jb, .ref ap, .int 0, .int 1, .int 0, .int 0, .int 0])), (rk, .inr (4, [.ref hd, .ref jm])), (hd, .inl (cI, 96, .inl (fun _ => 0))), (jm, .inl (cZ, 4, .inl (fun _ => 0))), (bs, .inl (cB, 2, .inr (.inr (.inr (.inr (va_up (va_up (fun _ => none) 0 (some b0)) 1 (some b1))))))), (b0, .inr (0, [.int 2, .int 0, .int 0, .int 0, .int 0, .int (-1)])), (b1, .inr (0, [.int 2, .int 0, .int 0, .int 0, .int 0, .int (-1)])), (od, .inr (2, [.ref o1, .ref o2, .ref o3, .int 0])), (jb, .inr (1, [.ref pl, .int (-1), .int 0, .int 0, .int 0]))]) [0, 1, 2, 3, 4, 5, 6, 7, 8] (by decide) rfl
      have hKc := hK.sub (tys' := [(cI, .int), (cZ, .boolean), (cB, .object "ParkTower$Bay")]) [0, 1, 2] rfl
      refine vx_calli (vx_runV (As := [.int 0]) (rest := [.int 0, .ref ot]) ⟨hx, hb, hml, hown, hts⟩ (t_gone0 l hlt dC dI _ x rk hd jm bs b0 b1 od o1 o2 o3 jb pl ap cI cZ cB) (cwV 1 hts gL_gone_X7_gone rfl rfl rfl (by decide +kernel) ⟨Nat.le_of_ble_eq_true rfl, Nat.le_of_ble_eq_true rfl⟩) ⟨pt_blindT, va_recv hK hP (ci := 5) (q0 := 0) rfl rfl, pt_preT hPc hKc hDc hN hE hZ⟩ rfl rfl hl.1 rfl (lv_room (Nat.le_of_ble_eq_true rfl)) dL_gone_4 ⟨Nat.le_of_ble_eq_true rfl, Nat.le_of_ble_eq_true rfl⟩) hS (fun q h1 h2 => absurd h1 (Nat.not_lt.mpr h2)) (fun q h => hA q h) (fun q h1 h2 => absurd h1 (Nat.not_lt.mpr h2)) (fun E ce q9 u t H1 locs ht hvm hp hEE hz1 hk1 hS hce hcv hcl => ?_) (fun r u t H1 locs ht hvm hw hB hz1 hk1 hS => hw.elim)
      subst hEE
      have hP := pt_stay hP hk1
      generalize H1 = H at hP hS hce ⊢
      have hP : va_P (dC, dI) vwCl [(x, .inr (5, [.ref rk, .ref bs, .ref od, .ref jb, .ref ap, .int 0, .int 1, .int 0, .int 0, .int 0])), (rk, .inr (4, [.ref hd, .ref jm])), (hd, .inl (cI, 96, .inl (fun _ => 0))), (jm, .inl (cZ, 4, .inl (fun _ => 0))), (bs, .inl (cB, 2, .inr (.inr (.inr (.inr (va_up (va_up (fun _ => none) 0 (some b0)) 1 (some b1))))))), (b0, .inr (0, [.int 2, .int 0, .int 0, .int 0, .int 0, .int (-1)])), (b1, .inr (0, [.int 2, .int 0, .int 0, .int 0, .int 0, .int (-1)])), (od, .inr (2, [.ref o1, .ref o2, .ref o3, .int 0])), (jb, .inr (1, [.ref pl, .int (-1), .int 0, .int 0, .int 0])), (ot, .inl (cL, 1, .inr (.inl f)))] H := hP
      have hD : va_D A [(x, .inr (5, [.ref rk, .ref bs, .ref od, .ref jb, .ref ap, .int 0, .int 1, .int 0, .int 0, .int 0])), (rk, .inr (4, [.ref hd, .ref jm])), (hd, .inl (cI, 96, .inl (fun _ => 0))), (jm, .inl (cZ, 4, .inl (fun _ => 0))), (bs, .inl (cB, 2, .inr (.inr (.inr (.inr (va_up (va_up (fun _ => none) 0 (some b0)) 1 (some b1))))))), (b0, .inr (0, [.int 2, .int 0, .int 0, .int 0, .int 0, .int (-1)])), (b1, .inr (0, [.int 2, .int 0, .int 0, .int 0, .int 0, .int (-1)])), (od, .inr (2, [.ref o1, .ref o2, .ref o3, .int 0])), (jb, .inr (1, [.ref pl, .int (-1), .int 0, .int 0, .int 0])), (ot, .inl (cL, 1, .inr (.inl f)))] := hD
      refine vx_catch (name := "java/lang/IllegalStateException") hown [⟨0, 9, 12, 13⟩] ⟨0, 9, 15, 19⟩ [] (by rw [htab]; rfl) (fun z hz => by cases List.mem_singleton.mp hz; exact Or.inr ⟨by decide, "java/lang/IllegalArgumentException", hts (.classLink RL 13 "java/lang/IllegalArgumentException") (by decide +kernel), hE.2⟩) (by decide) (by decide) (hts (.classLink RL 19 "java/lang/IllegalStateException") (by decide +kernel)) (va_Nw.use rfl (hE.1 (.castable "java/lang/IllegalStateException" "java/lang/IllegalStateException") (by decide +kernel))) hce hcv hcl ?_
      refine W.widen (k := 1) (n := 6) (by omega) (by omega) ?_
      refine lv_astore_n (lv' := [(3, .ref q9), (0, .ref x), (1, .int 0), (2, .ref ot)]) hx hb dL_gone_15 rfl hl (by decide) rfl (fun ls hl => ?_)
      refine lv_iconst (v := 2) hx hb dL_gone_16 (by decide) ?_
      have hP9 := hP.sub (ws' := [(ot, .inl (cL, 1, .inr (.inl f)))]) [9] rfl
      have hD9 := hD.sub (ws' := [(ot, .inl (cL, 1, .inr (.inl f)))]) [9] (by decide) rfl
      have hK9 := hK.sub (tys' := []) [] rfl
      refine W.widen (k := 1) (n := 6) (by omega) (by omega) ?_
      exact W.iret (v := 2) hx hb hr (fun t ht hW => ⟨⟨2, f, rfl, ⟨(if_pos (by decide)).symm, fun z => absurd z (by decide)⟩, by rw [ht]; exact hP9, va_K.moved hW.alike hK9, hD9⟩, hS.F ht⟩) hS.2.2 dL_gone_17
    · skip
      refine lv_aload_n hx hb dL_gone_0 rfl (lv_at hl 2 rfl) ?_
      refine lv_iconst (v := 0) hx hb dL_gone_1 (by decide) ?_
      refine lv_aload_n hx hb dL_gone_2 rfl (lv_at hl 0 rfl) ?_
      refine lv_iload_n hx hb dL_gone_3 rfl (lv_at hl 1 rfl) ?_
      have hPc := hP.sub (ws' := [(x, .inr (5, [.ref rk, .ref bs, .ref od, .ref jb, .ref ap, .int 0, .int 1, .int 0, .int 0, .int 0])), (rk, .inr (4, [.ref hd, .ref jm])), (hd, .inl (cI, 96, .inl (fun _ => 0))), (jm, .inl (cZ, 4, .inl (fun _ => 0))), (bs, .inl (cB, 2, .inr (.inr (.inr (.inr (va_up (va_up (fun _ => none) 0 (some b0)) 1 (some b1))))))), (b0, .inr (0, [.int 2, .int 0, .int 0, .int 0, .int 0, .int (-1)])), (b1, .inr (0, [.int 2, .int 0, .int 0, .int 0, .int 0, .int (-1)])), (od, .inr (2, [.ref o1, .ref o2, .ref o3, .int 0])), (jb, .inr (1, [.ref pl, .int (-1), .int 0, .int 0, .int 0]))]) [0, 1, 2, 3, 4, 5, 6, 7, 8] rfl
      have hDc := hD.sub (ws' := [(x, .inr (5, [.ref rk, .ref bs, .ref od, .ref jb, .ref ap, .int 0, .int 1, .int 0, .int 0, .int 0])), (rk, .inr (4, [.ref hd, .ref jm])), (hd, .inl (cI, 96, .inl (fun _ => 0))), (jm, .inl (cZ, 4, .inl (fun _ => 0))), (bs, .inl (cB, 2, .inr (.inr (.inr (.inr (va_up (va_up (fun _ => none) 0 (some b0)) 1 (some b1))))))), (b0, .inr (0, [.int 2, .int 0, .int 0, .int 0, .int 0, .int (-1)])), (b1, .inr (0, [.int 2, .int 0, .int 0, .int 0, .int 0, .int (-1)])), (od, .inr (2, [.ref o1, .ref o2, .ref o3, .int 0])), (jb, .inr (1, [.ref pl, .int (-1), .int 0, .int 0, .int 0]))]) [0, 1, 2, 3, 4, 5, 6, 7, 8] (by decide) rfl
      have hKc := hK.sub (tys' := [(cI, .int), (cZ, .boolean), (cB, .object "ParkTower$Bay")]) [0, 1, 2] rfl
      refine vx_calli (vx_runV (As := [.int 1]) (rest := [.int 0, .ref ot]) ⟨hx, hb, hml, hown, hts⟩ (t_gone1 l hlt dC dI _ x rk hd jm bs b0 b1 od o1 o2 o3 jb pl ap cI cZ cB) (cwV 1 hts gL_gone_X7_gone rfl rfl rfl (by decide +kernel) ⟨Nat.le_of_ble_eq_true rfl, Nat.le_of_ble_eq_true rfl⟩) ⟨pt_blindT, va_recv hK hP (ci := 5) (q0 := 0) rfl rfl, pt_preT hPc hKc hDc hN hE hZ⟩ rfl rfl hl.1 rfl (lv_room (Nat.le_of_ble_eq_true rfl)) dL_gone_4 ⟨Nat.le_of_ble_eq_true rfl, Nat.le_of_ble_eq_true rfl⟩) hS (fun q h1 h2 => absurd h1 (Nat.not_lt.mpr h2)) (fun q h => hA q h) (fun q h1 h2 => absurd h1 (Nat.not_lt.mpr h2)) (fun E ce q9 u t H1 locs ht hvm hp hEE hz1 hk1 hS hce hcv hcl => ?_) (fun r u t H1 locs ht hvm hw hB hz1 hk1 hS => hw.elim)
      subst hEE
      have hP := pt_stay hP hk1
      generalize H1 = H at hP hS hce ⊢
      have hP : va_P (dC, dI) vwCl [(x, .inr (5, [.ref rk, .ref bs, .ref od, .ref jb, .ref ap, .int 0, .int 1, .int 0, .int 0, .int 0])), (rk, .inr (4, [.ref hd, .ref jm])), (hd, .inl (cI, 96, .inl (fun _ => 0))), (jm, .inl (cZ, 4, .inl (fun _ => 0))), (bs, .inl (cB, 2, .inr (.inr (.inr (.inr (va_up (va_up (fun _ => none) 0 (some b0)) 1 (some b1))))))), (b0, .inr (0, [.int 2, .int 0, .int 0, .int 0, .int 0, .int (-1)])), (b1, .inr (0, [.int 2, .int 0, .int 0, .int 0, .int 0, .int (-1)])), (od, .inr (2, [.ref o1, .ref o2, .ref o3, .int 0])), (jb, .inr (1, [.ref pl, .int (-1), .int 0, .int 0, .int 0])), (ot, .inl (cL, 1, .inr (.inl f)))] H := hP
      have hD : va_D A [(x, .inr (5, [.ref rk, .ref bs, .ref od, .ref jb, .ref ap, .int 0, .int 1, .int 0, .int 0, .int 0])), (rk, .inr (4, [.ref hd, .ref jm])), (hd, .inl (cI, 96, .inl (fun _ => 0))), (jm, .inl (cZ, 4, .inl (fun _ => 0))), (bs, .inl (cB, 2, .inr (.inr (.inr (.inr (va_up (va_up (fun _ => none) 0 (some b0)) 1 (some b1))))))), (b0, .inr (0, [.int 2, .int 0, .int 0, .int 0, .int 0, .int (-1)])), (b1, .inr (0, [.int 2, .int 0, .int 0, .int 0, .int 0, .int (-1)])), (od, .inr (2, [.ref o1, .ref o2, .ref o3, .int 0])), (jb, .inr (1, [.ref pl, .int (-1), .int 0, .int 0, .int 0])), (ot, .inl (cL, 1, .inr (.inl f)))] := hD
      refine vx_catch (name := "java/lang/IllegalStateException") hown [⟨0, 9, 12, 13⟩] ⟨0, 9, 15, 19⟩ [] (by rw [htab]; rfl) (fun z hz => by cases List.mem_singleton.mp hz; exact Or.inr ⟨by decide, "java/lang/IllegalArgumentException", hts (.classLink RL 13 "java/lang/IllegalArgumentException") (by decide +kernel), hE.2⟩) (by decide) (by decide) (hts (.classLink RL 19 "java/lang/IllegalStateException") (by decide +kernel)) (va_Nw.use rfl (hE.1 (.castable "java/lang/IllegalStateException" "java/lang/IllegalStateException") (by decide +kernel))) hce hcv hcl ?_
      refine W.widen (k := 1) (n := 6) (by omega) (by omega) ?_
      refine lv_astore_n (lv' := [(3, .ref q9), (0, .ref x), (1, .int 1), (2, .ref ot)]) hx hb dL_gone_15 rfl hl (by decide) rfl (fun ls hl => ?_)
      refine lv_iconst (v := 2) hx hb dL_gone_16 (by decide) ?_
      have hP9 := hP.sub (ws' := [(ot, .inl (cL, 1, .inr (.inl f)))]) [9] rfl
      have hD9 := hD.sub (ws' := [(ot, .inl (cL, 1, .inr (.inl f)))]) [9] (by decide) rfl
      have hK9 := hK.sub (tys' := []) [] rfl
      refine W.widen (k := 1) (n := 6) (by omega) (by omega) ?_
      exact W.iret (v := 2) hx hb hr (fun t ht hW => ⟨⟨2, f, rfl, ⟨(if_pos (by decide)).symm, fun z => absurd z (by decide)⟩, by rw [ht]; exact hP9, va_K.moved hW.alike hK9, hD9⟩, hS.F ht⟩) hS.2.2 dL_gone_17
  · skip
    refine lv_aload_n hx hb dL_gone_0 rfl (lv_at hl 2 rfl) ?_
    refine lv_iconst (v := 0) hx hb dL_gone_1 (by decide) ?_
    refine lv_aload_n hx hb dL_gone_2 rfl (lv_at hl 0 rfl) ?_
    refine lv_iload_n hx hb dL_gone_3 rfl (lv_at hl 1 rfl) ?_
    have hPc := hP.sub (ws' := [(x, .inr (5, [.ref rk, .ref bs, .ref od, .ref jb, .ref ap, .int 0, .int 1, .int 0, .int 0, .int 0])), (rk, .inr (4, [.ref hd, .ref jm])), (hd, .inl (cI, 96, .inl (fun _ => 0))), (jm, .inl (cZ, 4, .inl (fun _ => 0))), (bs, .inl (cB, 2, .inr (.inr (.inr (.inr (va_up (va_up (fun _ => none) 0 (some b0)) 1 (some b1))))))), (b0, .inr (0, [.int 2, .int 0, .int 0, .int 0, .int 0, .int (-1)])), (b1, .inr (0, [.int 2, .int 0, .int 0, .int 0, .int 0, .int (-1)])), (od, .inr (2, [.ref o1, .ref o2, .ref o3, .int 0])), (jb, .inr (1, [.ref pl, .int (-1), .int 0, .int 0, .int 0]))]) [0, 1, 2, 3, 4, 5, 6, 7, 8] rfl
    have hDc := hD.sub (ws' := [(x, .inr (5, [.ref rk, .ref bs, .ref od, .ref jb, .ref ap, .int 0, .int 1, .int 0, .int 0, .int 0])), (rk, .inr (4, [.ref hd, .ref jm])), (hd, .inl (cI, 96, .inl (fun _ => 0))), (jm, .inl (cZ, 4, .inl (fun _ => 0))), (bs, .inl (cB, 2, .inr (.inr (.inr (.inr (va_up (va_up (fun _ => none) 0 (some b0)) 1 (some b1))))))), (b0, .inr (0, [.int 2, .int 0, .int 0, .int 0, .int 0, .int (-1)])), (b1, .inr (0, [.int 2, .int 0, .int 0, .int 0, .int 0, .int (-1)])), (od, .inr (2, [.ref o1, .ref o2, .ref o3, .int 0])), (jb, .inr (1, [.ref pl, .int (-1), .int 0, .int 0, .int 0]))]) [0, 1, 2, 3, 4, 5, 6, 7, 8] (by decide) rfl
    have hKc := hK.sub (tys' := [(cI, .int), (cZ, .boolean), (cB, .object "ParkTower$Bay")]) [0, 1, 2] rfl
    refine vx_calli (vx_runV (As := [.int b]) (rest := [.int 0, .ref ot]) ⟨hx, hb, hml, hown, hts⟩ (t_gone l hlt dC dI _ x rk hd jm bs b0 b1 od o1 o2 o3 jb pl ap cI cZ cB b hok) (cwV 1 hts gL_gone_X7_gone rfl rfl rfl (by decide +kernel) ⟨Nat.le_of_ble_eq_true rfl, Nat.le_of_ble_eq_true rfl⟩) ⟨pt_blindT, va_recv hK hP (ci := 5) (q0 := 0) rfl rfl, pt_preT hPc hKc hDc hN hE hZ⟩ rfl rfl hl.1 rfl (lv_room (Nat.le_of_ble_eq_true rfl)) dL_gone_4 ⟨Nat.le_of_ble_eq_true rfl, Nat.le_of_ble_eq_true rfl⟩) hS (fun q h1 h2 => absurd h1 (Nat.not_lt.mpr h2)) (fun q h => hA q h) (fun q h1 h2 => absurd h1 (Nat.not_lt.mpr h2)) (fun E ce q9 u t H1 locs ht hvm hp hEE hz1 hk1 hS hce hcv hcl => ?_) (fun r u t H1 locs ht hvm hw hB hz1 hk1 hS => hw.elim)
    subst hEE
    have hP := pt_stay hP hk1
    generalize H1 = H at hP hS hce ⊢
    have hP : va_P (dC, dI) vwCl [(x, .inr (5, [.ref rk, .ref bs, .ref od, .ref jb, .ref ap, .int 0, .int 1, .int 0, .int 0, .int 0])), (rk, .inr (4, [.ref hd, .ref jm])), (hd, .inl (cI, 96, .inl (fun _ => 0))), (jm, .inl (cZ, 4, .inl (fun _ => 0))), (bs, .inl (cB, 2, .inr (.inr (.inr (.inr (va_up (va_up (fun _ => none) 0 (some b0)) 1 (some b1))))))), (b0, .inr (0, [.int 2, .int 0, .int 0, .int 0, .int 0, .int (-1)])), (b1, .inr (0, [.int 2, .int 0, .int 0, .int 0, .int 0, .int (-1)])), (od, .inr (2, [.ref o1, .ref o2, .ref o3, .int 0])), (jb, .inr (1, [.ref pl, .int (-1), .int 0, .int 0, .int 0])), (ot, .inl (cL, 1, .inr (.inl f)))] H := hP
    have hD : va_D A [(x, .inr (5, [.ref rk, .ref bs, .ref od, .ref jb, .ref ap, .int 0, .int 1, .int 0, .int 0, .int 0])), (rk, .inr (4, [.ref hd, .ref jm])), (hd, .inl (cI, 96, .inl (fun _ => 0))), (jm, .inl (cZ, 4, .inl (fun _ => 0))), (bs, .inl (cB, 2, .inr (.inr (.inr (.inr (va_up (va_up (fun _ => none) 0 (some b0)) 1 (some b1))))))), (b0, .inr (0, [.int 2, .int 0, .int 0, .int 0, .int 0, .int (-1)])), (b1, .inr (0, [.int 2, .int 0, .int 0, .int 0, .int 0, .int (-1)])), (od, .inr (2, [.ref o1, .ref o2, .ref o3, .int 0])), (jb, .inr (1, [.ref pl, .int (-1), .int 0, .int 0, .int 0])), (ot, .inl (cL, 1, .inr (.inl f)))] := hD
    refine vx_catch (name := "java/lang/IllegalArgumentException") hown [] ⟨0, 9, 12, 13⟩ [⟨0, 9, 15, 19⟩] (by rw [htab]; rfl) (fun z hz => by cases hz) (by decide) (by decide) (hts (.classLink RL 13 "java/lang/IllegalArgumentException") (by decide +kernel)) (va_Nw.use rfl (hE.1 (.castable "java/lang/IllegalArgumentException" "java/lang/IllegalArgumentException") (by decide +kernel))) hce hcv hcl ?_
    refine W.widen (k := 1) (n := 6) (by omega) (by omega) ?_
    refine lv_astore_n (lv' := [(3, .ref q9), (0, .ref x), (1, .int b), (2, .ref ot)]) hx hb dL_gone_12 rfl hl (by decide) rfl (fun ls hl => ?_)
    refine lv_iconst (v := 1) hx hb dL_gone_13 (by decide) ?_
    have hP9 := hP.sub (ws' := [(ot, .inl (cL, 1, .inr (.inl f)))]) [9] rfl
    have hD9 := hD.sub (ws' := [(ot, .inl (cL, 1, .inr (.inl f)))]) [9] (by decide) rfl
    have hK9 := hK.sub (tys' := []) [] rfl
    refine W.widen (k := 1) (n := 6) (by omega) (by omega) ?_
    exact W.iret (v := 1) hx hb hr (fun t ht hW => ⟨⟨1, f, rfl, ⟨(if_neg hok).symm, fun z => absurd z (by decide)⟩, by rw [ht]; exact hP9, va_K.moved hW.alike hK9, hD9⟩, hS.F ht⟩) hS.2.2 dL_gone_14
set_option maxHeartbeats 4000000 in
set_option maxRecDepth 100000 in
theorem w_leave (l : Launch) (hlt : l.stackTraces = false) (dC : Nat → ClassId) (dI : Nat → Nat → Nat) (sz : Nat) (x rk hd jm bs b0 b1 od o1 o2 o3 jb pl ap : Nat) (cI cZ cB : ClassId) (ot : Nat) (cL : ClassId) (f : Nat → Int64) (tk : Int32) : Met l yL_leave wsL_leave ({ frames := 7, cells := 1, slots := 6, locals := 111 }) (va_Pc [.ref x, .int tk, .ref ot] (pt_BT (dC, dI) [(x, .inr (5, [.ref rk, .ref bs, .ref od, .ref jb, .ref ap, .int 0, .int 1, .int 0, .int 0, .int 0])), (rk, .inr (4, [.ref hd, .ref jm])), (hd, .inl (cI, 96, .inl (fun _ => 0))), (jm, .inl (cZ, 4, .inl (fun _ => 0))), (bs, .inl (cB, 2, .inr (.inr (.inr (.inr (va_up (va_up (fun _ => none) 0 (some b0)) 1 (some b1))))))), (b0, .inr (0, [.int 2, .int 0, .int 0, .int 0, .int 0, .int (-1)])), (b1, .inr (0, [.int 2, .int 0, .int 0, .int 0, .int 0, .int (-1)])), (od, .inr (2, [.ref o1, .ref o2, .ref o3, .int 0])), (jb, .inr (1, [.ref pl, .int (-1), .int 0, .int 0, .int 0])), (ot, .inl (cL, 1, .inr (.inl f)))] [(cI, .int), (cZ, .boolean), (cB, .object "ParkTower$Bay"), (cL, .long)] sz)) (va_Qi (fun (r : Int32) (g : Nat → Int64) => r = 1 ∧ (r = 0 → g 0 = (0 : Int32).toInt64)) (fun g t => pt_at (dC, dI) (va_A [(x, .inr (5, [.ref rk, .ref bs, .ref od, .ref jb, .ref ap, .int 0, .int 1, .int 0, .int 0, .int 0])), (rk, .inr (4, [.ref hd, .ref jm])), (hd, .inl (cI, 96, .inl (fun _ => 0))), (jm, .inl (cZ, 4, .inl (fun _ => 0))), (bs, .inl (cB, 2, .inr (.inr (.inr (.inr (va_up (va_up (fun _ => none) 0 (some b0)) 1 (some b1))))))), (b0, .inr (0, [.int 2, .int 0, .int 0, .int 0, .int 0, .int (-1)])), (b1, .inr (0, [.int 2, .int 0, .int 0, .int 0, .int 0, .int (-1)])), (od, .inr (2, [.ref o1, .ref o2, .ref o3, .int 0])), (jb, .inr (1, [.ref pl, .int (-1), .int 0, .int 0, .int 0])), (ot, .inl (cL, 1, .inr (.inl f)))] sz) [(ot, .inl (cL, 1, .inr (.inl g)))] [] t) (va_A [(x, .inr (5, [.ref rk, .ref bs, .ref od, .ref jb, .ref ap, .int 0, .int 1, .int 0, .int 0, .int 0])), (rk, .inr (4, [.ref hd, .ref jm])), (hd, .inl (cI, 96, .inl (fun _ => 0))), (jm, .inl (cZ, 4, .inl (fun _ => 0))), (bs, .inl (cB, 2, .inr (.inr (.inr (.inr (va_up (va_up (fun _ => none) 0 (some b0)) 1 (some b1))))))), (b0, .inr (0, [.int 2, .int 0, .int 0, .int 0, .int 0, .int (-1)])), (b1, .inr (0, [.int 2, .int 0, .int 0, .int 0, .int 0, .int (-1)])), (od, .inr (2, [.ref o1, .ref o2, .ref o3, .int 0])), (jb, .inr (1, [.ref pl, .int (-1), .int 0, .int 0, .int 0])), (ot, .inl (cL, 1, .inr (.inl f)))] sz)) 1 6 (va_A [(x, .inr (5, [.ref rk, .ref bs, .ref od, .ref jb, .ref ap, .int 0, .int 1, .int 0, .int 0, .int 0])), (rk, .inr (4, [.ref hd, .ref jm])), (hd, .inl (cI, 96, .inl (fun _ => 0))), (jm, .inl (cZ, 4, .inl (fun _ => 0))), (bs, .inl (cB, 2, .inr (.inr (.inr (.inr (va_up (va_up (fun _ => none) 0 (some b0)) 1 (some b1))))))), (b0, .inr (0, [.int 2, .int 0, .int 0, .int 0, .int 0, .int (-1)])), (b1, .inr (0, [.int 2, .int 0, .int 0, .int 0, .int 0, .int (-1)])), (od, .inr (2, [.ref o1, .ref o2, .ref o3, .int 0])), (jb, .inr (1, [.ref pl, .int (-1), .int 0, .int 0, .int 0])), (ot, .inl (cL, 1, .inr (.inl f)))] sz) := by
  refine va_MetW (cc := cL_leave) (maxL := 4) (ret := some .int) (hh := [(0, 9, 12, 13), (0, 9, 15, 19)]) (by decide) rfl ?_
  intro p e s m args below meth c s₁ B hml hv
  obtain ⟨rfl, hsz, hP, hK, hD0, hN, hE, hZ⟩ := hv
  have hx := B.exec
  have hb := B.bytes
  have hr := B.returns
  have hts := atoms_spec (ws := wsL_leave) B.pre
  have hown : s.vm.findClass RL = some m.cls := findClass_of_methodNamed B.named
  have hlocks := B.notSynchronized
  have htab := vx_table (x := yL_leave) B (hts (.codeWith yL_leave cL_leave 4 (some .int) [(0, 9, 12, 13), (0, 9, 15, 19)]) List.mem_cons_self)
  subst hsz
  have hD := hD0.self (sz := s.heap.size)
  generalize hAe : va_A [(x, .inr (5, [.ref rk, .ref bs, .ref od, .ref jb, .ref ap, .int 0, .int 1, .int 0, .int 0, .int 0])), (rk, .inr (4, [.ref hd, .ref jm])), (hd, .inl (cI, 96, .inl (fun _ => 0))), (jm, .inl (cZ, 4, .inl (fun _ => 0))), (bs, .inl (cB, 2, .inr (.inr (.inr (.inr (va_up (va_up (fun _ => none) 0 (some b0)) 1 (some b1))))))), (b0, .inr (0, [.int 2, .int 0, .int 0, .int 0, .int 0, .int (-1)])), (b1, .inr (0, [.int 2, .int 0, .int 0, .int 0, .int 0, .int (-1)])), (od, .inr (2, [.ref o1, .ref o2, .ref o3, .int 0])), (jb, .inr (1, [.ref pl, .int (-1), .int 0, .int 0, .int 0])), (ot, .inl (cL, 1, .inr (.inl f)))] s.heap.size = A at hD ⊢
  have hA : ∀ q : Nat, s.heap.size ≤ q → A q := fun q h => by rw [← hAe]; exact Or.inr h
  have hS : va_S A s.heap s.heap [] := va_S.rf
  have hP : va_P (dC, dI) vwCl [(x, .inr (5, [.ref rk, .ref bs, .ref od, .ref jb, .ref ap, .int 0, .int 1, .int 0, .int 0, .int 0])), (rk, .inr (4, [.ref hd, .ref jm])), (hd, .inl (cI, 96, .inl (fun _ => 0))), (jm, .inl (cZ, 4, .inl (fun _ => 0))), (bs, .inl (cB, 2, .inr (.inr (.inr (.inr (va_up (va_up (fun _ => none) 0 (some b0)) 1 (some b1))))))), (b0, .inr (0, [.int 2, .int 0, .int 0, .int 0, .int 0, .int (-1)])), (b1, .inr (0, [.int 2, .int 0, .int 0, .int 0, .int 0, .int (-1)])), (od, .inr (2, [.ref o1, .ref o2, .ref o3, .int 0])), (jb, .inr (1, [.ref pl, .int (-1), .int 0, .int 0, .int 0])), (ot, .inl (cL, 1, .inr (.inl f)))] s.heap := hP
  have hK : va_K (dC, dI) vwCl [(cI, .int), (cZ, .boolean), (cB, .object "ParkTower$Bay"), (cL, .long)] s := hK
  have hl := lv_entry ([.ref x, .int tk, .ref ot]) (n := 4) (Nat.le_of_ble_eq_true rfl)
  rw [lg_entry_eq]
  generalize (lg_sl ([.ref x, .int tk, .ref ot]) ++ List.replicate (4 - (lg_sl ([.ref x, .int tk, .ref ot])).length) Slot.unset).toArray = ls at hl ⊢
  have hl : lv_has ls 4 [(0, .ref x), (1, .int tk), (2, .ref ot)] := hl
  refine lv_aload_n hx hb dL_leave_0 rfl (lv_at hl 2 rfl) ?_
  refine lv_iconst (v := 0) hx hb dL_leave_1 (by decide) ?_
  refine lv_aload_n hx hb dL_leave_2 rfl (lv_at hl 0 rfl) ?_
  refine lv_iload_n hx hb dL_leave_3 rfl (lv_at hl 1 rfl) ?_
  have hPc := hP.sub (ws' := [(x, .inr (5, [.ref rk, .ref bs, .ref od, .ref jb, .ref ap, .int 0, .int 1, .int 0, .int 0, .int 0])), (rk, .inr (4, [.ref hd, .ref jm])), (hd, .inl (cI, 96, .inl (fun _ => 0))), (jm, .inl (cZ, 4, .inl (fun _ => 0))), (bs, .inl (cB, 2, .inr (.inr (.inr (.inr (va_up (va_up (fun _ => none) 0 (some b0)) 1 (some b1))))))), (b0, .inr (0, [.int 2, .int 0, .int 0, .int 0, .int 0, .int (-1)])), (b1, .inr (0, [.int 2, .int 0, .int 0, .int 0, .int 0, .int (-1)])), (od, .inr (2, [.ref o1, .ref o2, .ref o3, .int 0])), (jb, .inr (1, [.ref pl, .int (-1), .int 0, .int 0, .int 0]))]) [0, 1, 2, 3, 4, 5, 6, 7, 8] rfl
  have hDc := hD.sub (ws' := [(x, .inr (5, [.ref rk, .ref bs, .ref od, .ref jb, .ref ap, .int 0, .int 1, .int 0, .int 0, .int 0])), (rk, .inr (4, [.ref hd, .ref jm])), (hd, .inl (cI, 96, .inl (fun _ => 0))), (jm, .inl (cZ, 4, .inl (fun _ => 0))), (bs, .inl (cB, 2, .inr (.inr (.inr (.inr (va_up (va_up (fun _ => none) 0 (some b0)) 1 (some b1))))))), (b0, .inr (0, [.int 2, .int 0, .int 0, .int 0, .int 0, .int (-1)])), (b1, .inr (0, [.int 2, .int 0, .int 0, .int 0, .int 0, .int (-1)])), (od, .inr (2, [.ref o1, .ref o2, .ref o3, .int 0])), (jb, .inr (1, [.ref pl, .int (-1), .int 0, .int 0, .int 0]))]) [0, 1, 2, 3, 4, 5, 6, 7, 8] (by decide) rfl
  have hKc := hK.sub (tys' := [(cI, .int), (cZ, .boolean), (cB, .object "ParkTower$Bay")]) [0, 1, 2] rfl
  refine vx_calli (vx_runV (As := [.int tk]) (rest := [.int 0, .ref ot]) ⟨hx, hb, hml, hown, hts⟩ (t_leave l hlt dC dI _ x rk hd jm bs b0 b1 od o1 o2 o3 jb pl ap cI cZ cB tk) (cwV 1 hts gL_leave_X7_leave rfl rfl rfl (by decide +kernel) ⟨Nat.le_of_ble_eq_true rfl, Nat.le_of_ble_eq_true rfl⟩) ⟨pt_blindT, va_recv hK hP (ci := 5) (q0 := 0) rfl rfl, pt_preT hPc hKc hDc hN hE hZ⟩ rfl rfl hl.1 rfl (lv_room (Nat.le_of_ble_eq_true rfl)) dL_leave_4 ⟨Nat.le_of_ble_eq_true rfl, Nat.le_of_ble_eq_true rfl⟩) hS (fun q h1 h2 => absurd h1 (Nat.not_lt.mpr h2)) (fun q h => hA q h) (fun q h1 h2 => absurd h1 (Nat.not_lt.mpr h2)) (fun E ce q9 u t H1 locs ht hvm hp hEE hz1 hk1 hS hce hcv hcl => ?_) (fun r u t H1 locs ht hvm hw hB hz1 hk1 hS => hw.elim)
  subst hEE
  have hP := pt_stay hP hk1
  generalize H1 = H at hP hS hce ⊢
  have hP : va_P (dC, dI) vwCl [(x, .inr (5, [.ref rk, .ref bs, .ref od, .ref jb, .ref ap, .int 0, .int 1, .int 0, .int 0, .int 0])), (rk, .inr (4, [.ref hd, .ref jm])), (hd, .inl (cI, 96, .inl (fun _ => 0))), (jm, .inl (cZ, 4, .inl (fun _ => 0))), (bs, .inl (cB, 2, .inr (.inr (.inr (.inr (va_up (va_up (fun _ => none) 0 (some b0)) 1 (some b1))))))), (b0, .inr (0, [.int 2, .int 0, .int 0, .int 0, .int 0, .int (-1)])), (b1, .inr (0, [.int 2, .int 0, .int 0, .int 0, .int 0, .int (-1)])), (od, .inr (2, [.ref o1, .ref o2, .ref o3, .int 0])), (jb, .inr (1, [.ref pl, .int (-1), .int 0, .int 0, .int 0])), (ot, .inl (cL, 1, .inr (.inl f)))] H := hP
  have hD : va_D A [(x, .inr (5, [.ref rk, .ref bs, .ref od, .ref jb, .ref ap, .int 0, .int 1, .int 0, .int 0, .int 0])), (rk, .inr (4, [.ref hd, .ref jm])), (hd, .inl (cI, 96, .inl (fun _ => 0))), (jm, .inl (cZ, 4, .inl (fun _ => 0))), (bs, .inl (cB, 2, .inr (.inr (.inr (.inr (va_up (va_up (fun _ => none) 0 (some b0)) 1 (some b1))))))), (b0, .inr (0, [.int 2, .int 0, .int 0, .int 0, .int 0, .int (-1)])), (b1, .inr (0, [.int 2, .int 0, .int 0, .int 0, .int 0, .int (-1)])), (od, .inr (2, [.ref o1, .ref o2, .ref o3, .int 0])), (jb, .inr (1, [.ref pl, .int (-1), .int 0, .int 0, .int 0])), (ot, .inl (cL, 1, .inr (.inl f)))] := hD
  refine vx_catch (name := "java/lang/IllegalArgumentException") hown [] ⟨0, 9, 12, 13⟩ [⟨0, 9, 15, 19⟩] (by rw [htab]; rfl) (fun z hz => by cases hz) (by decide) (by decide) (hts (.classLink RL 13 "java/lang/IllegalArgumentException") (by decide +kernel)) (va_Nw.use rfl (hE.1 (.castable "java/lang/IllegalArgumentException" "java/lang/IllegalArgumentException") (by decide +kernel))) hce hcv hcl ?_
  refine W.widen (k := 1) (n := 6) (by omega) (by omega) ?_
  refine lv_astore_n (lv' := [(3, .ref q9), (0, .ref x), (1, .int tk), (2, .ref ot)]) hx hb dL_leave_12 rfl hl (by decide) rfl (fun ls hl => ?_)
  refine lv_iconst (v := 1) hx hb dL_leave_13 (by decide) ?_
  have hP9 := hP.sub (ws' := [(ot, .inl (cL, 1, .inr (.inl f)))]) [9] rfl
  have hD9 := hD.sub (ws' := [(ot, .inl (cL, 1, .inr (.inl f)))]) [9] (by decide) rfl
  have hK9 := hK.sub (tys' := []) [] rfl
  refine W.widen (k := 1) (n := 6) (by omega) (by omega) ?_
  exact W.iret (v := 1) hx hb hr (fun t ht hW => ⟨⟨1, f, rfl, ⟨rfl, fun z => absurd z (by decide)⟩, by rw [ht]; exact hP9, va_K.moved hW.alike hK9, hD9⟩, hS.F ht⟩) hS.2.2 dL_leave_14
set_option maxHeartbeats 4000000 in
set_option maxRecDepth 100000 in
theorem w_plan (l : Launch) (hlt : l.stackTraces = false) (dC : Nat → ClassId) (dI : Nat → Nat → Nat) (sz : Nat) (x rk hd jm bs b0 b1 od o1 o2 o3 jb pl ap : Nat) (cI cZ cB : ClassId) (ot : Nat) (cL : ClassId) (f : Nat → Int64) (tk i : Int32) : Met l yL_plan wsL_plan ({ frames := 7, cells := 1, slots := 6, locals := 112 }) (va_Pc [.ref x, .int tk, .int i, .ref ot] (pt_BT (dC, dI) [(x, .inr (5, [.ref rk, .ref bs, .ref od, .ref jb, .ref ap, .int 0, .int 1, .int 0, .int 0, .int 0])), (rk, .inr (4, [.ref hd, .ref jm])), (hd, .inl (cI, 96, .inl (fun _ => 0))), (jm, .inl (cZ, 4, .inl (fun _ => 0))), (bs, .inl (cB, 2, .inr (.inr (.inr (.inr (va_up (va_up (fun _ => none) 0 (some b0)) 1 (some b1))))))), (b0, .inr (0, [.int 2, .int 0, .int 0, .int 0, .int 0, .int (-1)])), (b1, .inr (0, [.int 2, .int 0, .int 0, .int 0, .int 0, .int (-1)])), (od, .inr (2, [.ref o1, .ref o2, .ref o3, .int 0])), (jb, .inr (1, [.ref pl, .int (-1), .int 0, .int 0, .int 0])), (ot, .inl (cL, 1, .inr (.inl f)))] [(cI, .int), (cZ, .boolean), (cB, .object "ParkTower$Bay"), (cL, .long)] sz)) (va_Qi (fun (r : Int32) (g : Nat → Int64) => r = 1 ∧ (r = 0 → g 0 = (0 : Int32).toInt64)) (fun g t => pt_at (dC, dI) (va_A [(x, .inr (5, [.ref rk, .ref bs, .ref od, .ref jb, .ref ap, .int 0, .int 1, .int 0, .int 0, .int 0])), (rk, .inr (4, [.ref hd, .ref jm])), (hd, .inl (cI, 96, .inl (fun _ => 0))), (jm, .inl (cZ, 4, .inl (fun _ => 0))), (bs, .inl (cB, 2, .inr (.inr (.inr (.inr (va_up (va_up (fun _ => none) 0 (some b0)) 1 (some b1))))))), (b0, .inr (0, [.int 2, .int 0, .int 0, .int 0, .int 0, .int (-1)])), (b1, .inr (0, [.int 2, .int 0, .int 0, .int 0, .int 0, .int (-1)])), (od, .inr (2, [.ref o1, .ref o2, .ref o3, .int 0])), (jb, .inr (1, [.ref pl, .int (-1), .int 0, .int 0, .int 0])), (ot, .inl (cL, 1, .inr (.inl f)))] sz) [(ot, .inl (cL, 1, .inr (.inl g)))] [] t) (va_A [(x, .inr (5, [.ref rk, .ref bs, .ref od, .ref jb, .ref ap, .int 0, .int 1, .int 0, .int 0, .int 0])), (rk, .inr (4, [.ref hd, .ref jm])), (hd, .inl (cI, 96, .inl (fun _ => 0))), (jm, .inl (cZ, 4, .inl (fun _ => 0))), (bs, .inl (cB, 2, .inr (.inr (.inr (.inr (va_up (va_up (fun _ => none) 0 (some b0)) 1 (some b1))))))), (b0, .inr (0, [.int 2, .int 0, .int 0, .int 0, .int 0, .int (-1)])), (b1, .inr (0, [.int 2, .int 0, .int 0, .int 0, .int 0, .int (-1)])), (od, .inr (2, [.ref o1, .ref o2, .ref o3, .int 0])), (jb, .inr (1, [.ref pl, .int (-1), .int 0, .int 0, .int 0])), (ot, .inl (cL, 1, .inr (.inl f)))] sz)) 1 6 (va_A [(x, .inr (5, [.ref rk, .ref bs, .ref od, .ref jb, .ref ap, .int 0, .int 1, .int 0, .int 0, .int 0])), (rk, .inr (4, [.ref hd, .ref jm])), (hd, .inl (cI, 96, .inl (fun _ => 0))), (jm, .inl (cZ, 4, .inl (fun _ => 0))), (bs, .inl (cB, 2, .inr (.inr (.inr (.inr (va_up (va_up (fun _ => none) 0 (some b0)) 1 (some b1))))))), (b0, .inr (0, [.int 2, .int 0, .int 0, .int 0, .int 0, .int (-1)])), (b1, .inr (0, [.int 2, .int 0, .int 0, .int 0, .int 0, .int (-1)])), (od, .inr (2, [.ref o1, .ref o2, .ref o3, .int 0])), (jb, .inr (1, [.ref pl, .int (-1), .int 0, .int 0, .int 0])), (ot, .inl (cL, 1, .inr (.inl f)))] sz) := by
  refine va_MetW (cc := cL_plan) (maxL := 5) (ret := some .int) (hh := [(0, 10, 13, 13), (0, 10, 17, 19), (0, 10, 21, 49)]) (by decide) rfl ?_
  intro p e s m args below meth c s₁ B hml hv
  obtain ⟨rfl, hsz, hP, hK, hD0, hN, hE, hZ⟩ := hv
  have hx := B.exec
  have hb := B.bytes
  have hr := B.returns
  have hts := atoms_spec (ws := wsL_plan) B.pre
  have hown : s.vm.findClass RL = some m.cls := findClass_of_methodNamed B.named
  have hlocks := B.notSynchronized
  have htab := vx_table (x := yL_plan) B (hts (.codeWith yL_plan cL_plan 5 (some .int) [(0, 10, 13, 13), (0, 10, 17, 19), (0, 10, 21, 49)]) List.mem_cons_self)
  subst hsz
  have hD := hD0.self (sz := s.heap.size)
  generalize hAe : va_A [(x, .inr (5, [.ref rk, .ref bs, .ref od, .ref jb, .ref ap, .int 0, .int 1, .int 0, .int 0, .int 0])), (rk, .inr (4, [.ref hd, .ref jm])), (hd, .inl (cI, 96, .inl (fun _ => 0))), (jm, .inl (cZ, 4, .inl (fun _ => 0))), (bs, .inl (cB, 2, .inr (.inr (.inr (.inr (va_up (va_up (fun _ => none) 0 (some b0)) 1 (some b1))))))), (b0, .inr (0, [.int 2, .int 0, .int 0, .int 0, .int 0, .int (-1)])), (b1, .inr (0, [.int 2, .int 0, .int 0, .int 0, .int 0, .int (-1)])), (od, .inr (2, [.ref o1, .ref o2, .ref o3, .int 0])), (jb, .inr (1, [.ref pl, .int (-1), .int 0, .int 0, .int 0])), (ot, .inl (cL, 1, .inr (.inl f)))] s.heap.size = A at hD ⊢
  have hA : ∀ q : Nat, s.heap.size ≤ q → A q := fun q h => by rw [← hAe]; exact Or.inr h
  have hS : va_S A s.heap s.heap [] := va_S.rf
  have hP : va_P (dC, dI) vwCl [(x, .inr (5, [.ref rk, .ref bs, .ref od, .ref jb, .ref ap, .int 0, .int 1, .int 0, .int 0, .int 0])), (rk, .inr (4, [.ref hd, .ref jm])), (hd, .inl (cI, 96, .inl (fun _ => 0))), (jm, .inl (cZ, 4, .inl (fun _ => 0))), (bs, .inl (cB, 2, .inr (.inr (.inr (.inr (va_up (va_up (fun _ => none) 0 (some b0)) 1 (some b1))))))), (b0, .inr (0, [.int 2, .int 0, .int 0, .int 0, .int 0, .int (-1)])), (b1, .inr (0, [.int 2, .int 0, .int 0, .int 0, .int 0, .int (-1)])), (od, .inr (2, [.ref o1, .ref o2, .ref o3, .int 0])), (jb, .inr (1, [.ref pl, .int (-1), .int 0, .int 0, .int 0])), (ot, .inl (cL, 1, .inr (.inl f)))] s.heap := hP
  have hK : va_K (dC, dI) vwCl [(cI, .int), (cZ, .boolean), (cB, .object "ParkTower$Bay"), (cL, .long)] s := hK
  have hl := lv_entry ([.ref x, .int tk, .int i, .ref ot]) (n := 5) (Nat.le_of_ble_eq_true rfl)
  rw [lg_entry_eq]
  generalize (lg_sl ([.ref x, .int tk, .int i, .ref ot]) ++ List.replicate (5 - (lg_sl ([.ref x, .int tk, .int i, .ref ot])).length) Slot.unset).toArray = ls at hl ⊢
  have hl : lv_has ls 5 [(0, .ref x), (1, .int tk), (2, .int i), (3, .ref ot)] := hl
  refine lv_aload_n hx hb dL_plan_0 rfl (lv_at hl 3 rfl) ?_
  refine lv_iconst (v := 0) hx hb dL_plan_1 (by decide) ?_
  refine lv_aload_n hx hb dL_plan_2 rfl (lv_at hl 0 rfl) ?_
  refine lv_iload_n hx hb dL_plan_3 rfl (lv_at hl 1 rfl) ?_
  refine lv_iload_n hx hb dL_plan_4 rfl (lv_at hl 2 rfl) ?_
  have hPc := hP.sub (ws' := [(x, .inr (5, [.ref rk, .ref bs, .ref od, .ref jb, .ref ap, .int 0, .int 1, .int 0, .int 0, .int 0])), (rk, .inr (4, [.ref hd, .ref jm])), (hd, .inl (cI, 96, .inl (fun _ => 0))), (jm, .inl (cZ, 4, .inl (fun _ => 0))), (bs, .inl (cB, 2, .inr (.inr (.inr (.inr (va_up (va_up (fun _ => none) 0 (some b0)) 1 (some b1))))))), (b0, .inr (0, [.int 2, .int 0, .int 0, .int 0, .int 0, .int (-1)])), (b1, .inr (0, [.int 2, .int 0, .int 0, .int 0, .int 0, .int (-1)])), (od, .inr (2, [.ref o1, .ref o2, .ref o3, .int 0])), (jb, .inr (1, [.ref pl, .int (-1), .int 0, .int 0, .int 0]))]) [0, 1, 2, 3, 4, 5, 6, 7, 8] rfl
  have hDc := hD.sub (ws' := [(x, .inr (5, [.ref rk, .ref bs, .ref od, .ref jb, .ref ap, .int 0, .int 1, .int 0, .int 0, .int 0])), (rk, .inr (4, [.ref hd, .ref jm])), (hd, .inl (cI, 96, .inl (fun _ => 0))), (jm, .inl (cZ, 4, .inl (fun _ => 0))), (bs, .inl (cB, 2, .inr (.inr (.inr (.inr (va_up (va_up (fun _ => none) 0 (some b0)) 1 (some b1))))))), (b0, .inr (0, [.int 2, .int 0, .int 0, .int 0, .int 0, .int (-1)])), (b1, .inr (0, [.int 2, .int 0, .int 0, .int 0, .int 0, .int (-1)])), (od, .inr (2, [.ref o1, .ref o2, .ref o3, .int 0])), (jb, .inr (1, [.ref pl, .int (-1), .int 0, .int 0, .int 0]))]) [0, 1, 2, 3, 4, 5, 6, 7, 8] (by decide) rfl
  have hKc := hK.sub (tys' := [(cI, .int), (cZ, .boolean), (cB, .object "ParkTower$Bay")]) [0, 1, 2] rfl
  refine vx_calli (vx_runV (As := [.int tk, .int i]) (rest := [.int 0, .ref ot]) ⟨hx, hb, hml, hown, hts⟩ (t_plan l hlt dC dI _ x rk hd jm bs b0 b1 od o1 o2 o3 jb pl ap cI cZ cB tk i) (cwV 2 hts gL_plan_X7_plan rfl rfl rfl (by decide +kernel) ⟨Nat.le_of_ble_eq_true rfl, Nat.le_of_ble_eq_true rfl⟩) ⟨pt_blindT, va_recv hK hP (ci := 5) (q0 := 0) rfl rfl, pt_preT hPc hKc hDc hN hE hZ⟩ rfl rfl hl.1 rfl (lv_room (Nat.le_of_ble_eq_true rfl)) dL_plan_5 ⟨Nat.le_of_ble_eq_true rfl, Nat.le_of_ble_eq_true rfl⟩) hS (fun q h1 h2 => absurd h1 (Nat.not_lt.mpr h2)) (fun q h => hA q h) (fun q h1 h2 => absurd h1 (Nat.not_lt.mpr h2)) (fun E ce q9 u t H1 locs ht hvm hp hEE hz1 hk1 hS hce hcv hcl => ?_) (fun r u t H1 locs ht hvm hw hB hz1 hk1 hS => hw.elim)
  subst hEE
  have hP := pt_stay hP hk1
  generalize H1 = H at hP hS hce ⊢
  have hP : va_P (dC, dI) vwCl [(x, .inr (5, [.ref rk, .ref bs, .ref od, .ref jb, .ref ap, .int 0, .int 1, .int 0, .int 0, .int 0])), (rk, .inr (4, [.ref hd, .ref jm])), (hd, .inl (cI, 96, .inl (fun _ => 0))), (jm, .inl (cZ, 4, .inl (fun _ => 0))), (bs, .inl (cB, 2, .inr (.inr (.inr (.inr (va_up (va_up (fun _ => none) 0 (some b0)) 1 (some b1))))))), (b0, .inr (0, [.int 2, .int 0, .int 0, .int 0, .int 0, .int (-1)])), (b1, .inr (0, [.int 2, .int 0, .int 0, .int 0, .int 0, .int (-1)])), (od, .inr (2, [.ref o1, .ref o2, .ref o3, .int 0])), (jb, .inr (1, [.ref pl, .int (-1), .int 0, .int 0, .int 0])), (ot, .inl (cL, 1, .inr (.inl f)))] H := hP
  have hD : va_D A [(x, .inr (5, [.ref rk, .ref bs, .ref od, .ref jb, .ref ap, .int 0, .int 1, .int 0, .int 0, .int 0])), (rk, .inr (4, [.ref hd, .ref jm])), (hd, .inl (cI, 96, .inl (fun _ => 0))), (jm, .inl (cZ, 4, .inl (fun _ => 0))), (bs, .inl (cB, 2, .inr (.inr (.inr (.inr (va_up (va_up (fun _ => none) 0 (some b0)) 1 (some b1))))))), (b0, .inr (0, [.int 2, .int 0, .int 0, .int 0, .int 0, .int (-1)])), (b1, .inr (0, [.int 2, .int 0, .int 0, .int 0, .int 0, .int (-1)])), (od, .inr (2, [.ref o1, .ref o2, .ref o3, .int 0])), (jb, .inr (1, [.ref pl, .int (-1), .int 0, .int 0, .int 0])), (ot, .inl (cL, 1, .inr (.inl f)))] := hD
  refine vx_catch (name := "java/lang/IllegalArgumentException") hown [] ⟨0, 10, 13, 13⟩ [⟨0, 10, 17, 19⟩, ⟨0, 10, 21, 49⟩] (by rw [htab]; rfl) (fun z hz => by cases hz) (by decide) (by decide) (hts (.classLink RL 13 "java/lang/IllegalArgumentException") (by decide +kernel)) (va_Nw.use rfl (hE.1 (.castable "java/lang/IllegalArgumentException" "java/lang/IllegalArgumentException") (by decide +kernel))) hce hcv hcl ?_
  refine W.widen (k := 1) (n := 6) (by omega) (by omega) ?_
  refine lv_astore (lv' := [(4, .ref q9), (0, .ref x), (1, .int tk), (2, .int i), (3, .ref ot)]) hx hb dL_plan_13 hl (by decide) rfl (fun ls hl => ?_)
  refine lv_iconst (v := 1) hx hb dL_plan_15 (by decide) ?_
  have hP9 := hP.sub (ws' := [(ot, .inl (cL, 1, .inr (.inl f)))]) [9] rfl
  have hD9 := hD.sub (ws' := [(ot, .inl (cL, 1, .inr (.inl f)))]) [9] (by decide) rfl
  have hK9 := hK.sub (tys' := []) [] rfl
  refine W.widen (k := 1) (n := 6) (by omega) (by omega) ?_
  exact W.iret (v := 1) hx hb hr (fun t ht hW => ⟨⟨1, f, rfl, ⟨rfl, fun z => absurd z (by decide)⟩, by rw [ht]; exact hP9, va_K.moved hW.alike hK9, hD9⟩, hS.F ht⟩) hS.2.2 dL_plan_16
set_option maxHeartbeats 4000000 in
set_option maxRecDepth 100000 in
theorem w_jam (l : Launch) (hlt : l.stackTraces = false) (dC : Nat → ClassId) (dI : Nat → Nat → Nat) (sz : Nat) (x rk hd jm bs b0 b1 od o1 o2 o3 jb pl ap : Nat) (cI cZ cB : ClassId) (lv on : Int32) : Met l yL_jam wsL_jam ({ frames := 7, cells := 1, slots := 6, locals := 111 }) (va_Pc [.ref x, .int lv, .int on] (pt_BT (dC, dI) [(x, .inr (5, [.ref rk, .ref bs, .ref od, .ref jb, .ref ap, .int 0, .int 1, .int 0, .int 0, .int 0])), (rk, .inr (4, [.ref hd, .ref jm])), (hd, .inl (cI, 96, .inl (fun _ => 0))), (jm, .inl (cZ, 4, .inl (fun _ => 0))), (bs, .inl (cB, 2, .inr (.inr (.inr (.inr (va_up (va_up (fun _ => none) 0 (some b0)) 1 (some b1))))))), (b0, .inr (0, [.int 2, .int 0, .int 0, .int 0, .int 0, .int (-1)])), (b1, .inr (0, [.int 2, .int 0, .int 0, .int 0, .int 0, .int (-1)])), (od, .inr (2, [.ref o1, .ref o2, .ref o3, .int 0])), (jb, .inr (1, [.ref pl, .int (-1), .int 0, .int 0, .int 0]))] [(cI, .int), (cZ, .boolean), (cB, .object "ParkTower$Bay")] sz)) (va_Qi (fun (r : Int32) (_ : Unit) => r = (if ¬ lv < 0 ∧ lv < 4 then 0 else 1)) (fun _ t => pt_at (dC, dI) (va_A [(x, .inr (5, [.ref rk, .ref bs, .ref od, .ref jb, .ref ap, .int 0, .int 1, .int 0, .int 0, .int 0])), (rk, .inr (4, [.ref hd, .ref jm])), (hd, .inl (cI, 96, .inl (fun _ => 0))), (jm, .inl (cZ, 4, .inl (fun _ => 0))), (bs, .inl (cB, 2, .inr (.inr (.inr (.inr (va_up (va_up (fun _ => none) 0 (some b0)) 1 (some b1))))))), (b0, .inr (0, [.int 2, .int 0, .int 0, .int 0, .int 0, .int (-1)])), (b1, .inr (0, [.int 2, .int 0, .int 0, .int 0, .int 0, .int (-1)])), (od, .inr (2, [.ref o1, .ref o2, .ref o3, .int 0])), (jb, .inr (1, [.ref pl, .int (-1), .int 0, .int 0, .int 0]))] sz) [] [] t) (va_A [(x, .inr (5, [.ref rk, .ref bs, .ref od, .ref jb, .ref ap, .int 0, .int 1, .int 0, .int 0, .int 0])), (rk, .inr (4, [.ref hd, .ref jm])), (hd, .inl (cI, 96, .inl (fun _ => 0))), (jm, .inl (cZ, 4, .inl (fun _ => 0))), (bs, .inl (cB, 2, .inr (.inr (.inr (.inr (va_up (va_up (fun _ => none) 0 (some b0)) 1 (some b1))))))), (b0, .inr (0, [.int 2, .int 0, .int 0, .int 0, .int 0, .int (-1)])), (b1, .inr (0, [.int 2, .int 0, .int 0, .int 0, .int 0, .int (-1)])), (od, .inr (2, [.ref o1, .ref o2, .ref o3, .int 0])), (jb, .inr (1, [.ref pl, .int (-1), .int 0, .int 0, .int 0]))] sz)) 1 6 (va_A [(x, .inr (5, [.ref rk, .ref bs, .ref od, .ref jb, .ref ap, .int 0, .int 1, .int 0, .int 0, .int 0])), (rk, .inr (4, [.ref hd, .ref jm])), (hd, .inl (cI, 96, .inl (fun _ => 0))), (jm, .inl (cZ, 4, .inl (fun _ => 0))), (bs, .inl (cB, 2, .inr (.inr (.inr (.inr (va_up (va_up (fun _ => none) 0 (some b0)) 1 (some b1))))))), (b0, .inr (0, [.int 2, .int 0, .int 0, .int 0, .int 0, .int (-1)])), (b1, .inr (0, [.int 2, .int 0, .int 0, .int 0, .int 0, .int (-1)])), (od, .inr (2, [.ref o1, .ref o2, .ref o3, .int 0])), (jb, .inr (1, [.ref pl, .int (-1), .int 0, .int 0, .int 0]))] sz) := by
  refine va_MetW (cc := cL_jam) (maxL := 4) (ret := some .int) (hh := [(0, 6, 9, 13)]) (by decide) rfl ?_
  intro p e s m args below meth c s₁ B hml hv
  obtain ⟨rfl, hsz, hP, hK, hD0, hN, hE, hZ⟩ := hv
  have hx := B.exec
  have hb := B.bytes
  have hr := B.returns
  have hts := atoms_spec (ws := wsL_jam) B.pre
  have hown : s.vm.findClass RL = some m.cls := findClass_of_methodNamed B.named
  have hlocks := B.notSynchronized
  have htab := vx_table (x := yL_jam) B (hts (.codeWith yL_jam cL_jam 4 (some .int) [(0, 6, 9, 13)]) List.mem_cons_self)
  subst hsz
  have hD := hD0.self (sz := s.heap.size)
  generalize hAe : va_A [(x, .inr (5, [.ref rk, .ref bs, .ref od, .ref jb, .ref ap, .int 0, .int 1, .int 0, .int 0, .int 0])), (rk, .inr (4, [.ref hd, .ref jm])), (hd, .inl (cI, 96, .inl (fun _ => 0))), (jm, .inl (cZ, 4, .inl (fun _ => 0))), (bs, .inl (cB, 2, .inr (.inr (.inr (.inr (va_up (va_up (fun _ => none) 0 (some b0)) 1 (some b1))))))), (b0, .inr (0, [.int 2, .int 0, .int 0, .int 0, .int 0, .int (-1)])), (b1, .inr (0, [.int 2, .int 0, .int 0, .int 0, .int 0, .int (-1)])), (od, .inr (2, [.ref o1, .ref o2, .ref o3, .int 0])), (jb, .inr (1, [.ref pl, .int (-1), .int 0, .int 0, .int 0]))] s.heap.size = A at hD ⊢
  have hA : ∀ q : Nat, s.heap.size ≤ q → A q := fun q h => by rw [← hAe]; exact Or.inr h
  have hS : va_S A s.heap s.heap [] := va_S.rf
  have hP : va_P (dC, dI) vwCl [(x, .inr (5, [.ref rk, .ref bs, .ref od, .ref jb, .ref ap, .int 0, .int 1, .int 0, .int 0, .int 0])), (rk, .inr (4, [.ref hd, .ref jm])), (hd, .inl (cI, 96, .inl (fun _ => 0))), (jm, .inl (cZ, 4, .inl (fun _ => 0))), (bs, .inl (cB, 2, .inr (.inr (.inr (.inr (va_up (va_up (fun _ => none) 0 (some b0)) 1 (some b1))))))), (b0, .inr (0, [.int 2, .int 0, .int 0, .int 0, .int 0, .int (-1)])), (b1, .inr (0, [.int 2, .int 0, .int 0, .int 0, .int 0, .int (-1)])), (od, .inr (2, [.ref o1, .ref o2, .ref o3, .int 0])), (jb, .inr (1, [.ref pl, .int (-1), .int 0, .int 0, .int 0]))] s.heap := hP
  have hK : va_K (dC, dI) vwCl [(cI, .int), (cZ, .boolean), (cB, .object "ParkTower$Bay")] s := hK
  have hl := lv_entry ([.ref x, .int lv, .int on]) (n := 4) (Nat.le_of_ble_eq_true rfl)
  rw [lg_entry_eq]
  generalize (lg_sl ([.ref x, .int lv, .int on]) ++ List.replicate (4 - (lg_sl ([.ref x, .int lv, .int on])).length) Slot.unset).toArray = ls at hl ⊢
  have hl : lv_has ls 4 [(0, .ref x), (1, .int lv), (2, .int on)] := hl
  by_cases hok : ¬ lv < 0 ∧ lv < 4
  · skip
    refine lv_aload_n hx hb dL_jam_0 rfl (lv_at hl 0 rfl) ?_
    refine lv_iload_n hx hb dL_jam_1 rfl (lv_at hl 1 rfl) ?_
    refine lv_iload_n hx hb dL_jam_2 rfl (lv_at hl 2 rfl) ?_
    have hPc := hP.sub (ws' := [(x, .inr (5, [.ref rk, .ref bs, .ref od, .ref jb, .ref ap, .int 0, .int 1, .int 0, .int 0, .int 0])), (rk, .inr (4, [.ref hd, .ref jm])), (hd, .inl (cI, 96, .inl (fun _ => 0))), (jm, .inl (cZ, 4, .inl (fun _ => 0))), (bs, .inl (cB, 2, .inr (.inr (.inr (.inr (va_up (va_up (fun _ => none) 0 (some b0)) 1 (some b1))))))), (b0, .inr (0, [.int 2, .int 0, .int 0, .int 0, .int 0, .int (-1)])), (b1, .inr (0, [.int 2, .int 0, .int 0, .int 0, .int 0, .int (-1)])), (od, .inr (2, [.ref o1, .ref o2, .ref o3, .int 0])), (jb, .inr (1, [.ref pl, .int (-1), .int 0, .int 0, .int 0]))]) [0, 1, 2, 3, 4, 5, 6, 7, 8] rfl
    have hDc := hD.sub (ws' := [(x, .inr (5, [.ref rk, .ref bs, .ref od, .ref jb, .ref ap, .int 0, .int 1, .int 0, .int 0, .int 0])), (rk, .inr (4, [.ref hd, .ref jm])), (hd, .inl (cI, 96, .inl (fun _ => 0))), (jm, .inl (cZ, 4, .inl (fun _ => 0))), (bs, .inl (cB, 2, .inr (.inr (.inr (.inr (va_up (va_up (fun _ => none) 0 (some b0)) 1 (some b1))))))), (b0, .inr (0, [.int 2, .int 0, .int 0, .int 0, .int 0, .int (-1)])), (b1, .inr (0, [.int 2, .int 0, .int 0, .int 0, .int 0, .int (-1)])), (od, .inr (2, [.ref o1, .ref o2, .ref o3, .int 0])), (jb, .inr (1, [.ref pl, .int (-1), .int 0, .int 0, .int 0]))]) [0, 1, 2, 3, 4, 5, 6, 7, 8] (by decide) rfl
    have hKc := hK.sub (tys' := [(cI, .int), (cZ, .boolean), (cB, .object "ParkTower$Bay")]) [0, 1, 2] rfl
    have hFc := va_free (wc := [(x, .inr (5, [.ref rk, .ref bs, .ref od, .ref jb, .ref ap, .int 0, .int 1, .int 0, .int 0, .int 0])), (rk, .inr (4, [.ref hd, .ref jm])), (hd, .inl (cI, 96, .inl (fun _ => 0))), (jm, .inl (cZ, 4, .inl (fun _ => 0))), (bs, .inl (cB, 2, .inr (.inr (.inr (.inr (va_up (va_up (fun _ => none) 0 (some b0)) 1 (some b1))))))), (b0, .inr (0, [.int 2, .int 0, .int 0, .int 0, .int 0, .int (-1)])), (b1, .inr (0, [.int 2, .int 0, .int 0, .int 0, .int 0, .int (-1)])), (od, .inr (2, [.ref o1, .ref o2, .ref o3, .int 0])), (jb, .inr (1, [.ref pl, .int (-1), .int 0, .int 0, .int 0]))]) hD hS hA [0, 1, 2, 3, 4, 5, 6, 7, 8] rfl
    refine va_callv (va_runV (As := [.int lv, .int on]) (rest := []) ⟨hx, hb, hml, hown, hts⟩ (n_jam l dC dI _ x rk hd jm bs b0 b1 od o1 o2 o3 jb pl ap cI cZ cB lv on hok.1 hok.2 (pt_vin hok.1 hok.2 rfl)) (cwV 2 hts gL_jam_X7_jam rfl rfl rfl (by decide +kernel) ⟨Nat.le_of_ble_eq_true rfl, Nat.le_of_ble_eq_true rfl⟩) ⟨pt_blindQ, va_recv hK hP (ci := 5) (q0 := 0) rfl rfl, pt_preQ hPc hKc hDc hN⟩ rfl rfl hl.1 rfl (lv_room (Nat.le_of_ble_eq_true rfl)) dL_jam_3 ⟨Nat.le_of_ble_eq_true rfl, Nat.le_of_ble_eq_true rfl⟩) hS (fun q _ h => hFc q h) hFc (fun u_1 t H1 locs ht hvm hw_1 hB hz1 hk1 hS => ?_)
    obtain ⟨hP1, hK1, hD1⟩ := hB
    rw [ht] at hP1
    have hK1 := va_K.moved hvm.symm hK1
    obtain ⟨hP, hD⟩ := va_join (wr := []) (w1 := []) hP hD [0, 1, 2, 3, 4, 5, 6, 7, 8] [] rfl rfl (by decide) (by decide) hk1 hFc hP1 hD1
    have hK := hK.app hK1
    generalize H1 = H at hP hS ⊢
    have hP : va_P (dC, dI) vwCl [] H := hP
    have hD : va_D A [] := hD
    have hK : va_K (dC, dI) vwCl [(cI, .int), (cZ, .boolean), (cB, .object "ParkTower$Bay")] s := hK
    refine lv_goto (tgt := 12) hx hb dL_jam_6 (by decide) ?_
    refine lv_iconst (v := 0) hx hb dL_jam_12 (by decide) ?_
    have hP9 := hP.sub (ws' := []) [] rfl
    have hD9 := hD.sub (ws' := []) [] (by decide) rfl
    have hK9 := hK.sub (tys' := []) [] rfl
    refine W.widen (k := 1) (n := 6) (by omega) (by omega) ?_
    exact W.iret (v := 0) hx hb hr (fun t ht hW => ⟨⟨0, (), rfl, (if_pos hok).symm, by rw [ht]; exact hP9, va_K.moved hW.alike hK9, hD9⟩, hS.F ht⟩) hS.2.2 dL_jam_13
  · skip
    refine lv_aload_n hx hb dL_jam_0 rfl (lv_at hl 0 rfl) ?_
    refine lv_iload_n hx hb dL_jam_1 rfl (lv_at hl 1 rfl) ?_
    refine lv_iload_n hx hb dL_jam_2 rfl (lv_at hl 2 rfl) ?_
    have hPc := hP.sub (ws' := [(x, .inr (5, [.ref rk, .ref bs, .ref od, .ref jb, .ref ap, .int 0, .int 1, .int 0, .int 0, .int 0])), (rk, .inr (4, [.ref hd, .ref jm])), (hd, .inl (cI, 96, .inl (fun _ => 0))), (jm, .inl (cZ, 4, .inl (fun _ => 0))), (bs, .inl (cB, 2, .inr (.inr (.inr (.inr (va_up (va_up (fun _ => none) 0 (some b0)) 1 (some b1))))))), (b0, .inr (0, [.int 2, .int 0, .int 0, .int 0, .int 0, .int (-1)])), (b1, .inr (0, [.int 2, .int 0, .int 0, .int 0, .int 0, .int (-1)])), (od, .inr (2, [.ref o1, .ref o2, .ref o3, .int 0])), (jb, .inr (1, [.ref pl, .int (-1), .int 0, .int 0, .int 0]))]) [0, 1, 2, 3, 4, 5, 6, 7, 8] rfl
    have hDc := hD.sub (ws' := [(x, .inr (5, [.ref rk, .ref bs, .ref od, .ref jb, .ref ap, .int 0, .int 1, .int 0, .int 0, .int 0])), (rk, .inr (4, [.ref hd, .ref jm])), (hd, .inl (cI, 96, .inl (fun _ => 0))), (jm, .inl (cZ, 4, .inl (fun _ => 0))), (bs, .inl (cB, 2, .inr (.inr (.inr (.inr (va_up (va_up (fun _ => none) 0 (some b0)) 1 (some b1))))))), (b0, .inr (0, [.int 2, .int 0, .int 0, .int 0, .int 0, .int (-1)])), (b1, .inr (0, [.int 2, .int 0, .int 0, .int 0, .int 0, .int (-1)])), (od, .inr (2, [.ref o1, .ref o2, .ref o3, .int 0])), (jb, .inr (1, [.ref pl, .int (-1), .int 0, .int 0, .int 0]))]) [0, 1, 2, 3, 4, 5, 6, 7, 8] (by decide) rfl
    have hKc := hK.sub (tys' := [(cI, .int), (cZ, .boolean), (cB, .object "ParkTower$Bay")]) [0, 1, 2] rfl
    refine vx_callv (vx_runV (As := [.int lv, .int on]) (rest := []) ⟨hx, hb, hml, hown, hts⟩ (t_jam l hlt dC dI _ x rk hd jm bs b0 b1 od o1 o2 o3 jb pl ap cI cZ cB lv on hok) (cwV 2 hts gL_jam_X7_jam rfl rfl rfl (by decide +kernel) ⟨Nat.le_of_ble_eq_true rfl, Nat.le_of_ble_eq_true rfl⟩) ⟨pt_blindT, va_recv hK hP (ci := 5) (q0 := 0) rfl rfl, pt_preT hPc hKc hDc hN hE hZ⟩ rfl rfl hl.1 rfl (lv_room (Nat.le_of_ble_eq_true rfl)) dL_jam_3 ⟨Nat.le_of_ble_eq_true rfl, Nat.le_of_ble_eq_true rfl⟩) hS (fun q h1 h2 => absurd h1 (Nat.not_lt.mpr h2)) (fun q h => hA q h) (fun q h1 h2 => absurd h1 (Nat.not_lt.mpr h2)) (fun E ce q9 u t H1 locs ht hvm hp hEE hz1 hk1 hS hce hcv hcl => ?_) (fun u t H1 locs ht hvm hw hB hz1 hk1 hS => hw.elim)
    subst hEE
    have hP := pt_stay hP hk1
    generalize H1 = H at hP hS hce ⊢
    have hP : va_P (dC, dI) vwCl [(x, .inr (5, [.ref rk, .ref bs, .ref od, .ref jb, .ref ap, .int 0, .int 1, .int 0, .int 0, .int 0])), (rk, .inr (4, [.ref hd, .ref jm])), (hd, .inl (cI, 96, .inl (fun _ => 0))), (jm, .inl (cZ, 4, .inl (fun _ => 0))), (bs, .inl (cB, 2, .inr (.inr (.inr (.inr (va_up (va_up (fun _ => none) 0 (some b0)) 1 (some b1))))))), (b0, .inr (0, [.int 2, .int 0, .int 0, .int 0, .int 0, .int (-1)])), (b1, .inr (0, [.int 2, .int 0, .int 0, .int 0, .int 0, .int (-1)])), (od, .inr (2, [.ref o1, .ref o2, .ref o3, .int 0])), (jb, .inr (1, [.ref pl, .int (-1), .int 0, .int 0, .int 0]))] H := hP
    have hD : va_D A [(x, .inr (5, [.ref rk, .ref bs, .ref od, .ref jb, .ref ap, .int 0, .int 1, .int 0, .int 0, .int 0])), (rk, .inr (4, [.ref hd, .ref jm])), (hd, .inl (cI, 96, .inl (fun _ => 0))), (jm, .inl (cZ, 4, .inl (fun _ => 0))), (bs, .inl (cB, 2, .inr (.inr (.inr (.inr (va_up (va_up (fun _ => none) 0 (some b0)) 1 (some b1))))))), (b0, .inr (0, [.int 2, .int 0, .int 0, .int 0, .int 0, .int (-1)])), (b1, .inr (0, [.int 2, .int 0, .int 0, .int 0, .int 0, .int (-1)])), (od, .inr (2, [.ref o1, .ref o2, .ref o3, .int 0])), (jb, .inr (1, [.ref pl, .int (-1), .int 0, .int 0, .int 0]))] := hD
    refine vx_catch (name := "java/lang/IllegalArgumentException") hown [] ⟨0, 6, 9, 13⟩ [] (by rw [htab]; rfl) (fun z hz => by cases hz) (by decide) (by decide) (hts (.classLink RL 13 "java/lang/IllegalArgumentException") (by decide +kernel)) (va_Nw.use rfl (hE.1 (.castable "java/lang/IllegalArgumentException" "java/lang/IllegalArgumentException") (by decide +kernel))) hce hcv hcl ?_
    refine W.widen (k := 1) (n := 6) (by omega) (by omega) ?_
    refine lv_astore_n (lv' := [(3, .ref q9), (0, .ref x), (1, .int lv), (2, .int on)]) hx hb dL_jam_9 rfl hl (by decide) rfl (fun ls hl => ?_)
    refine lv_iconst (v := 1) hx hb dL_jam_10 (by decide) ?_
    have hP9 := hP.sub (ws' := []) [] rfl
    have hD9 := hD.sub (ws' := []) [] (by decide) rfl
    have hK9 := hK.sub (tys' := []) [] rfl
    refine W.widen (k := 1) (n := 6) (by omega) (by omega) ?_
    exact W.iret (v := 1) hx hb hr (fun t ht hW => ⟨⟨1, (), rfl, (if_neg hok).symm, by rw [ht]; exact hP9, va_K.moved hW.alike hK9, hD9⟩, hS.F ht⟩) hS.2.2 dL_jam_11
set_option maxHeartbeats 4000000 in
set_option maxRecDepth 100000 in
theorem w_power (l : Launch) (hlt : l.stackTraces = false) (dC : Nat → ClassId) (dI : Nat → Nat → Nat) (sz : Nat) (x rk hd jm bs b0 b1 od o1 o2 o3 jb pl ap : Nat) (cI cZ cB : ClassId) (on : Int32) (ho : on = 0 ∨ on = 1) : Met l yL_power wsL_power ({ frames := 7, cells := 1, slots := 6, locals := 110 }) (va_Pc [.ref x, .int on] (pt_BT (dC, dI) [(x, .inr (5, [.ref rk, .ref bs, .ref od, .ref jb, .ref ap, .int 0, .int 1, .int 0, .int 0, .int 0])), (rk, .inr (4, [.ref hd, .ref jm])), (hd, .inl (cI, 96, .inl (fun _ => 0))), (jm, .inl (cZ, 4, .inl (fun _ => 0))), (bs, .inl (cB, 2, .inr (.inr (.inr (.inr (va_up (va_up (fun _ => none) 0 (some b0)) 1 (some b1))))))), (b0, .inr (0, [.int 2, .int 0, .int 0, .int 0, .int 0, .int (-1)])), (b1, .inr (0, [.int 2, .int 0, .int 0, .int 0, .int 0, .int (-1)])), (od, .inr (2, [.ref o1, .ref o2, .ref o3, .int 0])), (jb, .inr (1, [.ref pl, .int (-1), .int 0, .int 0, .int 0]))] [(cI, .int), (cZ, .boolean), (cB, .object "ParkTower$Bay")] sz)) (va_Qi (fun (r : Int32) (_ : Unit) => r = (if on = 0 then 0 else 1)) (fun _ t => pt_at (dC, dI) (va_A [(x, .inr (5, [.ref rk, .ref bs, .ref od, .ref jb, .ref ap, .int 0, .int 1, .int 0, .int 0, .int 0])), (rk, .inr (4, [.ref hd, .ref jm])), (hd, .inl (cI, 96, .inl (fun _ => 0))), (jm, .inl (cZ, 4, .inl (fun _ => 0))), (bs, .inl (cB, 2, .inr (.inr (.inr (.inr (va_up (va_up (fun _ => none) 0 (some b0)) 1 (some b1))))))), (b0, .inr (0, [.int 2, .int 0, .int 0, .int 0, .int 0, .int (-1)])), (b1, .inr (0, [.int 2, .int 0, .int 0, .int 0, .int 0, .int (-1)])), (od, .inr (2, [.ref o1, .ref o2, .ref o3, .int 0])), (jb, .inr (1, [.ref pl, .int (-1), .int 0, .int 0, .int 0]))] sz) [] [] t) (va_A [(x, .inr (5, [.ref rk, .ref bs, .ref od, .ref jb, .ref ap, .int 0, .int 1, .int 0, .int 0, .int 0])), (rk, .inr (4, [.ref hd, .ref jm])), (hd, .inl (cI, 96, .inl (fun _ => 0))), (jm, .inl (cZ, 4, .inl (fun _ => 0))), (bs, .inl (cB, 2, .inr (.inr (.inr (.inr (va_up (va_up (fun _ => none) 0 (some b0)) 1 (some b1))))))), (b0, .inr (0, [.int 2, .int 0, .int 0, .int 0, .int 0, .int (-1)])), (b1, .inr (0, [.int 2, .int 0, .int 0, .int 0, .int 0, .int (-1)])), (od, .inr (2, [.ref o1, .ref o2, .ref o3, .int 0])), (jb, .inr (1, [.ref pl, .int (-1), .int 0, .int 0, .int 0]))] sz)) 1 6 (va_A [(x, .inr (5, [.ref rk, .ref bs, .ref od, .ref jb, .ref ap, .int 0, .int 1, .int 0, .int 0, .int 0])), (rk, .inr (4, [.ref hd, .ref jm])), (hd, .inl (cI, 96, .inl (fun _ => 0))), (jm, .inl (cZ, 4, .inl (fun _ => 0))), (bs, .inl (cB, 2, .inr (.inr (.inr (.inr (va_up (va_up (fun _ => none) 0 (some b0)) 1 (some b1))))))), (b0, .inr (0, [.int 2, .int 0, .int 0, .int 0, .int 0, .int (-1)])), (b1, .inr (0, [.int 2, .int 0, .int 0, .int 0, .int 0, .int (-1)])), (od, .inr (2, [.ref o1, .ref o2, .ref o3, .int 0])), (jb, .inr (1, [.ref pl, .int (-1), .int 0, .int 0, .int 0]))] sz) := by
  refine va_MetW (cc := cL_power) (maxL := 3) (ret := some .int) (hh := [(0, 5, 8, 19)]) (by decide) rfl ?_
  intro p e s m args below meth c s₁ B hml hv
  obtain ⟨rfl, hsz, hP, hK, hD0, hN, hE, hZ⟩ := hv
  have hx := B.exec
  have hb := B.bytes
  have hr := B.returns
  have hts := atoms_spec (ws := wsL_power) B.pre
  have hown : s.vm.findClass RL = some m.cls := findClass_of_methodNamed B.named
  have hlocks := B.notSynchronized
  have htab := vx_table (x := yL_power) B (hts (.codeWith yL_power cL_power 3 (some .int) [(0, 5, 8, 19)]) List.mem_cons_self)
  subst hsz
  have hD := hD0.self (sz := s.heap.size)
  generalize hAe : va_A [(x, .inr (5, [.ref rk, .ref bs, .ref od, .ref jb, .ref ap, .int 0, .int 1, .int 0, .int 0, .int 0])), (rk, .inr (4, [.ref hd, .ref jm])), (hd, .inl (cI, 96, .inl (fun _ => 0))), (jm, .inl (cZ, 4, .inl (fun _ => 0))), (bs, .inl (cB, 2, .inr (.inr (.inr (.inr (va_up (va_up (fun _ => none) 0 (some b0)) 1 (some b1))))))), (b0, .inr (0, [.int 2, .int 0, .int 0, .int 0, .int 0, .int (-1)])), (b1, .inr (0, [.int 2, .int 0, .int 0, .int 0, .int 0, .int (-1)])), (od, .inr (2, [.ref o1, .ref o2, .ref o3, .int 0])), (jb, .inr (1, [.ref pl, .int (-1), .int 0, .int 0, .int 0]))] s.heap.size = A at hD ⊢
  have hA : ∀ q : Nat, s.heap.size ≤ q → A q := fun q h => by rw [← hAe]; exact Or.inr h
  have hS : va_S A s.heap s.heap [] := va_S.rf
  have hP : va_P (dC, dI) vwCl [(x, .inr (5, [.ref rk, .ref bs, .ref od, .ref jb, .ref ap, .int 0, .int 1, .int 0, .int 0, .int 0])), (rk, .inr (4, [.ref hd, .ref jm])), (hd, .inl (cI, 96, .inl (fun _ => 0))), (jm, .inl (cZ, 4, .inl (fun _ => 0))), (bs, .inl (cB, 2, .inr (.inr (.inr (.inr (va_up (va_up (fun _ => none) 0 (some b0)) 1 (some b1))))))), (b0, .inr (0, [.int 2, .int 0, .int 0, .int 0, .int 0, .int (-1)])), (b1, .inr (0, [.int 2, .int 0, .int 0, .int 0, .int 0, .int (-1)])), (od, .inr (2, [.ref o1, .ref o2, .ref o3, .int 0])), (jb, .inr (1, [.ref pl, .int (-1), .int 0, .int 0, .int 0]))] s.heap := hP
  have hK : va_K (dC, dI) vwCl [(cI, .int), (cZ, .boolean), (cB, .object "ParkTower$Bay")] s := hK
  have hl := lv_entry ([.ref x, .int on]) (n := 3) (Nat.le_of_ble_eq_true rfl)
  rw [lg_entry_eq]
  generalize (lg_sl ([.ref x, .int on]) ++ List.replicate (3 - (lg_sl ([.ref x, .int on])).length) Slot.unset).toArray = ls at hl ⊢
  have hl : lv_has ls 3 [(0, .ref x), (1, .int on)] := hl
  rcases ho with rfl | rfl
  · skip
    refine lv_aload_n hx hb dL_power_0 rfl (lv_at hl 0 rfl) ?_
    refine lv_iload_n hx hb dL_power_1 rfl (lv_at hl 1 rfl) ?_
    have hPc := hP.sub (ws' := [(x, .inr (5, [.ref rk, .ref bs, .ref od, .ref jb, .ref ap, .int 0, .int 1, .int 0, .int 0, .int 0])), (rk, .inr (4, [.ref hd, .ref jm])), (hd, .inl (cI, 96, .inl (fun _ => 0))), (jm, .inl (cZ, 4, .inl (fun _ => 0))), (bs, .inl (cB, 2, .inr (.inr (.inr (.inr (va_up (va_up (fun _ => none) 0 (some b0)) 1 (some b1))))))), (b0, .inr (0, [.int 2, .int 0, .int 0, .int 0, .int 0, .int (-1)])), (b1, .inr (0, [.int 2, .int 0, .int 0, .int 0, .int 0, .int (-1)])), (od, .inr (2, [.ref o1, .ref o2, .ref o3, .int 0])), (jb, .inr (1, [.ref pl, .int (-1), .int 0, .int 0, .int 0]))]) [0, 1, 2, 3, 4, 5, 6, 7, 8] rfl
    have hDc := hD.sub (ws' := [(x, .inr (5, [.ref rk, .ref bs, .ref od, .ref jb, .ref ap, .int 0, .int 1, .int 0, .int 0, .int 0])), (rk, .inr (4, [.ref hd, .ref jm])), (hd, .inl (cI, 96, .inl (fun _ => 0))), (jm, .inl (cZ, 4, .inl (fun _ => 0))), (bs, .inl (cB, 2, .inr (.inr (.inr (.inr (va_up (va_up (fun _ => none) 0 (some b0)) 1 (some b1))))))), (b0, .inr (0, [.int 2, .int 0, .int 0, .int 0, .int 0, .int (-1)])), (b1, .inr (0, [.int 2, .int 0, .int 0, .int 0, .int 0, .int (-1)])), (od, .inr (2, [.ref o1, .ref o2, .ref o3, .int 0])), (jb, .inr (1, [.ref pl, .int (-1), .int 0, .int 0, .int 0]))]) [0, 1, 2, 3, 4, 5, 6, 7, 8] (by decide) rfl
    have hKc := hK.sub (tys' := [(cI, .int), (cZ, .boolean), (cB, .object "ParkTower$Bay")]) [0, 1, 2] rfl
    have hFc := va_free (wc := [(x, .inr (5, [.ref rk, .ref bs, .ref od, .ref jb, .ref ap, .int 0, .int 1, .int 0, .int 0, .int 0])), (rk, .inr (4, [.ref hd, .ref jm])), (hd, .inl (cI, 96, .inl (fun _ => 0))), (jm, .inl (cZ, 4, .inl (fun _ => 0))), (bs, .inl (cB, 2, .inr (.inr (.inr (.inr (va_up (va_up (fun _ => none) 0 (some b0)) 1 (some b1))))))), (b0, .inr (0, [.int 2, .int 0, .int 0, .int 0, .int 0, .int (-1)])), (b1, .inr (0, [.int 2, .int 0, .int 0, .int 0, .int 0, .int (-1)])), (od, .inr (2, [.ref o1, .ref o2, .ref o3, .int 0])), (jb, .inr (1, [.ref pl, .int (-1), .int 0, .int 0, .int 0]))]) hD hS hA [0, 1, 2, 3, 4, 5, 6, 7, 8] rfl
    refine va_callv (va_runV (As := [.int 0]) (rest := []) ⟨hx, hb, hml, hown, hts⟩ (n_power0 l dC dI _ x rk hd jm bs b0 b1 od o1 o2 o3 jb pl ap cI cZ cB) (cwV 1 hts gL_power_X7_power rfl rfl rfl (by decide +kernel) ⟨Nat.le_of_ble_eq_true rfl, Nat.le_of_ble_eq_true rfl⟩) ⟨pt_blindQ, va_recv hK hP (ci := 5) (q0 := 0) rfl rfl, pt_preQ hPc hKc hDc hN⟩ rfl rfl hl.1 rfl (lv_room (Nat.le_of_ble_eq_true rfl)) dL_power_2 ⟨Nat.le_of_ble_eq_true rfl, Nat.le_of_ble_eq_true rfl⟩) hS (fun q _ h => hFc q h) hFc (fun u_1 t H1 locs ht hvm hw_1 hB hz1 hk1 hS => ?_)
    obtain ⟨hP1, hK1, hD1⟩ := hB
    rw [ht] at hP1
    have hK1 := va_K.moved hvm.symm hK1
    obtain ⟨hP, hD⟩ := va_join (wr := []) (w1 := []) hP hD [0, 1, 2, 3, 4, 5, 6, 7, 8] [] rfl rfl (by decide) (by decide) hk1 hFc hP1 hD1
    have hK := hK.app hK1
    generalize H1 = H at hP hS ⊢
    have hP : va_P (dC, dI) vwCl [] H := hP
    have hD : va_D A [] := hD
    have hK : va_K (dC, dI) vwCl [(cI, .int), (cZ, .boolean), (cB, .object "ParkTower$Bay")] s := hK
    refine lv_goto (tgt := 11) hx hb dL_power_5 (by decide) ?_
    refine lv_iconst (v := 0) hx hb dL_power_11 (by decide) ?_
    have hP9 := hP.sub (ws' := []) [] rfl
    have hD9 := hD.sub (ws' := []) [] (by decide) rfl
    have hK9 := hK.sub (tys' := []) [] rfl
    refine W.widen (k := 1) (n := 6) (by omega) (by omega) ?_
    exact W.iret (v := 0) hx hb hr (fun t ht hW => ⟨⟨0, (), rfl, by decide, by rw [ht]; exact hP9, va_K.moved hW.alike hK9, hD9⟩, hS.F ht⟩) hS.2.2 dL_power_12
  · skip
    refine lv_aload_n hx hb dL_power_0 rfl (lv_at hl 0 rfl) ?_
    refine lv_iload_n hx hb dL_power_1 rfl (lv_at hl 1 rfl) ?_
    have hPc := hP.sub (ws' := [(x, .inr (5, [.ref rk, .ref bs, .ref od, .ref jb, .ref ap, .int 0, .int 1, .int 0, .int 0, .int 0])), (rk, .inr (4, [.ref hd, .ref jm])), (hd, .inl (cI, 96, .inl (fun _ => 0))), (jm, .inl (cZ, 4, .inl (fun _ => 0))), (bs, .inl (cB, 2, .inr (.inr (.inr (.inr (va_up (va_up (fun _ => none) 0 (some b0)) 1 (some b1))))))), (b0, .inr (0, [.int 2, .int 0, .int 0, .int 0, .int 0, .int (-1)])), (b1, .inr (0, [.int 2, .int 0, .int 0, .int 0, .int 0, .int (-1)])), (od, .inr (2, [.ref o1, .ref o2, .ref o3, .int 0])), (jb, .inr (1, [.ref pl, .int (-1), .int 0, .int 0, .int 0]))]) [0, 1, 2, 3, 4, 5, 6, 7, 8] rfl
    have hDc := hD.sub (ws' := [(x, .inr (5, [.ref rk, .ref bs, .ref od, .ref jb, .ref ap, .int 0, .int 1, .int 0, .int 0, .int 0])), (rk, .inr (4, [.ref hd, .ref jm])), (hd, .inl (cI, 96, .inl (fun _ => 0))), (jm, .inl (cZ, 4, .inl (fun _ => 0))), (bs, .inl (cB, 2, .inr (.inr (.inr (.inr (va_up (va_up (fun _ => none) 0 (some b0)) 1 (some b1))))))), (b0, .inr (0, [.int 2, .int 0, .int 0, .int 0, .int 0, .int (-1)])), (b1, .inr (0, [.int 2, .int 0, .int 0, .int 0, .int 0, .int (-1)])), (od, .inr (2, [.ref o1, .ref o2, .ref o3, .int 0])), (jb, .inr (1, [.ref pl, .int (-1), .int 0, .int 0, .int 0]))]) [0, 1, 2, 3, 4, 5, 6, 7, 8] (by decide) rfl
    have hKc := hK.sub (tys' := [(cI, .int), (cZ, .boolean), (cB, .object "ParkTower$Bay")]) [0, 1, 2] rfl
    refine vx_callv (vx_runV (As := [.int 1]) (rest := []) ⟨hx, hb, hml, hown, hts⟩ (t_power l hlt dC dI _ x rk hd jm bs b0 b1 od o1 o2 o3 jb pl ap cI cZ cB) (cwV 1 hts gL_power_X7_power rfl rfl rfl (by decide +kernel) ⟨Nat.le_of_ble_eq_true rfl, Nat.le_of_ble_eq_true rfl⟩) ⟨pt_blindT, va_recv hK hP (ci := 5) (q0 := 0) rfl rfl, pt_preT hPc hKc hDc hN hE hZ⟩ rfl rfl hl.1 rfl (lv_room (Nat.le_of_ble_eq_true rfl)) dL_power_2 ⟨Nat.le_of_ble_eq_true rfl, Nat.le_of_ble_eq_true rfl⟩) hS (fun q h1 h2 => absurd h1 (Nat.not_lt.mpr h2)) (fun q h => hA q h) (fun q h1 h2 => absurd h1 (Nat.not_lt.mpr h2)) (fun E ce q9 u t H1 locs ht hvm hp hEE hz1 hk1 hS hce hcv hcl => ?_) (fun u t H1 locs ht hvm hw hB hz1 hk1 hS => hw.elim)
    subst hEE
    have hP := pt_stay hP hk1
    generalize H1 = H at hP hS hce ⊢
    have hP : va_P (dC, dI) vwCl [(x, .inr (5, [.ref rk, .ref bs, .ref od, .ref jb, .ref ap, .int 0, .int 1, .int 0, .int 0, .int 0])), (rk, .inr (4, [.ref hd, .ref jm])), (hd, .inl (cI, 96, .inl (fun _ => 0))), (jm, .inl (cZ, 4, .inl (fun _ => 0))), (bs, .inl (cB, 2, .inr (.inr (.inr (.inr (va_up (va_up (fun _ => none) 0 (some b0)) 1 (some b1))))))), (b0, .inr (0, [.int 2, .int 0, .int 0, .int 0, .int 0, .int (-1)])), (b1, .inr (0, [.int 2, .int 0, .int 0, .int 0, .int 0, .int (-1)])), (od, .inr (2, [.ref o1, .ref o2, .ref o3, .int 0])), (jb, .inr (1, [.ref pl, .int (-1), .int 0, .int 0, .int 0]))] H := hP
    have hD : va_D A [(x, .inr (5, [.ref rk, .ref bs, .ref od, .ref jb, .ref ap, .int 0, .int 1, .int 0, .int 0, .int 0])), (rk, .inr (4, [.ref hd, .ref jm])), (hd, .inl (cI, 96, .inl (fun _ => 0))), (jm, .inl (cZ, 4, .inl (fun _ => 0))), (bs, .inl (cB, 2, .inr (.inr (.inr (.inr (va_up (va_up (fun _ => none) 0 (some b0)) 1 (some b1))))))), (b0, .inr (0, [.int 2, .int 0, .int 0, .int 0, .int 0, .int (-1)])), (b1, .inr (0, [.int 2, .int 0, .int 0, .int 0, .int 0, .int (-1)])), (od, .inr (2, [.ref o1, .ref o2, .ref o3, .int 0])), (jb, .inr (1, [.ref pl, .int (-1), .int 0, .int 0, .int 0]))] := hD
    refine vx_catch (name := "java/lang/IllegalStateException") hown [] ⟨0, 5, 8, 19⟩ [] (by rw [htab]; rfl) (fun z hz => by cases hz) (by decide) (by decide) (hts (.classLink RL 19 "java/lang/IllegalStateException") (by decide +kernel)) (va_Nw.use rfl (hE.1 (.castable "java/lang/IllegalStateException" "java/lang/IllegalStateException") (by decide +kernel))) hce hcv hcl ?_
    refine W.widen (k := 1) (n := 6) (by omega) (by omega) ?_
    refine lv_astore_n (lv' := [(2, .ref q9), (0, .ref x), (1, .int 1)]) hx hb dL_power_8 rfl hl (by decide) rfl (fun ls hl => ?_)
    refine lv_iconst (v := 1) hx hb dL_power_9 (by decide) ?_
    have hP9 := hP.sub (ws' := []) [] rfl
    have hD9 := hD.sub (ws' := []) [] (by decide) rfl
    have hK9 := hK.sub (tys' := []) [] rfl
    refine W.widen (k := 1) (n := 6) (by omega) (by omega) ?_
    exact W.iret (v := 1) hx hb hr (fun t ht hW => ⟨⟨1, (), rfl, by decide, by rw [ht]; exact hP9, va_K.moved hW.alike hK9, hD9⟩, hS.F ht⟩) hS.2.2 dL_power_10
set_option maxHeartbeats 4000000 in
set_option maxRecDepth 100000 in
theorem w_tick (l : Launch) (hlt : l.stackTraces = false) (dC : Nat → ClassId) (dI : Nat → Nat → Nat) (sz : Nat) (x rk hd jm bs b0 b1 od o1 o2 o3 jb pl ap : Nat) (cI cZ cB : ClassId) (ot : Nat) (cL : ClassId) (f : Nat → Int64) (n : Int32) : Met l yL_tick wsL_tick ({ frames := 7, cells := 1, slots := 6, locals := 111 }) (va_Pc [.ref x, .int n, .ref ot] (pt_BT (dC, dI) [(x, .inr (5, [.ref rk, .ref bs, .ref od, .ref jb, .ref ap, .int 0, .int 1, .int 0, .int 0, .int 0])), (rk, .inr (4, [.ref hd, .ref jm])), (hd, .inl (cI, 96, .inl (fun _ => 0))), (jm, .inl (cZ, 4, .inl (fun _ => 0))), (bs, .inl (cB, 2, .inr (.inr (.inr (.inr (va_up (va_up (fun _ => none) 0 (some b0)) 1 (some b1))))))), (b0, .inr (0, [.int 2, .int 0, .int 0, .int 0, .int 0, .int (-1)])), (b1, .inr (0, [.int 2, .int 0, .int 0, .int 0, .int 0, .int (-1)])), (od, .inr (2, [.ref o1, .ref o2, .ref o3, .int 0])), (jb, .inr (1, [.ref pl, .int (-1), .int 0, .int 0, .int 0])), (ot, .inl (cL, 1, .inr (.inl f)))] [(cI, .int), (cZ, .boolean), (cB, .object "ParkTower$Bay"), (cL, .long)] sz)) (va_Qi (fun (r : Int32) (g : Nat → Int64) => r = (if ¬ n < 1 ∧ n ≤ 500 then 0 else 1) ∧ (r = 0 → g 0 = (n : Int32).toInt64)) (fun g t => pt_at (dC, dI) (va_A [(x, .inr (5, [.ref rk, .ref bs, .ref od, .ref jb, .ref ap, .int 0, .int 1, .int 0, .int 0, .int 0])), (rk, .inr (4, [.ref hd, .ref jm])), (hd, .inl (cI, 96, .inl (fun _ => 0))), (jm, .inl (cZ, 4, .inl (fun _ => 0))), (bs, .inl (cB, 2, .inr (.inr (.inr (.inr (va_up (va_up (fun _ => none) 0 (some b0)) 1 (some b1))))))), (b0, .inr (0, [.int 2, .int 0, .int 0, .int 0, .int 0, .int (-1)])), (b1, .inr (0, [.int 2, .int 0, .int 0, .int 0, .int 0, .int (-1)])), (od, .inr (2, [.ref o1, .ref o2, .ref o3, .int 0])), (jb, .inr (1, [.ref pl, .int (-1), .int 0, .int 0, .int 0])), (ot, .inl (cL, 1, .inr (.inl f)))] sz) [(ot, .inl (cL, 1, .inr (.inl g)))] [] t) (va_A [(x, .inr (5, [.ref rk, .ref bs, .ref od, .ref jb, .ref ap, .int 0, .int 1, .int 0, .int 0, .int 0])), (rk, .inr (4, [.ref hd, .ref jm])), (hd, .inl (cI, 96, .inl (fun _ => 0))), (jm, .inl (cZ, 4, .inl (fun _ => 0))), (bs, .inl (cB, 2, .inr (.inr (.inr (.inr (va_up (va_up (fun _ => none) 0 (some b0)) 1 (some b1))))))), (b0, .inr (0, [.int 2, .int 0, .int 0, .int 0, .int 0, .int (-1)])), (b1, .inr (0, [.int 2, .int 0, .int 0, .int 0, .int 0, .int (-1)])), (od, .inr (2, [.ref o1, .ref o2, .ref o3, .int 0])), (jb, .inr (1, [.ref pl, .int (-1), .int 0, .int 0, .int 0])), (ot, .inl (cL, 1, .inr (.inl f)))] sz)) 1 6 (va_A [(x, .inr (5, [.ref rk, .ref bs, .ref od, .ref jb, .ref ap, .int 0, .int 1, .int 0, .int 0, .int 0])), (rk, .inr (4, [.ref hd, .ref jm])), (hd, .inl (cI, 96, .inl (fun _ => 0))), (jm, .inl (cZ, 4, .inl (fun _ => 0))), (bs, .inl (cB, 2, .inr (.inr (.inr (.inr (va_up (va_up (fun _ => none) 0 (some b0)) 1 (some b1))))))), (b0, .inr (0, [.int 2, .int 0, .int 0, .int 0, .int 0, .int (-1)])), (b1, .inr (0, [.int 2, .int 0, .int 0, .int 0, .int 0, .int (-1)])), (od, .inr (2, [.ref o1, .ref o2, .ref o3, .int 0])), (jb, .inr (1, [.ref pl, .int (-1), .int 0, .int 0, .int 0])), (ot, .inl (cL, 1, .inr (.inl f)))] sz) := by
  refine va_MetW (cc := cL_tick) (maxL := 4) (ret := some .int) (hh := [(0, 9, 12, 13)]) (by decide) rfl ?_
  intro p e s m args below meth c s₁ B hml hv
  obtain ⟨rfl, hsz, hP, hK, hD0, hN, hE, hZ⟩ := hv
  have hx := B.exec
  have hb := B.bytes
  have hr := B.returns
  have hts := atoms_spec (ws := wsL_tick) B.pre
  have hown : s.vm.findClass RL = some m.cls := findClass_of_methodNamed B.named
  have hlocks := B.notSynchronized
  have htab := vx_table (x := yL_tick) B (hts (.codeWith yL_tick cL_tick 4 (some .int) [(0, 9, 12, 13)]) List.mem_cons_self)
  subst hsz
  have hD := hD0.self (sz := s.heap.size)
  generalize hAe : va_A [(x, .inr (5, [.ref rk, .ref bs, .ref od, .ref jb, .ref ap, .int 0, .int 1, .int 0, .int 0, .int 0])), (rk, .inr (4, [.ref hd, .ref jm])), (hd, .inl (cI, 96, .inl (fun _ => 0))), (jm, .inl (cZ, 4, .inl (fun _ => 0))), (bs, .inl (cB, 2, .inr (.inr (.inr (.inr (va_up (va_up (fun _ => none) 0 (some b0)) 1 (some b1))))))), (b0, .inr (0, [.int 2, .int 0, .int 0, .int 0, .int 0, .int (-1)])), (b1, .inr (0, [.int 2, .int 0, .int 0, .int 0, .int 0, .int (-1)])), (od, .inr (2, [.ref o1, .ref o2, .ref o3, .int 0])), (jb, .inr (1, [.ref pl, .int (-1), .int 0, .int 0, .int 0])), (ot, .inl (cL, 1, .inr (.inl f)))] s.heap.size = A at hD ⊢
  have hA : ∀ q : Nat, s.heap.size ≤ q → A q := fun q h => by rw [← hAe]; exact Or.inr h
  have hS : va_S A s.heap s.heap [] := va_S.rf
  have hP : va_P (dC, dI) vwCl [(x, .inr (5, [.ref rk, .ref bs, .ref od, .ref jb, .ref ap, .int 0, .int 1, .int 0, .int 0, .int 0])), (rk, .inr (4, [.ref hd, .ref jm])), (hd, .inl (cI, 96, .inl (fun _ => 0))), (jm, .inl (cZ, 4, .inl (fun _ => 0))), (bs, .inl (cB, 2, .inr (.inr (.inr (.inr (va_up (va_up (fun _ => none) 0 (some b0)) 1 (some b1))))))), (b0, .inr (0, [.int 2, .int 0, .int 0, .int 0, .int 0, .int (-1)])), (b1, .inr (0, [.int 2, .int 0, .int 0, .int 0, .int 0, .int (-1)])), (od, .inr (2, [.ref o1, .ref o2, .ref o3, .int 0])), (jb, .inr (1, [.ref pl, .int (-1), .int 0, .int 0, .int 0])), (ot, .inl (cL, 1, .inr (.inl f)))] s.heap := hP
  have hK : va_K (dC, dI) vwCl [(cI, .int), (cZ, .boolean), (cB, .object "ParkTower$Bay"), (cL, .long)] s := hK
  have hl := lv_entry ([.ref x, .int n, .ref ot]) (n := 4) (Nat.le_of_ble_eq_true rfl)
  rw [lg_entry_eq]
  generalize (lg_sl ([.ref x, .int n, .ref ot]) ++ List.replicate (4 - (lg_sl ([.ref x, .int n, .ref ot])).length) Slot.unset).toArray = ls at hl ⊢
  have hl : lv_has ls 4 [(0, .ref x), (1, .int n), (2, .ref ot)] := hl
  by_cases hok : ¬ n < 1 ∧ n ≤ 500
  · obtain ⟨N, h1, h2, rfl⟩ := pt_500 hok.1 hok.2
    refine lv_aload_n hx hb dL_tick_0 rfl (lv_at hl 2 rfl) ?_
    refine lv_iconst (v := 0) hx hb dL_tick_1 (by decide) ?_
    refine lv_aload_n hx hb dL_tick_2 rfl (lv_at hl 0 rfl) ?_
    refine lv_iload_n hx hb dL_tick_3 rfl (lv_at hl 1 rfl) ?_
    have hPc := hP.sub (ws' := [(x, .inr (5, [.ref rk, .ref bs, .ref od, .ref jb, .ref ap, .int 0, .int 1, .int 0, .int 0, .int 0])), (rk, .inr (4, [.ref hd, .ref jm])), (hd, .inl (cI, 96, .inl (fun _ => 0))), (jm, .inl (cZ, 4, .inl (fun _ => 0))), (bs, .inl (cB, 2, .inr (.inr (.inr (.inr (va_up (va_up (fun _ => none) 0 (some b0)) 1 (some b1))))))), (b0, .inr (0, [.int 2, .int 0, .int 0, .int 0, .int 0, .int (-1)])), (b1, .inr (0, [.int 2, .int 0, .int 0, .int 0, .int 0, .int (-1)])), (od, .inr (2, [.ref o1, .ref o2, .ref o3, .int 0])), (jb, .inr (1, [.ref pl, .int (-1), .int 0, .int 0, .int 0]))]) [0, 1, 2, 3, 4, 5, 6, 7, 8] rfl
    have hDc := hD.sub (ws' := [(x, .inr (5, [.ref rk, .ref bs, .ref od, .ref jb, .ref ap, .int 0, .int 1, .int 0, .int 0, .int 0])), (rk, .inr (4, [.ref hd, .ref jm])), (hd, .inl (cI, 96, .inl (fun _ => 0))), (jm, .inl (cZ, 4, .inl (fun _ => 0))), (bs, .inl (cB, 2, .inr (.inr (.inr (.inr (va_up (va_up (fun _ => none) 0 (some b0)) 1 (some b1))))))), (b0, .inr (0, [.int 2, .int 0, .int 0, .int 0, .int 0, .int (-1)])), (b1, .inr (0, [.int 2, .int 0, .int 0, .int 0, .int 0, .int (-1)])), (od, .inr (2, [.ref o1, .ref o2, .ref o3, .int 0])), (jb, .inr (1, [.ref pl, .int (-1), .int 0, .int 0, .int 0]))]) [0, 1, 2, 3, 4, 5, 6, 7, 8] (by decide) rfl
    have hKc := hK.sub (tys' := [(cI, .int), (cZ, .boolean), (cB, .object "ParkTower$Bay")]) [0, 1, 2] rfl
    have hFc := va_free (wc := [(x, .inr (5, [.ref rk, .ref bs, .ref od, .ref jb, .ref ap, .int 0, .int 1, .int 0, .int 0, .int 0])), (rk, .inr (4, [.ref hd, .ref jm])), (hd, .inl (cI, 96, .inl (fun _ => 0))), (jm, .inl (cZ, 4, .inl (fun _ => 0))), (bs, .inl (cB, 2, .inr (.inr (.inr (.inr (va_up (va_up (fun _ => none) 0 (some b0)) 1 (some b1))))))), (b0, .inr (0, [.int 2, .int 0, .int 0, .int 0, .int 0, .int (-1)])), (b1, .inr (0, [.int 2, .int 0, .int 0, .int 0, .int 0, .int (-1)])), (od, .inr (2, [.ref o1, .ref o2, .ref o3, .int 0])), (jb, .inr (1, [.ref pl, .int (-1), .int 0, .int 0, .int 0]))]) hD hS hA [0, 1, 2, 3, 4, 5, 6, 7, 8] rfl
    refine va_calli (va_runV (As := [.int (nI N)]) (rest := [.int 0, .ref ot]) ⟨hx, hb, hml, hown, hts⟩ (n_tick l dC dI _ x rk hd jm bs b0 b1 od o1 o2 o3 jb pl ap cI cZ cB N h1 h2) (cwV 1 hts gL_tick_X7_tick rfl rfl rfl (by decide +kernel) ⟨Nat.le_of_ble_eq_true rfl, Nat.le_of_ble_eq_true rfl⟩) ⟨pt_blindQ, va_recv hK hP (ci := 5) (q0 := 0) rfl rfl, pt_preQ hPc hKc hDc hN⟩ rfl rfl hl.1 rfl (lv_room (Nat.le_of_ble_eq_true rfl)) dL_tick_4 ⟨Nat.le_of_ble_eq_true rfl, Nat.le_of_ble_eq_true rfl⟩) hS (fun q _ h => hFc q h) hFc (fun r_1 u_1 t H1 locs ht hvm hw_1 hB hz1 hk1 hS => ?_)
    obtain ⟨hP1, hK1, hD1⟩ := hB
    rw [ht] at hP1
    have hK1 := va_K.moved hvm.symm hK1
    obtain ⟨hP, hD⟩ := va_join (wr := [(ot, .inl (cL, 1, .inr (.inl f)))]) (w1 := []) hP hD [0, 1, 2, 3, 4, 5, 6, 7, 8] [9] rfl rfl (by decide) (by decide) hk1 hFc hP1 hD1
    have hK := hK.app hK1
    generalize H1 = H at hP hS ⊢
    have hP : va_P (dC, dI) vwCl [(ot, .inl (cL, 1, .inr (.inl f)))] H := hP
    have hD : va_D A [(ot, .inl (cL, 1, .inr (.inl f)))] := hD
    have hK : va_K (dC, dI) vwCl [(cI, .int), (cZ, .boolean), (cB, .object "ParkTower$Bay"), (cL, .long)] s := hK
    refine lv_i2l (v := r_1.toInt64) hx hb dL_tick_7 rfl ?_
    refine va_last hx hb hK hP hD hS 0 3 rfl rfl (vp_in_iff.mpr (by decide)) dL_tick_8 (fun H locs hP hD hS => ?_)
    have hP : va_P (dC, dI) vwCl [(ot, .inl (cL, 1, .inr (.inl (vp_updL f 0 r_1.toInt64))))] H := hP
    have hD : va_D A [(ot, .inl (cL, 1, .inr (.inl (vp_updL f 0 r_1.toInt64))))] := hD
    refine lv_goto (tgt := 15) hx hb dL_tick_9 (by decide) ?_
    refine lv_iconst (v := 0) hx hb dL_tick_15 (by decide) ?_
    have hP9 := hP.sub (ws' := [(ot, .inl (cL, 1, .inr (.inl (vp_updL f 0 r_1.toInt64))))]) [0] rfl
    have hD9 := hD.sub (ws' := [(ot, .inl (cL, 1, .inr (.inl (vp_updL f 0 r_1.toInt64))))]) [0] (by decide) rfl
    have hK9 := hK.sub (tys' := []) [] rfl
    refine W.widen (k := 1) (n := 6) (by omega) (by omega) ?_
    exact W.iret (v := 0) hx hb hr (fun t ht hW => ⟨⟨0, (vp_updL f 0 r_1.toInt64), rfl, ⟨(if_pos hok).symm, fun _ => congrArg Int32.toInt64 hw_1⟩, by rw [ht]; exact hP9, va_K.moved hW.alike hK9, hD9⟩, hS.F ht⟩) hS.2.2 dL_tick_16
  · skip
    refine lv_aload_n hx hb dL_tick_0 rfl (lv_at hl 2 rfl) ?_
    refine lv_iconst (v := 0) hx hb dL_tick_1 (by decide) ?_
    refine lv_aload_n hx hb dL_tick_2 rfl (lv_at hl 0 rfl) ?_
    refine lv_iload_n hx hb dL_tick_3 rfl (lv_at hl 1 rfl) ?_
    have hPc := hP.sub (ws' := [(x, .inr (5, [.ref rk, .ref bs, .ref od, .ref jb, .ref ap, .int 0, .int 1, .int 0, .int 0, .int 0])), (rk, .inr (4, [.ref hd, .ref jm])), (hd, .inl (cI, 96, .inl (fun _ => 0))), (jm, .inl (cZ, 4, .inl (fun _ => 0))), (bs, .inl (cB, 2, .inr (.inr (.inr (.inr (va_up (va_up (fun _ => none) 0 (some b0)) 1 (some b1))))))), (b0, .inr (0, [.int 2, .int 0, .int 0, .int 0, .int 0, .int (-1)])), (b1, .inr (0, [.int 2, .int 0, .int 0, .int 0, .int 0, .int (-1)])), (od, .inr (2, [.ref o1, .ref o2, .ref o3, .int 0])), (jb, .inr (1, [.ref pl, .int (-1), .int 0, .int 0, .int 0]))]) [0, 1, 2, 3, 4, 5, 6, 7, 8] rfl
    have hDc := hD.sub (ws' := [(x, .inr (5, [.ref rk, .ref bs, .ref od, .ref jb, .ref ap, .int 0, .int 1, .int 0, .int 0, .int 0])), (rk, .inr (4, [.ref hd, .ref jm])), (hd, .inl (cI, 96, .inl (fun _ => 0))), (jm, .inl (cZ, 4, .inl (fun _ => 0))), (bs, .inl (cB, 2, .inr (.inr (.inr (.inr (va_up (va_up (fun _ => none) 0 (some b0)) 1 (some b1))))))), (b0, .inr (0, [.int 2, .int 0, .int 0, .int 0, .int 0, .int (-1)])), (b1, .inr (0, [.int 2, .int 0, .int 0, .int 0, .int 0, .int (-1)])), (od, .inr (2, [.ref o1, .ref o2, .ref o3, .int 0])), (jb, .inr (1, [.ref pl, .int (-1), .int 0, .int 0, .int 0]))]) [0, 1, 2, 3, 4, 5, 6, 7, 8] (by decide) rfl
    have hKc := hK.sub (tys' := [(cI, .int), (cZ, .boolean), (cB, .object "ParkTower$Bay")]) [0, 1, 2] rfl
    refine vx_calli (vx_runV (As := [.int n]) (rest := [.int 0, .ref ot]) ⟨hx, hb, hml, hown, hts⟩ (t_tick l hlt dC dI _ x rk hd jm bs b0 b1 od o1 o2 o3 jb pl ap cI cZ cB n hok) (cwV 1 hts gL_tick_X7_tick rfl rfl rfl (by decide +kernel) ⟨Nat.le_of_ble_eq_true rfl, Nat.le_of_ble_eq_true rfl⟩) ⟨pt_blindT, va_recv hK hP (ci := 5) (q0 := 0) rfl rfl, pt_preT hPc hKc hDc hN hE hZ⟩ rfl rfl hl.1 rfl (lv_room (Nat.le_of_ble_eq_true rfl)) dL_tick_4 ⟨Nat.le_of_ble_eq_true rfl, Nat.le_of_ble_eq_true rfl⟩) hS (fun q h1 h2 => absurd h1 (Nat.not_lt.mpr h2)) (fun q h => hA q h) (fun q h1 h2 => absurd h1 (Nat.not_lt.mpr h2)) (fun E ce q9 u t H1 locs ht hvm hp hEE hz1 hk1 hS hce hcv hcl => ?_) (fun r u t H1 locs ht hvm hw hB hz1 hk1 hS => hw.elim)
    subst hEE
    have hP := pt_stay hP hk1
    generalize H1 = H at hP hS hce ⊢
    have hP : va_P (dC, dI) vwCl [(x, .inr (5, [.ref rk, .ref bs, .ref od, .ref jb, .ref ap, .int 0, .int 1, .int 0, .int 0, .int 0])), (rk, .inr (4, [.ref hd, .ref jm])), (hd, .inl (cI, 96, .inl (fun _ => 0))), (jm, .inl (cZ, 4, .inl (fun _ => 0))), (bs, .inl (cB, 2, .inr (.inr (.inr (.inr (va_up (va_up (fun _ => none) 0 (some b0)) 1 (some b1))))))), (b0, .inr (0, [.int 2, .int 0, .int 0, .int 0, .int 0, .int (-1)])), (b1, .inr (0, [.int 2, .int 0, .int 0, .int 0, .int 0, .int (-1)])), (od, .inr (2, [.ref o1, .ref o2, .ref o3, .int 0])), (jb, .inr (1, [.ref pl, .int (-1), .int 0, .int 0, .int 0])), (ot, .inl (cL, 1, .inr (.inl f)))] H := hP
    have hD : va_D A [(x, .inr (5, [.ref rk, .ref bs, .ref od, .ref jb, .ref ap, .int 0, .int 1, .int 0, .int 0, .int 0])), (rk, .inr (4, [.ref hd, .ref jm])), (hd, .inl (cI, 96, .inl (fun _ => 0))), (jm, .inl (cZ, 4, .inl (fun _ => 0))), (bs, .inl (cB, 2, .inr (.inr (.inr (.inr (va_up (va_up (fun _ => none) 0 (some b0)) 1 (some b1))))))), (b0, .inr (0, [.int 2, .int 0, .int 0, .int 0, .int 0, .int (-1)])), (b1, .inr (0, [.int 2, .int 0, .int 0, .int 0, .int 0, .int (-1)])), (od, .inr (2, [.ref o1, .ref o2, .ref o3, .int 0])), (jb, .inr (1, [.ref pl, .int (-1), .int 0, .int 0, .int 0])), (ot, .inl (cL, 1, .inr (.inl f)))] := hD
    refine vx_catch (name := "java/lang/IllegalArgumentException") hown [] ⟨0, 9, 12, 13⟩ [] (by rw [htab]; rfl) (fun z hz => by cases hz) (by decide) (by decide) (hts (.classLink RL 13 "java/lang/IllegalArgumentException") (by decide +kernel)) (va_Nw.use rfl (hE.1 (.castable "java/lang/IllegalArgumentException" "java/lang/IllegalArgumentException") (by decide +kernel))) hce hcv hcl ?_
    refine W.widen (k := 1) (n := 6) (by omega) (by omega) ?_
    refine lv_astore_n (lv' := [(3, .ref q9), (0, .ref x), (1, .int n), (2, .ref ot)]) hx hb dL_tick_12 rfl hl (by decide) rfl (fun ls hl => ?_)
    refine lv_iconst (v := 1) hx hb dL_tick_13 (by decide) ?_
    have hP9 := hP.sub (ws' := [(ot, .inl (cL, 1, .inr (.inl f)))]) [9] rfl
    have hD9 := hD.sub (ws' := [(ot, .inl (cL, 1, .inr (.inl f)))]) [9] (by decide) rfl
    have hK9 := hK.sub (tys' := []) [] rfl
    refine W.widen (k := 1) (n := 6) (by omega) (by omega) ?_
    exact W.iret (v := 1) hx hb hr (fun t ht hW => ⟨⟨1, f, rfl, ⟨(if_neg hok).symm, fun z => absurd z (by decide)⟩, by rw [ht]; exact hP9, va_K.moved hW.alike hK9, hD9⟩, hS.F ht⟩) hS.2.2 dL_tick_14
set_option maxHeartbeats 4000000 in
set_option maxRecDepth 100000 in
theorem w_cell (l : Launch) (hlt : l.stackTraces = false) (dC : Nat → ClassId) (dI : Nat → Nat → Nat) (sz : Nat) (x rk hd jm bs b0 b1 od o1 o2 o3 jb pl ap : Nat) (cI cZ cB : ClassId) (ot : Nat) (cL : ClassId) (f : Nat → Int64) (k : Int32) : Met l yL_cell wsL_cell ({ frames := 7, cells := 1, slots := 6, locals := 110 }) (va_Pc [.ref x, .int k, .ref ot] (pt_BT (dC, dI) [(x, .inr (5, [.ref rk, .ref bs, .ref od, .ref jb, .ref ap, .int 0, .int 1, .int 0, .int 0, .int 0])), (rk, .inr (4, [.ref hd, .ref jm])), (hd, .inl (cI, 96, .inl (fun _ => 0))), (jm, .inl (cZ, 4, .inl (fun _ => 0))), (bs, .inl (cB, 2, .inr (.inr (.inr (.inr (va_up (va_up (fun _ => none) 0 (some b0)) 1 (some b1))))))), (b0, .inr (0, [.int 2, .int 0, .int 0, .int 0, .int 0, .int (-1)])), (b1, .inr (0, [.int 2, .int 0, .int 0, .int 0, .int 0, .int (-1)])), (od, .inr (2, [.ref o1, .ref o2, .ref o3, .int 0])), (jb, .inr (1, [.ref pl, .int (-1), .int 0, .int 0, .int 0])), (ot, .inl (cL, 1, .inr (.inl f)))] [(cI, .int), (cZ, .boolean), (cB, .object "ParkTower$Bay"), (cL, .long)] sz)) (va_Qi (fun (r : Int32) (g : Nat → Int64) => r = (if ¬ k < 0 ∧ k < 96 then 0 else 1) ∧ (r = 0 → g 0 = (0 : Int32).toInt64)) (fun g t => pt_at (dC, dI) (va_A [(x, .inr (5, [.ref rk, .ref bs, .ref od, .ref jb, .ref ap, .int 0, .int 1, .int 0, .int 0, .int 0])), (rk, .inr (4, [.ref hd, .ref jm])), (hd, .inl (cI, 96, .inl (fun _ => 0))), (jm, .inl (cZ, 4, .inl (fun _ => 0))), (bs, .inl (cB, 2, .inr (.inr (.inr (.inr (va_up (va_up (fun _ => none) 0 (some b0)) 1 (some b1))))))), (b0, .inr (0, [.int 2, .int 0, .int 0, .int 0, .int 0, .int (-1)])), (b1, .inr (0, [.int 2, .int 0, .int 0, .int 0, .int 0, .int (-1)])), (od, .inr (2, [.ref o1, .ref o2, .ref o3, .int 0])), (jb, .inr (1, [.ref pl, .int (-1), .int 0, .int 0, .int 0])), (ot, .inl (cL, 1, .inr (.inl f)))] sz) [(ot, .inl (cL, 1, .inr (.inl g)))] [] t) (va_A [(x, .inr (5, [.ref rk, .ref bs, .ref od, .ref jb, .ref ap, .int 0, .int 1, .int 0, .int 0, .int 0])), (rk, .inr (4, [.ref hd, .ref jm])), (hd, .inl (cI, 96, .inl (fun _ => 0))), (jm, .inl (cZ, 4, .inl (fun _ => 0))), (bs, .inl (cB, 2, .inr (.inr (.inr (.inr (va_up (va_up (fun _ => none) 0 (some b0)) 1 (some b1))))))), (b0, .inr (0, [.int 2, .int 0, .int 0, .int 0, .int 0, .int (-1)])), (b1, .inr (0, [.int 2, .int 0, .int 0, .int 0, .int 0, .int (-1)])), (od, .inr (2, [.ref o1, .ref o2, .ref o3, .int 0])), (jb, .inr (1, [.ref pl, .int (-1), .int 0, .int 0, .int 0])), (ot, .inl (cL, 1, .inr (.inl f)))] sz)) 1 6 (va_A [(x, .inr (5, [.ref rk, .ref bs, .ref od, .ref jb, .ref ap, .int 0, .int 1, .int 0, .int 0, .int 0])), (rk, .inr (4, [.ref hd, .ref jm])), (hd, .inl (cI, 96, .inl (fun _ => 0))), (jm, .inl (cZ, 4, .inl (fun _ => 0))), (bs, .inl (cB, 2, .inr (.inr (.inr (.inr (va_up (va_up (fun _ => none) 0 (some b0)) 1 (some b1))))))), (b0, .inr (0, [.int 2, .int 0, .int 0, .int 0, .int 0, .int (-1)])), (b1, .inr (0, [.int 2, .int 0, .int 0, .int 0, .int 0, .int (-1)])), (od, .inr (2, [.ref o1, .ref o2, .ref o3, .int 0])), (jb, .inr (1, [.ref pl, .int (-1), .int 0, .int 0, .int 0])), (ot, .inl (cL, 1, .inr (.inl f)))] sz) := by
  refine va_MetW (cc := cL_cell) (maxL := 4) (ret := some .int) (hh := [(0, 9, 12, 13)]) (by decide) rfl ?_
  intro p e s m args below meth c s₁ B hml hv
  obtain ⟨rfl, hsz, hP, hK, hD0, hN, hE, hZ⟩ := hv
  have hx := B.exec
  have hb := B.bytes
  have hr := B.returns
  have hts := atoms_spec (ws := wsL_cell) B.pre
  have hown : s.vm.findClass RL = some m.cls := findClass_of_methodNamed B.named
  have hlocks := B.notSynchronized
  have htab := vx_table (x := yL_cell) B (hts (.codeWith yL_cell cL_cell 4 (some .int) [(0, 9, 12, 13)]) List.mem_cons_self)
  subst hsz
  have hD := hD0.self (sz := s.heap.size)
  generalize hAe : va_A [(x, .inr (5, [.ref rk, .ref bs, .ref od, .ref jb, .ref ap, .int 0, .int 1, .int 0, .int 0, .int 0])), (rk, .inr (4, [.ref hd, .ref jm])), (hd, .inl (cI, 96, .inl (fun _ => 0))), (jm, .inl (cZ, 4, .inl (fun _ => 0))), (bs, .inl (cB, 2, .inr (.inr (.inr (.inr (va_up (va_up (fun _ => none) 0 (some b0)) 1 (some b1))))))), (b0, .inr (0, [.int 2, .int 0, .int 0, .int 0, .int 0, .int (-1)])), (b1, .inr (0, [.int 2, .int 0, .int 0, .int 0, .int 0, .int (-1)])), (od, .inr (2, [.ref o1, .ref o2, .ref o3, .int 0])), (jb, .inr (1, [.ref pl, .int (-1), .int 0, .int 0, .int 0])), (ot, .inl (cL, 1, .inr (.inl f)))] s.heap.size = A at hD ⊢
  have hA : ∀ q : Nat, s.heap.size ≤ q → A q := fun q h => by rw [← hAe]; exact Or.inr h
  have hS : va_S A s.heap s.heap [] := va_S.rf
  have hP : va_P (dC, dI) vwCl [(x, .inr (5, [.ref rk, .ref bs, .ref od, .ref jb, .ref ap, .int 0, .int 1, .int 0, .int 0, .int 0])), (rk, .inr (4, [.ref hd, .ref jm])), (hd, .inl (cI, 96, .inl (fun _ => 0))), (jm, .inl (cZ, 4, .inl (fun _ => 0))), (bs, .inl (cB, 2, .inr (.inr (.inr (.inr (va_up (va_up (fun _ => none) 0 (some b0)) 1 (some b1))))))), (b0, .inr (0, [.int 2, .int 0, .int 0, .int 0, .int 0, .int (-1)])), (b1, .inr (0, [.int 2, .int 0, .int 0, .int 0, .int 0, .int (-1)])), (od, .inr (2, [.ref o1, .ref o2, .ref o3, .int 0])), (jb, .inr (1, [.ref pl, .int (-1), .int 0, .int 0, .int 0])), (ot, .inl (cL, 1, .inr (.inl f)))] s.heap := hP
  have hK : va_K (dC, dI) vwCl [(cI, .int), (cZ, .boolean), (cB, .object "ParkTower$Bay"), (cL, .long)] s := hK
  have hl := lv_entry ([.ref x, .int k, .ref ot]) (n := 4) (Nat.le_of_ble_eq_true rfl)
  rw [lg_entry_eq]
  generalize (lg_sl ([.ref x, .int k, .ref ot]) ++ List.replicate (4 - (lg_sl ([.ref x, .int k, .ref ot])).length) Slot.unset).toArray = ls at hl ⊢
  have hl : lv_has ls 4 [(0, .ref x), (1, .int k), (2, .ref ot)] := hl
  by_cases hok : ¬ k < 0 ∧ k < 96
  · skip
    refine lv_aload_n hx hb dL_cell_0 rfl (lv_at hl 2 rfl) ?_
    refine lv_iconst (v := 0) hx hb dL_cell_1 (by decide) ?_
    refine lv_aload_n hx hb dL_cell_2 rfl (lv_at hl 0 rfl) ?_
    refine lv_iload_n hx hb dL_cell_3 rfl (lv_at hl 1 rfl) ?_
    refine pt_cSi (va_runV (As := [.int k]) (rest := [.int 0, .ref ot]) ⟨hx, hb, hml, hown, hts⟩ (c_cell l dC dI x rk hd jm bs b0 b1 od o1 o2 o3 jb pl ap cI cZ cB k hok.1 hok.2 (pt_vin hok.1 hok.2 rfl)) (cwV 1 hts gL_cell_X7_cell rfl rfl rfl (by decide +kernel) ⟨Nat.le_of_ble_eq_true rfl, Nat.le_of_ble_eq_true rfl⟩) ⟨pt_blind, va_recv hK hP (ci := 5) (q0 := 0) rfl rfl, pt_pre (w := [(x, .inr (5, [.ref rk, .ref bs, .ref od, .ref jb, .ref ap, .int 0, .int 1, .int 0, .int 0, .int 0])), (rk, .inr (4, [.ref hd, .ref jm])), (hd, .inl (cI, 96, .inl (fun _ => 0))), (jm, .inl (cZ, 4, .inl (fun _ => 0))), (bs, .inl (cB, 2, .inr (.inr (.inr (.inr (va_up (va_up (fun _ => none) 0 (some b0)) 1 (some b1))))))), (b0, .inr (0, [.int 2, .int 0, .int 0, .int 0, .int 0, .int (-1)])), (b1, .inr (0, [.int 2, .int 0, .int 0, .int 0, .int 0, .int (-1)])), (od, .inr (2, [.ref o1, .ref o2, .ref o3, .int 0])), (jb, .inr (1, [.ref pl, .int (-1), .int 0, .int 0, .int 0]))]) (tys := [(cI, .int), (cZ, .boolean), (cB, .object "ParkTower$Bay")]) (hP.sub [0, 1, 2, 3, 4, 5, 6, 7, 8] rfl) (hK.sub [0, 1, 2] rfl) hN⟩ rfl rfl hl.1 rfl (lv_room (Nat.le_of_ble_eq_true rfl)) dL_cell_4 ⟨Nat.le_of_ble_eq_true rfl, Nat.le_of_ble_eq_true rfl⟩) (fun r_1 hr_1 => ?_)
    refine lv_i2l (v := r_1.toInt64) hx hb dL_cell_7 rfl ?_
    refine va_last hx hb hK hP hD hS 9 3 rfl rfl (vp_in_iff.mpr (by decide)) dL_cell_8 (fun H locs hP hD hS => ?_)
    have hP : va_P (dC, dI) vwCl [(x, .inr (5, [.ref rk, .ref bs, .ref od, .ref jb, .ref ap, .int 0, .int 1, .int 0, .int 0, .int 0])), (rk, .inr (4, [.ref hd, .ref jm])), (hd, .inl (cI, 96, .inl (fun _ => 0))), (jm, .inl (cZ, 4, .inl (fun _ => 0))), (bs, .inl (cB, 2, .inr (.inr (.inr (.inr (va_up (va_up (fun _ => none) 0 (some b0)) 1 (some b1))))))), (b0, .inr (0, [.int 2, .int 0, .int 0, .int 0, .int 0, .int (-1)])), (b1, .inr (0, [.int 2, .int 0, .int 0, .int 0, .int 0, .int (-1)])), (od, .inr (2, [.ref o1, .ref o2, .ref o3, .int 0])), (jb, .inr (1, [.ref pl, .int (-1), .int 0, .int 0, .int 0])), (ot, .inl (cL, 1, .inr (.inl (vp_updL f 0 r_1.toInt64))))] H := hP
    have hD : va_D A [(x, .inr (5, [.ref rk, .ref bs, .ref od, .ref jb, .ref ap, .int 0, .int 1, .int 0, .int 0, .int 0])), (rk, .inr (4, [.ref hd, .ref jm])), (hd, .inl (cI, 96, .inl (fun _ => 0))), (jm, .inl (cZ, 4, .inl (fun _ => 0))), (bs, .inl (cB, 2, .inr (.inr (.inr (.inr (va_up (va_up (fun _ => none) 0 (some b0)) 1 (some b1))))))), (b0, .inr (0, [.int 2, .int 0, .int 0, .int 0, .int 0, .int (-1)])), (b1, .inr (0, [.int 2, .int 0, .int 0, .int 0, .int 0, .int (-1)])), (od, .inr (2, [.ref o1, .ref o2, .ref o3, .int 0])), (jb, .inr (1, [.ref pl, .int (-1), .int 0, .int 0, .int 0])), (ot, .inl (cL, 1, .inr (.inl (vp_updL f 0 r_1.toInt64))))] := hD
    refine lv_goto (tgt := 15) hx hb dL_cell_9 (by decide) ?_
    refine lv_iconst (v := 0) hx hb dL_cell_15 (by decide) ?_
    have hP9 := hP.sub (ws' := [(ot, .inl (cL, 1, .inr (.inl (vp_updL f 0 r_1.toInt64))))]) [9] rfl
    have hD9 := hD.sub (ws' := [(ot, .inl (cL, 1, .inr (.inl (vp_updL f 0 r_1.toInt64))))]) [9] (by decide) rfl
    have hK9 := hK.sub (tys' := []) [] rfl
    refine W.widen (k := 1) (n := 6) (by omega) (by omega) ?_
    exact W.iret (v := 0) hx hb hr (fun t ht hW => ⟨⟨0, (vp_updL f 0 r_1.toInt64), rfl, ⟨(if_pos hok).symm, fun _ => congrArg Int32.toInt64 hr_1⟩, by rw [ht]; exact hP9, va_K.moved hW.alike hK9, hD9⟩, hS.F ht⟩) hS.2.2 dL_cell_16
  · skip
    refine lv_aload_n hx hb dL_cell_0 rfl (lv_at hl 2 rfl) ?_
    refine lv_iconst (v := 0) hx hb dL_cell_1 (by decide) ?_
    refine lv_aload_n hx hb dL_cell_2 rfl (lv_at hl 0 rfl) ?_
    refine lv_iload_n hx hb dL_cell_3 rfl (lv_at hl 1 rfl) ?_
    have hPc := hP.sub (ws' := [(x, .inr (5, [.ref rk, .ref bs, .ref od, .ref jb, .ref ap, .int 0, .int 1, .int 0, .int 0, .int 0])), (rk, .inr (4, [.ref hd, .ref jm])), (hd, .inl (cI, 96, .inl (fun _ => 0))), (jm, .inl (cZ, 4, .inl (fun _ => 0))), (bs, .inl (cB, 2, .inr (.inr (.inr (.inr (va_up (va_up (fun _ => none) 0 (some b0)) 1 (some b1))))))), (b0, .inr (0, [.int 2, .int 0, .int 0, .int 0, .int 0, .int (-1)])), (b1, .inr (0, [.int 2, .int 0, .int 0, .int 0, .int 0, .int (-1)])), (od, .inr (2, [.ref o1, .ref o2, .ref o3, .int 0])), (jb, .inr (1, [.ref pl, .int (-1), .int 0, .int 0, .int 0]))]) [0, 1, 2, 3, 4, 5, 6, 7, 8] rfl
    have hDc := hD.sub (ws' := [(x, .inr (5, [.ref rk, .ref bs, .ref od, .ref jb, .ref ap, .int 0, .int 1, .int 0, .int 0, .int 0])), (rk, .inr (4, [.ref hd, .ref jm])), (hd, .inl (cI, 96, .inl (fun _ => 0))), (jm, .inl (cZ, 4, .inl (fun _ => 0))), (bs, .inl (cB, 2, .inr (.inr (.inr (.inr (va_up (va_up (fun _ => none) 0 (some b0)) 1 (some b1))))))), (b0, .inr (0, [.int 2, .int 0, .int 0, .int 0, .int 0, .int (-1)])), (b1, .inr (0, [.int 2, .int 0, .int 0, .int 0, .int 0, .int (-1)])), (od, .inr (2, [.ref o1, .ref o2, .ref o3, .int 0])), (jb, .inr (1, [.ref pl, .int (-1), .int 0, .int 0, .int 0]))]) [0, 1, 2, 3, 4, 5, 6, 7, 8] (by decide) rfl
    have hKc := hK.sub (tys' := [(cI, .int), (cZ, .boolean), (cB, .object "ParkTower$Bay")]) [0, 1, 2] rfl
    refine vx_calli (vx_runV (As := [.int k]) (rest := [.int 0, .ref ot]) ⟨hx, hb, hml, hown, hts⟩ (t_cell l hlt dC dI _ x rk hd jm bs b0 b1 od o1 o2 o3 jb pl ap cI cZ cB k hok) (cwV 1 hts gL_cell_X7_cell rfl rfl rfl (by decide +kernel) ⟨Nat.le_of_ble_eq_true rfl, Nat.le_of_ble_eq_true rfl⟩) ⟨pt_blindT, va_recv hK hP (ci := 5) (q0 := 0) rfl rfl, pt_preT hPc hKc hDc hN hE hZ⟩ rfl rfl hl.1 rfl (lv_room (Nat.le_of_ble_eq_true rfl)) dL_cell_4 ⟨Nat.le_of_ble_eq_true rfl, Nat.le_of_ble_eq_true rfl⟩) hS (fun q h1 h2 => absurd h1 (Nat.not_lt.mpr h2)) (fun q h => hA q h) (fun q h1 h2 => absurd h1 (Nat.not_lt.mpr h2)) (fun E ce q9 u t H1 locs ht hvm hp hEE hz1 hk1 hS hce hcv hcl => ?_) (fun r u t H1 locs ht hvm hw hB hz1 hk1 hS => hw.elim)
    subst hEE
    have hP := pt_stay hP hk1
    generalize H1 = H at hP hS hce ⊢
    have hP : va_P (dC, dI) vwCl [(x, .inr (5, [.ref rk, .ref bs, .ref od, .ref jb, .ref ap, .int 0, .int 1, .int 0, .int 0, .int 0])), (rk, .inr (4, [.ref hd, .ref jm])), (hd, .inl (cI, 96, .inl (fun _ => 0))), (jm, .inl (cZ, 4, .inl (fun _ => 0))), (bs, .inl (cB, 2, .inr (.inr (.inr (.inr (va_up (va_up (fun _ => none) 0 (some b0)) 1 (some b1))))))), (b0, .inr (0, [.int 2, .int 0, .int 0, .int 0, .int 0, .int (-1)])), (b1, .inr (0, [.int 2, .int 0, .int 0, .int 0, .int 0, .int (-1)])), (od, .inr (2, [.ref o1, .ref o2, .ref o3, .int 0])), (jb, .inr (1, [.ref pl, .int (-1), .int 0, .int 0, .int 0])), (ot, .inl (cL, 1, .inr (.inl f)))] H := hP
    have hD : va_D A [(x, .inr (5, [.ref rk, .ref bs, .ref od, .ref jb, .ref ap, .int 0, .int 1, .int 0, .int 0, .int 0])), (rk, .inr (4, [.ref hd, .ref jm])), (hd, .inl (cI, 96, .inl (fun _ => 0))), (jm, .inl (cZ, 4, .inl (fun _ => 0))), (bs, .inl (cB, 2, .inr (.inr (.inr (.inr (va_up (va_up (fun _ => none) 0 (some b0)) 1 (some b1))))))), (b0, .inr (0, [.int 2, .int 0, .int 0, .int 0, .int 0, .int (-1)])), (b1, .inr (0, [.int 2, .int 0, .int 0, .int 0, .int 0, .int (-1)])), (od, .inr (2, [.ref o1, .ref o2, .ref o3, .int 0])), (jb, .inr (1, [.ref pl, .int (-1), .int 0, .int 0, .int 0])), (ot, .inl (cL, 1, .inr (.inl f)))] := hD
    refine vx_catch (name := "java/lang/IllegalArgumentException") hown [] ⟨0, 9, 12, 13⟩ [] (by rw [htab]; rfl) (fun z hz => by cases hz) (by decide) (by decide) (hts (.classLink RL 13 "java/lang/IllegalArgumentException") (by decide +kernel)) (va_Nw.use rfl (hE.1 (.castable "java/lang/IllegalArgumentException" "java/lang/IllegalArgumentException") (by decide +kernel))) hce hcv hcl ?_
    refine W.widen (k := 1) (n := 6) (by omega) (by omega) ?_
    refine lv_astore_n (lv' := [(3, .ref q9), (0, .ref x), (1, .int k), (2, .ref ot)]) hx hb dL_cell_12 rfl hl (by decide) rfl (fun ls hl => ?_)
    refine lv_iconst (v := 1) hx hb dL_cell_13 (by decide) ?_
    have hP9 := hP.sub (ws' := [(ot, .inl (cL, 1, .inr (.inl f)))]) [9] rfl
    have hD9 := hD.sub (ws' := [(ot, .inl (cL, 1, .inr (.inl f)))]) [9] (by decide) rfl
    have hK9 := hK.sub (tys' := []) [] rfl
    refine W.widen (k := 1) (n := 6) (by omega) (by omega) ?_
    exact W.iret (v := 1) hx hb hr (fun t ht hW => ⟨⟨1, f, rfl, ⟨(if_neg hok).symm, fun z => absurd z (by decide)⟩, by rw [ht]; exact hP9, va_K.moved hW.alike hK9, hD9⟩, hS.F ht⟩) hS.2.2 dL_cell_14
set_option maxHeartbeats 4000000 in
set_option maxRecDepth 100000 in
theorem w_bay (l : Launch) (hlt : l.stackTraces = false) (dC : Nat → ClassId) (dI : Nat → Nat → Nat) (sz : Nat) (x rk hd jm bs b0 b1 od o1 o2 o3 jb pl ap : Nat) (cI cZ cB : ClassId) (ot : Nat) (cL : ClassId) (f : Nat → Int64) (b k : Int32) : Met l yL_bay wsL_bay ({ frames := 7, cells := 1, slots := 6, locals := 112 }) (va_Pc [.ref x, .int b, .int k, .ref ot] (pt_BT (dC, dI) [(x, .inr (5, [.ref rk, .ref bs, .ref od, .ref jb, .ref ap, .int 0, .int 1, .int 0, .int 0, .int 0])), (rk, .inr (4, [.ref hd, .ref jm])), (hd, .inl (cI, 96, .inl (fun _ => 0))), (jm, .inl (cZ, 4, .inl (fun _ => 0))), (bs, .inl (cB, 2, .inr (.inr (.inr (.inr (va_up (va_up (fun _ => none) 0 (some b0)) 1 (some b1))))))), (b0, .inr (0, [.int 2, .int 0, .int 0, .int 0, .int 0, .int (-1)])), (b1, .inr (0, [.int 2, .int 0, .int 0, .int 0, .int 0, .int (-1)])), (od, .inr (2, [.ref o1, .ref o2, .ref o3, .int 0])), (jb, .inr (1, [.ref pl, .int (-1), .int 0, .int 0, .int 0])), (ot, .inl (cL, 1, .inr (.inl f)))] [(cI, .int), (cZ, .boolean), (cB, .object "ParkTower$Bay"), (cL, .long)] sz)) (va_Qi (fun (r : Int32) (g : Nat → Int64) => r = (if (b = 0 ∨ b = 1) ∧ (k = 0 ∨ k = 1 ∨ k = 2 ∨ k = 3 ∨ k = 4) then 0 else 1) ∧ (r = 0 → g 0 = ((if k = 0 then 2 else 0) : Int32).toInt64)) (fun g t => pt_at (dC, dI) (va_A [(x, .inr (5, [.ref rk, .ref bs, .ref od, .ref jb, .ref ap, .int 0, .int 1, .int 0, .int 0, .int 0])), (rk, .inr (4, [.ref hd, .ref jm])), (hd, .inl (cI, 96, .inl (fun _ => 0))), (jm, .inl (cZ, 4, .inl (fun _ => 0))), (bs, .inl (cB, 2, .inr (.inr (.inr (.inr (va_up (va_up (fun _ => none) 0 (some b0)) 1 (some b1))))))), (b0, .inr (0, [.int 2, .int 0, .int 0, .int 0, .int 0, .int (-1)])), (b1, .inr (0, [.int 2, .int 0, .int 0, .int 0, .int 0, .int (-1)])), (od, .inr (2, [.ref o1, .ref o2, .ref o3, .int 0])), (jb, .inr (1, [.ref pl, .int (-1), .int 0, .int 0, .int 0])), (ot, .inl (cL, 1, .inr (.inl f)))] sz) [(ot, .inl (cL, 1, .inr (.inl g)))] [] t) (va_A [(x, .inr (5, [.ref rk, .ref bs, .ref od, .ref jb, .ref ap, .int 0, .int 1, .int 0, .int 0, .int 0])), (rk, .inr (4, [.ref hd, .ref jm])), (hd, .inl (cI, 96, .inl (fun _ => 0))), (jm, .inl (cZ, 4, .inl (fun _ => 0))), (bs, .inl (cB, 2, .inr (.inr (.inr (.inr (va_up (va_up (fun _ => none) 0 (some b0)) 1 (some b1))))))), (b0, .inr (0, [.int 2, .int 0, .int 0, .int 0, .int 0, .int (-1)])), (b1, .inr (0, [.int 2, .int 0, .int 0, .int 0, .int 0, .int (-1)])), (od, .inr (2, [.ref o1, .ref o2, .ref o3, .int 0])), (jb, .inr (1, [.ref pl, .int (-1), .int 0, .int 0, .int 0])), (ot, .inl (cL, 1, .inr (.inl f)))] sz)) 1 6 (va_A [(x, .inr (5, [.ref rk, .ref bs, .ref od, .ref jb, .ref ap, .int 0, .int 1, .int 0, .int 0, .int 0])), (rk, .inr (4, [.ref hd, .ref jm])), (hd, .inl (cI, 96, .inl (fun _ => 0))), (jm, .inl (cZ, 4, .inl (fun _ => 0))), (bs, .inl (cB, 2, .inr (.inr (.inr (.inr (va_up (va_up (fun _ => none) 0 (some b0)) 1 (some b1))))))), (b0, .inr (0, [.int 2, .int 0, .int 0, .int 0, .int 0, .int (-1)])), (b1, .inr (0, [.int 2, .int 0, .int 0, .int 0, .int 0, .int (-1)])), (od, .inr (2, [.ref o1, .ref o2, .ref o3, .int 0])), (jb, .inr (1, [.ref pl, .int (-1), .int 0, .int 0, .int 0])), (ot, .inl (cL, 1, .inr (.inl f)))] sz) := by
  refine va_MetW (cc := cL_bay) (maxL := 5) (ret := some .int) (hh := [(0, 10, 13, 13)]) (by decide) rfl ?_
  intro p e s m args below meth c s₁ B hml hv
  obtain ⟨rfl, hsz, hP, hK, hD0, hN, hE, hZ⟩ := hv
  have hx := B.exec
  have hb := B.bytes
  have hr := B.returns
  have hts := atoms_spec (ws := wsL_bay) B.pre
  have hown : s.vm.findClass RL = some m.cls := findClass_of_methodNamed B.named
  have hlocks := B.notSynchronized
  have htab := vx_table (x := yL_bay) B (hts (.codeWith yL_bay cL_bay 5 (some .int) [(0, 10, 13, 13)]) List.mem_cons_self)
  subst hsz
  have hD := hD0.self (sz := s.heap.size)
  generalize hAe : va_A [(x, .inr (5, [.ref rk, .ref bs, .ref od, .ref jb, .ref ap, .int 0, .int 1, .int 0, .int 0, .int 0])), (rk, .inr (4, [.ref hd, .ref jm])), (hd, .inl (cI, 96, .inl (fun _ => 0))), (jm, .inl (cZ, 4, .inl (fun _ => 0))), (bs, .inl (cB, 2, .inr (.inr (.inr (.inr (va_up (va_up (fun _ => none) 0 (some b0)) 1 (some b1))))))), (b0, .inr (0, [.int 2, .int 0, .int 0, .int 0, .int 0, .int (-1)])), (b1, .inr (0, [.int 2, .int 0, .int 0, .int 0, .int 0, .int (-1)])), (od, .inr (2, [.ref o1, .ref o2, .ref o3, .int 0])), (jb, .inr (1, [.ref pl, .int (-1), .int 0, .int 0, .int 0])), (ot, .inl (cL, 1, .inr (.inl f)))] s.heap.size = A at hD ⊢
  have hA : ∀ q : Nat, s.heap.size ≤ q → A q := fun q h => by rw [← hAe]; exact Or.inr h
  have hS : va_S A s.heap s.heap [] := va_S.rf
  have hP : va_P (dC, dI) vwCl [(x, .inr (5, [.ref rk, .ref bs, .ref od, .ref jb, .ref ap, .int 0, .int 1, .int 0, .int 0, .int 0])), (rk, .inr (4, [.ref hd, .ref jm])), (hd, .inl (cI, 96, .inl (fun _ => 0))), (jm, .inl (cZ, 4, .inl (fun _ => 0))), (bs, .inl (cB, 2, .inr (.inr (.inr (.inr (va_up (va_up (fun _ => none) 0 (some b0)) 1 (some b1))))))), (b0, .inr (0, [.int 2, .int 0, .int 0, .int 0, .int 0, .int (-1)])), (b1, .inr (0, [.int 2, .int 0, .int 0, .int 0, .int 0, .int (-1)])), (od, .inr (2, [.ref o1, .ref o2, .ref o3, .int 0])), (jb, .inr (1, [.ref pl, .int (-1), .int 0, .int 0, .int 0])), (ot, .inl (cL, 1, .inr (.inl f)))] s.heap := hP
  have hK : va_K (dC, dI) vwCl [(cI, .int), (cZ, .boolean), (cB, .object "ParkTower$Bay"), (cL, .long)] s := hK
  have hl := lv_entry ([.ref x, .int b, .int k, .ref ot]) (n := 5) (Nat.le_of_ble_eq_true rfl)
  rw [lg_entry_eq]
  generalize (lg_sl ([.ref x, .int b, .int k, .ref ot]) ++ List.replicate (5 - (lg_sl ([.ref x, .int b, .int k, .ref ot])).length) Slot.unset).toArray = ls at hl ⊢
  have hl : lv_has ls 5 [(0, .ref x), (1, .int b), (2, .int k), (3, .ref ot)] := hl
  by_cases hok : b = 0 ∨ b = 1
  · rcases pt_sw4 k with hk | hk
    · skip
      refine lv_aload_n hx hb dL_bay_0 rfl (lv_at hl 3 rfl) ?_
      refine lv_iconst (v := 0) hx hb dL_bay_1 (by decide) ?_
      refine lv_aload_n hx hb dL_bay_2 rfl (lv_at hl 0 rfl) ?_
      refine lv_iload_n hx hb dL_bay_3 rfl (lv_at hl 1 rfl) ?_
      refine lv_iload_n hx hb dL_bay_4 rfl (lv_at hl 2 rfl) ?_
      refine pt_cSi (va_runV (As := [.int b, .int k]) (rest := [.int 0, .ref ot]) ⟨hx, hb, hml, hown, hts⟩ (c_bay l dC dI x rk hd jm bs b0 b1 od o1 o2 o3 jb pl ap cI cZ cB b k hok hk) (cwV 2 hts gL_bay_X7_bay rfl rfl rfl (by decide +kernel) ⟨Nat.le_of_ble_eq_true rfl, Nat.le_of_ble_eq_true rfl⟩) ⟨pt_blind, va_recv hK hP (ci := 5) (q0 := 0) rfl rfl, pt_pre (w := [(x, .inr (5, [.ref rk, .ref bs, .ref od, .ref jb, .ref ap, .int 0, .int 1, .int 0, .int 0, .int 0])), (rk, .inr (4, [.ref hd, .ref jm])), (hd, .inl (cI, 96, .inl (fun _ => 0))), (jm, .inl (cZ, 4, .inl (fun _ => 0))), (bs, .inl (cB, 2, .inr (.inr (.inr (.inr (va_up (va_up (fun _ => none) 0 (some b0)) 1 (some b1))))))), (b0, .inr (0, [.int 2, .int 0, .int 0, .int 0, .int 0, .int (-1)])), (b1, .inr (0, [.int 2, .int 0, .int 0, .int 0, .int 0, .int (-1)])), (od, .inr (2, [.ref o1, .ref o2, .ref o3, .int 0])), (jb, .inr (1, [.ref pl, .int (-1), .int 0, .int 0, .int 0]))]) (tys := [(cI, .int), (cZ, .boolean), (cB, .object "ParkTower$Bay")]) (hP.sub [0, 1, 2, 3, 4, 5, 6, 7, 8] rfl) (hK.sub [0, 1, 2] rfl) hN⟩ rfl rfl hl.1 rfl (lv_room (Nat.le_of_ble_eq_true rfl)) dL_bay_5 ⟨Nat.le_of_ble_eq_true rfl, Nat.le_of_ble_eq_true rfl⟩) (fun r_1 hr_1 => ?_)
      refine lv_i2l (v := r_1.toInt64) hx hb dL_bay_8 rfl ?_
      refine va_last hx hb hK hP hD hS 9 3 rfl rfl (vp_in_iff.mpr (by decide)) dL_bay_9 (fun H locs hP hD hS => ?_)
      have hP : va_P (dC, dI) vwCl [(x, .inr (5, [.ref rk, .ref bs, .ref od, .ref jb, .ref ap, .int 0, .int 1, .int 0, .int 0, .int 0])), (rk, .inr (4, [.ref hd, .ref jm])), (hd, .inl (cI, 96, .inl (fun _ => 0))), (jm, .inl (cZ, 4, .inl (fun _ => 0))), (bs, .inl (cB, 2, .inr (.inr (.inr (.inr (va_up (va_up (fun _ => none) 0 (some b0)) 1 (some b1))))))), (b0, .inr (0, [.int 2, .int 0, .int 0, .int 0, .int 0, .int (-1)])), (b1, .inr (0, [.int 2, .int 0, .int 0, .int 0, .int 0, .int (-1)])), (od, .inr (2, [.ref o1, .ref o2, .ref o3, .int 0])), (jb, .inr (1, [.ref pl, .int (-1), .int 0, .int 0, .int 0])), (ot, .inl (cL, 1, .inr (.inl (vp_updL f 0 r_1.toInt64))))] H := hP
      have hD : va_D A [(x, .inr (5, [.ref rk, .ref bs, .ref od, .ref jb, .ref ap, .int 0, .int 1, .int 0, .int 0, .int 0])), (rk, .inr (4, [.ref hd, .ref jm])), (hd, .inl (cI, 96, .inl (fun _ => 0))), (jm, .inl (cZ, 4, .inl (fun _ => 0))), (bs, .inl (cB, 2, .inr (.inr (.inr (.inr (va_up (va_up (fun _ => none) 0 (some b0)) 1 (some b1))))))), (b0, .inr (0, [.int 2, .int 0, .int 0, .int 0, .int 0, .int (-1)])), (b1, .inr (0, [.int 2, .int 0, .int 0, .int 0, .int 0, .int (-1)])), (od, .inr (2, [.ref o1, .ref o2, .ref o3, .int 0])), (jb, .inr (1, [.ref pl, .int (-1), .int 0, .int 0, .int 0])), (ot, .inl (cL, 1, .inr (.inl (vp_updL f 0 r_1.toInt64))))] := hD
      refine lv_goto (tgt := 17) hx hb dL_bay_10 (by decide) ?_
      refine lv_iconst (v := 0) hx hb dL_bay_17 (by decide) ?_
      have hP9 := hP.sub (ws' := [(ot, .inl (cL, 1, .inr (.inl (vp_updL f 0 r_1.toInt64))))]) [9] rfl
      have hD9 := hD.sub (ws' := [(ot, .inl (cL, 1, .inr (.inl (vp_updL f 0 r_1.toInt64))))]) [9] (by decide) rfl
      have hK9 := hK.sub (tys' := []) [] rfl
      refine W.widen (k := 1) (n := 6) (by omega) (by omega) ?_
      exact W.iret (v := 0) hx hb hr (fun t ht hW => ⟨⟨0, (vp_updL f 0 r_1.toInt64), rfl, ⟨(if_pos ⟨hok, hk⟩).symm, fun _ => congrArg Int32.toInt64 hr_1⟩, by rw [ht]; exact hP9, va_K.moved hW.alike hK9, hD9⟩, hS.F ht⟩) hS.2.2 dL_bay_18
    · have hkn : ¬ (k = 0 ∨ k = 1 ∨ k = 2 ∨ k = 3 ∨ k = 4) := by intro h; rcases h with rfl | rfl | rfl | rfl | rfl <;> revert hk <;> decide
      rcases hok with rfl | rfl
      · skip
        refine lv_aload_n hx hb dL_bay_0 rfl (lv_at hl 3 rfl) ?_
        refine lv_iconst (v := 0) hx hb dL_bay_1 (by decide) ?_
        refine lv_aload_n hx hb dL_bay_2 rfl (lv_at hl 0 rfl) ?_
        refine lv_iload_n hx hb dL_bay_3 rfl (lv_at hl 1 rfl) ?_
        refine lv_iload_n hx hb dL_bay_4 rfl (lv_at hl 2 rfl) ?_
        have hPc := hP.sub (ws' := [(x, .inr (5, [.ref rk, .ref bs, .ref od, .ref jb, .ref ap, .int 0, .int 1, .int 0, .int 0, .int 0])), (rk, .inr (4, [.ref hd, .ref jm])), (hd, .inl (cI, 96, .inl (fun _ => 0))), (jm, .inl (cZ, 4, .inl (fun _ => 0))), (bs, .inl (cB, 2, .inr (.inr (.inr (.inr (va_up (va_up (fun _ => none) 0 (some b0)) 1 (some b1))))))), (b0, .inr (0, [.int 2, .int 0, .int 0, .int 0, .int 0, .int (-1)])), (b1, .inr (0, [.int 2, .int 0, .int 0, .int 0, .int 0, .int (-1)])), (od, .inr (2, [.ref o1, .ref o2, .ref o3, .int 0])), (jb, .inr (1, [.ref pl, .int (-1), .int 0, .int 0, .int 0]))]) [0, 1, 2, 3, 4, 5, 6, 7, 8] rfl
        have hDc := hD.sub (ws' := [(x, .inr (5, [.ref rk, .ref bs, .ref od, .ref jb, .ref ap, .int 0, .int 1, .int 0, .int 0, .int 0])), (rk, .inr (4, [.ref hd, .ref jm])), (hd, .inl (cI, 96, .inl (fun _ => 0))), (jm, .inl (cZ, 4, .inl (fun _ => 0))), (bs, .inl (cB, 2, .inr (.inr (.inr (.inr (va_up (va_up (fun _ => none) 0 (some b0)) 1 (some b1))))))), (b0, .inr (0, [.int 2, .int 0, .int 0, .int 0, .int 0, .int (-1)])), (b1, .inr (0, [.int 2, .int 0, .int 0, .int 0, .int 0, .int (-1)])), (od, .inr (2, [.ref o1, .ref o2, .ref o3, .int 0])), (jb, .inr (1, [.ref pl, .int (-1), .int 0, .int 0, .int 0]))]) [0, 1, 2, 3, 4, 5, 6, 7, 8] (by decide) rfl
        have hKc := hK.sub (tys' := [(cI, .int), (cZ, .boolean), (cB, .object "ParkTower$Bay")]) [0, 1, 2] rfl
        refine vx_calli (vx_runV (As := [.int 0, .int k]) (rest := [.int 0, .ref ot]) ⟨hx, hb, hml, hown, hts⟩ (t_bay0 l hlt dC dI _ x rk hd jm bs b0 b1 od o1 o2 o3 jb pl ap cI cZ cB k hk) (cwV 2 hts gL_bay_X7_bay rfl rfl rfl (by decide +kernel) ⟨Nat.le_of_ble_eq_true rfl, Nat.le_of_ble_eq_true rfl⟩) ⟨pt_blindT, va_recv hK hP (ci := 5) (q0 := 0) rfl rfl, pt_preT hPc hKc hDc hN hE hZ⟩ rfl rfl hl.1 rfl (lv_room (Nat.le_of_ble_eq_true rfl)) dL_bay_5 ⟨Nat.le_of_ble_eq_true rfl, Nat.le_of_ble_eq_true rfl⟩) hS (fun q h1 h2 => absurd h1 (Nat.not_lt.mpr h2)) (fun q h => hA q h) (fun q h1 h2 => absurd h1 (Nat.not_lt.mpr h2)) (fun E ce q9 u t H1 locs ht hvm hp hEE hz1 hk1 hS hce hcv hcl => ?_) (fun r u t H1 locs ht hvm hw hB hz1 hk1 hS => hw.elim)
        subst hEE
        have hP := pt_stay hP hk1
        generalize H1 = H at hP hS hce ⊢
        have hP : va_P (dC, dI) vwCl [(x, .inr (5, [.ref rk, .ref bs, .ref od, .ref jb, .ref ap, .int 0, .int 1, .int 0, .int 0, .int 0])), (rk, .inr (4, [.ref hd, .ref jm])), (hd, .inl (cI, 96, .inl (fun _ => 0))), (jm, .inl (cZ, 4, .inl (fun _ => 0))), (bs, .inl (cB, 2, .inr (.inr (.inr (.inr (va_up (va_up (fun _ => none) 0 (some b0)) 1 (some b1))))))), (b0, .inr (0, [.int 2, .int 0, .int 0, .int 0, .int 0, .int (-1)])), (b1, .inr (0, [.int 2, .int 0, .int 0, .int 0, .int 0, .int (-1)])), (od, .inr (2, [.ref o1, .ref o2, .ref o3, .int 0])), (jb, .inr (1, [.ref pl, .int (-1), .int 0, .int 0, .int 0])), (ot, .inl (cL, 1, .inr (.inl f)))] H := hP
        have hD : va_D A [(x, .inr (5, [.ref rk, .ref bs, .ref od, .ref jb, .ref ap, .int 0, .int 1, .int 0, .int 0, .int 0])), (rk, .inr (4, [.ref hd, .ref jm])), (hd, .inl (cI, 96, .inl (fun _ => 0))), (jm, .inl (cZ, 4, .inl (fun _ => 0))), (bs, .inl (cB, 2, .inr (.inr (.inr (.inr (va_up (va_up (fun _ => none) 0 (some b0)) 1 (some b1))))))), (b0, .inr (0, [.int 2, .int 0, .int 0, .int 0, .int 0, .int (-1)])), (b1, .inr (0, [.int 2, .int 0, .int 0, .int 0, .int 0, .int (-1)])), (od, .inr (2, [.ref o1, .ref o2, .ref o3, .int 0])), (jb, .inr (1, [.ref pl, .int (-1), .int 0, .int 0, .int 0])), (ot, .inl (cL, 1, .inr (.inl f)))] := hD
        refine vx_catch (name := "java/lang/IllegalArgumentException") hown [] ⟨0, 10, 13, 13⟩ [] (by rw [htab]; rfl) (fun z hz => by cases hz) (by decide) (by decide) (hts (.classLink RL 13 "java/lang/IllegalArgumentException") (by decide +kernel)) (va_Nw.use rfl (hE.1 (.castable "java/lang/IllegalArgumentException" "java/lang/IllegalArgumentException") (by decide +kernel))) hce hcv hcl ?_
        refine W.widen (k := 1) (n := 6) (by omega) (by omega) ?_
        refine lv_astore (lv' := [(4, .ref q9), (0, .ref x), (1, .int 0), (2, .int k), (3, .ref ot)]) hx hb dL_bay_13 hl (by decide) rfl (fun ls hl => ?_)
        refine lv_iconst (v := 1) hx hb dL_bay_15 (by decide) ?_
        have hP9 := hP.sub (ws' := [(ot, .inl (cL, 1, .inr (.inl f)))]) [9] rfl
        have hD9 := hD.sub (ws' := [(ot, .inl (cL, 1, .inr (.inl f)))]) [9] (by decide) rfl
        have hK9 := hK.sub (tys' := []) [] rfl
        refine W.widen (k := 1) (n := 6) (by omega) (by omega) ?_
        exact W.iret (v := 1) hx hb hr (fun t ht hW => ⟨⟨1, f, rfl, ⟨(if_neg (fun q => hkn q.2)).symm, fun z => absurd z (by decide)⟩, by rw [ht]; exact hP9, va_K.moved hW.alike hK9, hD9⟩, hS.F ht⟩) hS.2.2 dL_bay_16
      · skip
        refine lv_aload_n hx hb dL_bay_0 rfl (lv_at hl 3 rfl) ?_
        refine lv_iconst (v := 0) hx hb dL_bay_1 (by decide) ?_
        refine lv_aload_n hx hb dL_bay_2 rfl (lv_at hl 0 rfl) ?_
        refine lv_iload_n hx hb dL_bay_3 rfl (lv_at hl 1 rfl) ?_
        refine lv_iload_n hx hb dL_bay_4 rfl (lv_at hl 2 rfl) ?_
        have hPc := hP.sub (ws' := [(x, .inr (5, [.ref rk, .ref bs, .ref od, .ref jb, .ref ap, .int 0, .int 1, .int 0, .int 0, .int 0])), (rk, .inr (4, [.ref hd, .ref jm])), (hd, .inl (cI, 96, .inl (fun _ => 0))), (jm, .inl (cZ, 4, .inl (fun _ => 0))), (bs, .inl (cB, 2, .inr (.inr (.inr (.inr (va_up (va_up (fun _ => none) 0 (some b0)) 1 (some b1))))))), (b0, .inr (0, [.int 2, .int 0, .int 0, .int 0, .int 0, .int (-1)])), (b1, .inr (0, [.int 2, .int 0, .int 0, .int 0, .int 0, .int (-1)])), (od, .inr (2, [.ref o1, .ref o2, .ref o3, .int 0])), (jb, .inr (1, [.ref pl, .int (-1), .int 0, .int 0, .int 0]))]) [0, 1, 2, 3, 4, 5, 6, 7, 8] rfl
        have hDc := hD.sub (ws' := [(x, .inr (5, [.ref rk, .ref bs, .ref od, .ref jb, .ref ap, .int 0, .int 1, .int 0, .int 0, .int 0])), (rk, .inr (4, [.ref hd, .ref jm])), (hd, .inl (cI, 96, .inl (fun _ => 0))), (jm, .inl (cZ, 4, .inl (fun _ => 0))), (bs, .inl (cB, 2, .inr (.inr (.inr (.inr (va_up (va_up (fun _ => none) 0 (some b0)) 1 (some b1))))))), (b0, .inr (0, [.int 2, .int 0, .int 0, .int 0, .int 0, .int (-1)])), (b1, .inr (0, [.int 2, .int 0, .int 0, .int 0, .int 0, .int (-1)])), (od, .inr (2, [.ref o1, .ref o2, .ref o3, .int 0])), (jb, .inr (1, [.ref pl, .int (-1), .int 0, .int 0, .int 0]))]) [0, 1, 2, 3, 4, 5, 6, 7, 8] (by decide) rfl
        have hKc := hK.sub (tys' := [(cI, .int), (cZ, .boolean), (cB, .object "ParkTower$Bay")]) [0, 1, 2] rfl
        refine vx_calli (vx_runV (As := [.int 1, .int k]) (rest := [.int 0, .ref ot]) ⟨hx, hb, hml, hown, hts⟩ (t_bay1 l hlt dC dI _ x rk hd jm bs b0 b1 od o1 o2 o3 jb pl ap cI cZ cB k hk) (cwV 2 hts gL_bay_X7_bay rfl rfl rfl (by decide +kernel) ⟨Nat.le_of_ble_eq_true rfl, Nat.le_of_ble_eq_true rfl⟩) ⟨pt_blindT, va_recv hK hP (ci := 5) (q0 := 0) rfl rfl, pt_preT hPc hKc hDc hN hE hZ⟩ rfl rfl hl.1 rfl (lv_room (Nat.le_of_ble_eq_true rfl)) dL_bay_5 ⟨Nat.le_of_ble_eq_true rfl, Nat.le_of_ble_eq_true rfl⟩) hS (fun q h1 h2 => absurd h1 (Nat.not_lt.mpr h2)) (fun q h => hA q h) (fun q h1 h2 => absurd h1 (Nat.not_lt.mpr h2)) (fun E ce q9 u t H1 locs ht hvm hp hEE hz1 hk1 hS hce hcv hcl => ?_) (fun r u t H1 locs ht hvm hw hB hz1 hk1 hS => hw.elim)
        subst hEE
        have hP := pt_stay hP hk1
        generalize H1 = H at hP hS hce ⊢
        have hP : va_P (dC, dI) vwCl [(x, .inr (5, [.ref rk, .ref bs, .ref od, .ref jb, .ref ap, .int 0, .int 1, .int 0, .int 0, .int 0])), (rk, .inr (4, [.ref hd, .ref jm])), (hd, .inl (cI, 96, .inl (fun _ => 0))), (jm, .inl (cZ, 4, .inl (fun _ => 0))), (bs, .inl (cB, 2, .inr (.inr (.inr (.inr (va_up (va_up (fun _ => none) 0 (some b0)) 1 (some b1))))))), (b0, .inr (0, [.int 2, .int 0, .int 0, .int 0, .int 0, .int (-1)])), (b1, .inr (0, [.int 2, .int 0, .int 0, .int 0, .int 0, .int (-1)])), (od, .inr (2, [.ref o1, .ref o2, .ref o3, .int 0])), (jb, .inr (1, [.ref pl, .int (-1), .int 0, .int 0, .int 0])), (ot, .inl (cL, 1, .inr (.inl f)))] H := hP
        have hD : va_D A [(x, .inr (5, [.ref rk, .ref bs, .ref od, .ref jb, .ref ap, .int 0, .int 1, .int 0, .int 0, .int 0])), (rk, .inr (4, [.ref hd, .ref jm])), (hd, .inl (cI, 96, .inl (fun _ => 0))), (jm, .inl (cZ, 4, .inl (fun _ => 0))), (bs, .inl (cB, 2, .inr (.inr (.inr (.inr (va_up (va_up (fun _ => none) 0 (some b0)) 1 (some b1))))))), (b0, .inr (0, [.int 2, .int 0, .int 0, .int 0, .int 0, .int (-1)])), (b1, .inr (0, [.int 2, .int 0, .int 0, .int 0, .int 0, .int (-1)])), (od, .inr (2, [.ref o1, .ref o2, .ref o3, .int 0])), (jb, .inr (1, [.ref pl, .int (-1), .int 0, .int 0, .int 0])), (ot, .inl (cL, 1, .inr (.inl f)))] := hD
        refine vx_catch (name := "java/lang/IllegalArgumentException") hown [] ⟨0, 10, 13, 13⟩ [] (by rw [htab]; rfl) (fun z hz => by cases hz) (by decide) (by decide) (hts (.classLink RL 13 "java/lang/IllegalArgumentException") (by decide +kernel)) (va_Nw.use rfl (hE.1 (.castable "java/lang/IllegalArgumentException" "java/lang/IllegalArgumentException") (by decide +kernel))) hce hcv hcl ?_
        refine W.widen (k := 1) (n := 6) (by omega) (by omega) ?_
        refine lv_astore (lv' := [(4, .ref q9), (0, .ref x), (1, .int 1), (2, .int k), (3, .ref ot)]) hx hb dL_bay_13 hl (by decide) rfl (fun ls hl => ?_)
        refine lv_iconst (v := 1) hx hb dL_bay_15 (by decide) ?_
        have hP9 := hP.sub (ws' := [(ot, .inl (cL, 1, .inr (.inl f)))]) [9] rfl
        have hD9 := hD.sub (ws' := [(ot, .inl (cL, 1, .inr (.inl f)))]) [9] (by decide) rfl
        have hK9 := hK.sub (tys' := []) [] rfl
        refine W.widen (k := 1) (n := 6) (by omega) (by omega) ?_
        exact W.iret (v := 1) hx hb hr (fun t ht hW => ⟨⟨1, f, rfl, ⟨(if_neg (fun q => hkn q.2)).symm, fun z => absurd z (by decide)⟩, by rw [ht]; exact hP9, va_K.moved hW.alike hK9, hD9⟩, hS.F ht⟩) hS.2.2 dL_bay_16
  · skip
    refine lv_aload_n hx hb dL_bay_0 rfl (lv_at hl 3 rfl) ?_
    refine lv_iconst (v := 0) hx hb dL_bay_1 (by decide) ?_
    refine lv_aload_n hx hb dL_bay_2 rfl (lv_at hl 0 rfl) ?_
    refine lv_iload_n hx hb dL_bay_3 rfl (lv_at hl 1 rfl) ?_
    refine lv_iload_n hx hb dL_bay_4 rfl (lv_at hl 2 rfl) ?_
    have hPc := hP.sub (ws' := [(x, .inr (5, [.ref rk, .ref bs, .ref od, .ref jb, .ref ap, .int 0, .int 1, .int 0, .int 0, .int 0])), (rk, .inr (4, [.ref hd, .ref jm])), (hd, .inl (cI, 96, .inl (fun _ => 0))), (jm, .inl (cZ, 4, .inl (fun _ => 0))), (bs, .inl (cB, 2, .inr (.inr (.inr (.inr (va_up (va_up (fun _ => none) 0 (some b0)) 1 (some b1))))))), (b0, .inr (0, [.int 2, .int 0, .int 0, .int 0, .int 0, .int (-1)])), (b1, .inr (0, [.int 2, .int 0, .int 0, .int 0, .int 0, .int (-1)])), (od, .inr (2, [.ref o1, .ref o2, .ref o3, .int 0])), (jb, .inr (1, [.ref pl, .int (-1), .int 0, .int 0, .int 0]))]) [0, 1, 2, 3, 4, 5, 6, 7, 8] rfl
    have hDc := hD.sub (ws' := [(x, .inr (5, [.ref rk, .ref bs, .ref od, .ref jb, .ref ap, .int 0, .int 1, .int 0, .int 0, .int 0])), (rk, .inr (4, [.ref hd, .ref jm])), (hd, .inl (cI, 96, .inl (fun _ => 0))), (jm, .inl (cZ, 4, .inl (fun _ => 0))), (bs, .inl (cB, 2, .inr (.inr (.inr (.inr (va_up (va_up (fun _ => none) 0 (some b0)) 1 (some b1))))))), (b0, .inr (0, [.int 2, .int 0, .int 0, .int 0, .int 0, .int (-1)])), (b1, .inr (0, [.int 2, .int 0, .int 0, .int 0, .int 0, .int (-1)])), (od, .inr (2, [.ref o1, .ref o2, .ref o3, .int 0])), (jb, .inr (1, [.ref pl, .int (-1), .int 0, .int 0, .int 0]))]) [0, 1, 2, 3, 4, 5, 6, 7, 8] (by decide) rfl
    have hKc := hK.sub (tys' := [(cI, .int), (cZ, .boolean), (cB, .object "ParkTower$Bay")]) [0, 1, 2] rfl
    refine vx_calli (vx_runV (As := [.int b, .int k]) (rest := [.int 0, .ref ot]) ⟨hx, hb, hml, hown, hts⟩ (t_bay l hlt dC dI _ x rk hd jm bs b0 b1 od o1 o2 o3 jb pl ap cI cZ cB b k hok) (cwV 2 hts gL_bay_X7_bay rfl rfl rfl (by decide +kernel) ⟨Nat.le_of_ble_eq_true rfl, Nat.le_of_ble_eq_true rfl⟩) ⟨pt_blindT, va_recv hK hP (ci := 5) (q0 := 0) rfl rfl, pt_preT hPc hKc hDc hN hE hZ⟩ rfl rfl hl.1 rfl (lv_room (Nat.le_of_ble_eq_true rfl)) dL_bay_5 ⟨Nat.le_of_ble_eq_true rfl, Nat.le_of_ble_eq_true rfl⟩) hS (fun q h1 h2 => absurd h1 (Nat.not_lt.mpr h2)) (fun q h => hA q h) (fun q h1 h2 => absurd h1 (Nat.not_lt.mpr h2)) (fun E ce q9 u t H1 locs ht hvm hp hEE hz1 hk1 hS hce hcv hcl => ?_) (fun r u t H1 locs ht hvm hw hB hz1 hk1 hS => hw.elim)
    subst hEE
    have hP := pt_stay hP hk1
    generalize H1 = H at hP hS hce ⊢
    have hP : va_P (dC, dI) vwCl [(x, .inr (5, [.ref rk, .ref bs, .ref od, .ref jb, .ref ap, .int 0, .int 1, .int 0, .int 0, .int 0])), (rk, .inr (4, [.ref hd, .ref jm])), (hd, .inl (cI, 96, .inl (fun _ => 0))), (jm, .inl (cZ, 4, .inl (fun _ => 0))), (bs, .inl (cB, 2, .inr (.inr (.inr (.inr (va_up (va_up (fun _ => none) 0 (some b0)) 1 (some b1))))))), (b0, .inr (0, [.int 2, .int 0, .int 0, .int 0, .int 0, .int (-1)])), (b1, .inr (0, [.int 2, .int 0, .int 0, .int 0, .int 0, .int (-1)])), (od, .inr (2, [.ref o1, .ref o2, .ref o3, .int 0])), (jb, .inr (1, [.ref pl, .int (-1), .int 0, .int 0, .int 0])), (ot, .inl (cL, 1, .inr (.inl f)))] H := hP
    have hD : va_D A [(x, .inr (5, [.ref rk, .ref bs, .ref od, .ref jb, .ref ap, .int 0, .int 1, .int 0, .int 0, .int 0])), (rk, .inr (4, [.ref hd, .ref jm])), (hd, .inl (cI, 96, .inl (fun _ => 0))), (jm, .inl (cZ, 4, .inl (fun _ => 0))), (bs, .inl (cB, 2, .inr (.inr (.inr (.inr (va_up (va_up (fun _ => none) 0 (some b0)) 1 (some b1))))))), (b0, .inr (0, [.int 2, .int 0, .int 0, .int 0, .int 0, .int (-1)])), (b1, .inr (0, [.int 2, .int 0, .int 0, .int 0, .int 0, .int (-1)])), (od, .inr (2, [.ref o1, .ref o2, .ref o3, .int 0])), (jb, .inr (1, [.ref pl, .int (-1), .int 0, .int 0, .int 0])), (ot, .inl (cL, 1, .inr (.inl f)))] := hD
    refine vx_catch (name := "java/lang/IllegalArgumentException") hown [] ⟨0, 10, 13, 13⟩ [] (by rw [htab]; rfl) (fun z hz => by cases hz) (by decide) (by decide) (hts (.classLink RL 13 "java/lang/IllegalArgumentException") (by decide +kernel)) (va_Nw.use rfl (hE.1 (.castable "java/lang/IllegalArgumentException" "java/lang/IllegalArgumentException") (by decide +kernel))) hce hcv hcl ?_
    refine W.widen (k := 1) (n := 6) (by omega) (by omega) ?_
    refine lv_astore (lv' := [(4, .ref q9), (0, .ref x), (1, .int b), (2, .int k), (3, .ref ot)]) hx hb dL_bay_13 hl (by decide) rfl (fun ls hl => ?_)
    refine lv_iconst (v := 1) hx hb dL_bay_15 (by decide) ?_
    have hP9 := hP.sub (ws' := [(ot, .inl (cL, 1, .inr (.inl f)))]) [9] rfl
    have hD9 := hD.sub (ws' := [(ot, .inl (cL, 1, .inr (.inl f)))]) [9] (by decide) rfl
    have hK9 := hK.sub (tys' := []) [] rfl
    refine W.widen (k := 1) (n := 6) (by omega) (by omega) ?_
    exact W.iret (v := 1) hx hb hr (fun t ht hW => ⟨⟨1, f, rfl, ⟨(if_neg (fun q => hok q.1)).symm, fun z => absurd z (by decide)⟩, by rw [ht]; exact hP9, va_K.moved hW.alike hK9, hD9⟩, hS.F ht⟩) hS.2.2 dL_bay_16
set_option maxHeartbeats 4000000 in
set_option maxRecDepth 100000 in
theorem w_look (l : Launch) (hlt : l.stackTraces = false) (dC : Nat → ClassId) (dI : Nat → Nat → Nat) (sz : Nat) (x rk hd jm bs b0 b1 od o1 o2 o3 jb pl ap : Nat) (cI cZ cB : ClassId) (ot : Nat) (cL : ClassId) (f : Nat → Int64) (k : Int32) : Met l yL_look wsL_look ({ frames := 7, cells := 1, slots := 6, locals := 110 }) (va_Pc [.ref x, .int k, .ref ot] (pt_BT (dC, dI) [(x, .inr (5, [.ref rk, .ref bs, .ref od, .ref jb, .ref ap, .int 0, .int 1, .int 0, .int 0, .int 0])), (rk, .inr (4, [.ref hd, .ref jm])), (hd, .inl (cI, 96, .inl (fun _ => 0))), (jm, .inl (cZ, 4, .inl (fun _ => 0))), (bs, .inl (cB, 2, .inr (.inr (.inr (.inr (va_up (va_up (fun _ => none) 0 (some b0)) 1 (some b1))))))), (b0, .inr (0, [.int 2, .int 0, .int 0, .int 0, .int 0, .int (-1)])), (b1, .inr (0, [.int 2, .int 0, .int 0, .int 0, .int 0, .int (-1)])), (od, .inr (2, [.ref o1, .ref o2, .ref o3, .int 0])), (jb, .inr (1, [.ref pl, .int (-1), .int 0, .int 0, .int 0])), (ot, .inl (cL, 1, .inr (.inl f)))] [(cI, .int), (cZ, .boolean), (cB, .object "ParkTower$Bay"), (cL, .long)] sz)) (va_Qi (fun (r : Int32) (g : Nat → Int64) => r = (if k = 0 ∨ k = 1 ∨ k = 2 ∨ k = 3 ∨ k = 4 ∨ k = 5 ∨ k = 6 then 0 else 1) ∧ (r = 0 → g 0 = (0 : Int32).toInt64)) (fun g t => pt_at (dC, dI) (va_A [(x, .inr (5, [.ref rk, .ref bs, .ref od, .ref jb, .ref ap, .int 0, .int 1, .int 0, .int 0, .int 0])), (rk, .inr (4, [.ref hd, .ref jm])), (hd, .inl (cI, 96, .inl (fun _ => 0))), (jm, .inl (cZ, 4, .inl (fun _ => 0))), (bs, .inl (cB, 2, .inr (.inr (.inr (.inr (va_up (va_up (fun _ => none) 0 (some b0)) 1 (some b1))))))), (b0, .inr (0, [.int 2, .int 0, .int 0, .int 0, .int 0, .int (-1)])), (b1, .inr (0, [.int 2, .int 0, .int 0, .int 0, .int 0, .int (-1)])), (od, .inr (2, [.ref o1, .ref o2, .ref o3, .int 0])), (jb, .inr (1, [.ref pl, .int (-1), .int 0, .int 0, .int 0])), (ot, .inl (cL, 1, .inr (.inl f)))] sz) [(ot, .inl (cL, 1, .inr (.inl g)))] [] t) (va_A [(x, .inr (5, [.ref rk, .ref bs, .ref od, .ref jb, .ref ap, .int 0, .int 1, .int 0, .int 0, .int 0])), (rk, .inr (4, [.ref hd, .ref jm])), (hd, .inl (cI, 96, .inl (fun _ => 0))), (jm, .inl (cZ, 4, .inl (fun _ => 0))), (bs, .inl (cB, 2, .inr (.inr (.inr (.inr (va_up (va_up (fun _ => none) 0 (some b0)) 1 (some b1))))))), (b0, .inr (0, [.int 2, .int 0, .int 0, .int 0, .int 0, .int (-1)])), (b1, .inr (0, [.int 2, .int 0, .int 0, .int 0, .int 0, .int (-1)])), (od, .inr (2, [.ref o1, .ref o2, .ref o3, .int 0])), (jb, .inr (1, [.ref pl, .int (-1), .int 0, .int 0, .int 0])), (ot, .inl (cL, 1, .inr (.inl f)))] sz)) 1 6 (va_A [(x, .inr (5, [.ref rk, .ref bs, .ref od, .ref jb, .ref ap, .int 0, .int 1, .int 0, .int 0, .int 0])), (rk, .inr (4, [.ref hd, .ref jm])), (hd, .inl (cI, 96, .inl (fun _ => 0))), (jm, .inl (cZ, 4, .inl (fun _ => 0))), (bs, .inl (cB, 2, .inr (.inr (.inr (.inr (va_up (va_up (fun _ => none) 0 (some b0)) 1 (some b1))))))), (b0, .inr (0, [.int 2, .int 0, .int 0, .int 0, .int 0, .int (-1)])), (b1, .inr (0, [.int 2, .int 0, .int 0, .int 0, .int 0, .int (-1)])), (od, .inr (2, [.ref o1, .ref o2, .ref o3, .int 0])), (jb, .inr (1, [.ref pl, .int (-1), .int 0, .int 0, .int 0])), (ot, .inl (cL, 1, .inr (.inl f)))] sz) := by
  refine va_MetW (cc := cL_look) (maxL := 4) (ret := some .int) (hh := [(0, 9, 12, 13)]) (by decide) rfl ?_
  intro p e s m args below meth c s₁ B hml hv
  obtain ⟨rfl, hsz, hP, hK, hD0, hN, hE, hZ⟩ := hv
  have hx := B.exec
  have hb := B.bytes
  have hr := B.returns
  have hts := atoms_spec (ws := wsL_look) B.pre
  have hown : s.vm.findClass RL = some m.cls := findClass_of_methodNamed B.named
  have hlocks := B.notSynchronized
  have htab := vx_table (x := yL_look) B (hts (.codeWith yL_look cL_look 4 (some .int) [(0, 9, 12, 13)]) List.mem_cons_self)
  subst hsz
  have hD := hD0.self (sz := s.heap.size)
  generalize hAe : va_A [(x, .inr (5, [.ref rk, .ref bs, .ref od, .ref jb, .ref ap, .int 0, .int 1, .int 0, .int 0, .int 0])), (rk, .inr (4, [.ref hd, .ref jm])), (hd, .inl (cI, 96, .inl (fun _ => 0))), (jm, .inl (cZ, 4, .inl (fun _ => 0))), (bs, .inl (cB, 2, .inr (.inr (.inr (.inr (va_up (va_up (fun _ => none) 0 (some b0)) 1 (some b1))))))), (b0, .inr (0, [.int 2, .int 0, .int 0, .int 0, .int 0, .int (-1)])), (b1, .inr (0, [.int 2, .int 0, .int 0, .int 0, .int 0, .int (-1)])), (od, .inr (2, [.ref o1, .ref o2, .ref o3, .int 0])), (jb, .inr (1, [.ref pl, .int (-1), .int 0, .int 0, .int 0])), (ot, .inl (cL, 1, .inr (.inl f)))] s.heap.size = A at hD ⊢
  have hA : ∀ q : Nat, s.heap.size ≤ q → A q := fun q h => by rw [← hAe]; exact Or.inr h
  have hS : va_S A s.heap s.heap [] := va_S.rf
  have hP : va_P (dC, dI) vwCl [(x, .inr (5, [.ref rk, .ref bs, .ref od, .ref jb, .ref ap, .int 0, .int 1, .int 0, .int 0, .int 0])), (rk, .inr (4, [.ref hd, .ref jm])), (hd, .inl (cI, 96, .inl (fun _ => 0))), (jm, .inl (cZ, 4, .inl (fun _ => 0))), (bs, .inl (cB, 2, .inr (.inr (.inr (.inr (va_up (va_up (fun _ => none) 0 (some b0)) 1 (some b1))))))), (b0, .inr (0, [.int 2, .int 0, .int 0, .int 0, .int 0, .int (-1)])), (b1, .inr (0, [.int 2, .int 0, .int 0, .int 0, .int 0, .int (-1)])), (od, .inr (2, [.ref o1, .ref o2, .ref o3, .int 0])), (jb, .inr (1, [.ref pl, .int (-1), .int 0, .int 0, .int 0])), (ot, .inl (cL, 1, .inr (.inl f)))] s.heap := hP
  have hK : va_K (dC, dI) vwCl [(cI, .int), (cZ, .boolean), (cB, .object "ParkTower$Bay"), (cL, .long)] s := hK
  have hl := lv_entry ([.ref x, .int k, .ref ot]) (n := 4) (Nat.le_of_ble_eq_true rfl)
  rw [lg_entry_eq]
  generalize (lg_sl ([.ref x, .int k, .ref ot]) ++ List.replicate (4 - (lg_sl ([.ref x, .int k, .ref ot])).length) Slot.unset).toArray = ls at hl ⊢
  have hl : lv_has ls 4 [(0, .ref x), (1, .int k), (2, .ref ot)] := hl
  rcases pt_sw6 k with hk | hk
  · skip
    refine lv_aload_n hx hb dL_look_0 rfl (lv_at hl 2 rfl) ?_
    refine lv_iconst (v := 0) hx hb dL_look_1 (by decide) ?_
    refine lv_aload_n hx hb dL_look_2 rfl (lv_at hl 0 rfl) ?_
    refine lv_iload_n hx hb dL_look_3 rfl (lv_at hl 1 rfl) ?_
    refine pt_cSi (va_runV (As := [.int k]) (rest := [.int 0, .ref ot]) ⟨hx, hb, hml, hown, hts⟩ (c_look l dC dI x rk hd jm bs b0 b1 od o1 o2 o3 jb pl ap cI cZ cB k hk) (cwV 1 hts gL_look_X7_look rfl rfl rfl (by decide +kernel) ⟨Nat.le_of_ble_eq_true rfl, Nat.le_of_ble_eq_true rfl⟩) ⟨pt_blind, va_recv hK hP (ci := 5) (q0 := 0) rfl rfl, pt_pre (w := [(x, .inr (5, [.ref rk, .ref bs, .ref od, .ref jb, .ref ap, .int 0, .int 1, .int 0, .int 0, .int 0])), (rk, .inr (4, [.ref hd, .ref jm])), (hd, .inl (cI, 96, .inl (fun _ => 0))), (jm, .inl (cZ, 4, .inl (fun _ => 0))), (bs, .inl (cB, 2, .inr (.inr (.inr (.inr (va_up (va_up (fun _ => none) 0 (some b0)) 1 (some b1))))))), (b0, .inr (0, [.int 2, .int 0, .int 0, .int 0, .int 0, .int (-1)])), (b1, .inr (0, [.int 2, .int 0, .int 0, .int 0, .int 0, .int (-1)])), (od, .inr (2, [.ref o1, .ref o2, .ref o3, .int 0])), (jb, .inr (1, [.ref pl, .int (-1), .int 0, .int 0, .int 0]))]) (tys := [(cI, .int), (cZ, .boolean), (cB, .object "ParkTower$Bay")]) (hP.sub [0, 1, 2, 3, 4, 5, 6, 7, 8] rfl) (hK.sub [0, 1, 2] rfl) hN⟩ rfl rfl hl.1 rfl (lv_room (Nat.le_of_ble_eq_true rfl)) dL_look_4 ⟨Nat.le_of_ble_eq_true rfl, Nat.le_of_ble_eq_true rfl⟩) (fun r_1 hr_1 => ?_)
    refine lv_i2l (v := r_1.toInt64) hx hb dL_look_7 rfl ?_
    refine va_last hx hb hK hP hD hS 9 3 rfl rfl (vp_in_iff.mpr (by decide)) dL_look_8 (fun H locs hP hD hS => ?_)
    have hP : va_P (dC, dI) vwCl [(x, .inr (5, [.ref rk, .ref bs, .ref od, .ref jb, .ref ap, .int 0, .int 1, .int 0, .int 0, .int 0])), (rk, .inr (4, [.ref hd, .ref jm])), (hd, .inl (cI, 96, .inl (fun _ => 0))), (jm, .inl (cZ, 4, .inl (fun _ => 0))), (bs, .inl (cB, 2, .inr (.inr (.inr (.inr (va_up (va_up (fun _ => none) 0 (some b0)) 1 (some b1))))))), (b0, .inr (0, [.int 2, .int 0, .int 0, .int 0, .int 0, .int (-1)])), (b1, .inr (0, [.int 2, .int 0, .int 0, .int 0, .int 0, .int (-1)])), (od, .inr (2, [.ref o1, .ref o2, .ref o3, .int 0])), (jb, .inr (1, [.ref pl, .int (-1), .int 0, .int 0, .int 0])), (ot, .inl (cL, 1, .inr (.inl (vp_updL f 0 r_1.toInt64))))] H := hP
    have hD : va_D A [(x, .inr (5, [.ref rk, .ref bs, .ref od, .ref jb, .ref ap, .int 0, .int 1, .int 0, .int 0, .int 0])), (rk, .inr (4, [.ref hd, .ref jm])), (hd, .inl (cI, 96, .inl (fun _ => 0))), (jm, .inl (cZ, 4, .inl (fun _ => 0))), (bs, .inl (cB, 2, .inr (.inr (.inr (.inr (va_up (va_up (fun _ => none) 0 (some b0)) 1 (some b1))))))), (b0, .inr (0, [.int 2, .int 0, .int 0, .int 0, .int 0, .int (-1)])), (b1, .inr (0, [.int 2, .int 0, .int 0, .int 0, .int 0, .int (-1)])), (od, .inr (2, [.ref o1, .ref o2, .ref o3, .int 0])), (jb, .inr (1, [.ref pl, .int (-1), .int 0, .int 0, .int 0])), (ot, .inl (cL, 1, .inr (.inl (vp_updL f 0 r_1.toInt64))))] := hD
    refine lv_goto (tgt := 15) hx hb dL_look_9 (by decide) ?_
    refine lv_iconst (v := 0) hx hb dL_look_15 (by decide) ?_
    have hP9 := hP.sub (ws' := [(ot, .inl (cL, 1, .inr (.inl (vp_updL f 0 r_1.toInt64))))]) [9] rfl
    have hD9 := hD.sub (ws' := [(ot, .inl (cL, 1, .inr (.inl (vp_updL f 0 r_1.toInt64))))]) [9] (by decide) rfl
    have hK9 := hK.sub (tys' := []) [] rfl
    refine W.widen (k := 1) (n := 6) (by omega) (by omega) ?_
    exact W.iret (v := 0) hx hb hr (fun t ht hW => ⟨⟨0, (vp_updL f 0 r_1.toInt64), rfl, ⟨(if_pos hk).symm, fun _ => congrArg Int32.toInt64 hr_1⟩, by rw [ht]; exact hP9, va_K.moved hW.alike hK9, hD9⟩, hS.F ht⟩) hS.2.2 dL_look_16
  · have hkn : ¬ (k = 0 ∨ k = 1 ∨ k = 2 ∨ k = 3 ∨ k = 4 ∨ k = 5 ∨ k = 6) := by intro h; rcases h with rfl | rfl | rfl | rfl | rfl | rfl | rfl <;> revert hk <;> decide
    refine lv_aload_n hx hb dL_look_0 rfl (lv_at hl 2 rfl) ?_
    refine lv_iconst (v := 0) hx hb dL_look_1 (by decide) ?_
    refine lv_aload_n hx hb dL_look_2 rfl (lv_at hl 0 rfl) ?_
    refine lv_iload_n hx hb dL_look_3 rfl (lv_at hl 1 rfl) ?_
    have hPc := hP.sub (ws' := [(x, .inr (5, [.ref rk, .ref bs, .ref od, .ref jb, .ref ap, .int 0, .int 1, .int 0, .int 0, .int 0])), (rk, .inr (4, [.ref hd, .ref jm])), (hd, .inl (cI, 96, .inl (fun _ => 0))), (jm, .inl (cZ, 4, .inl (fun _ => 0))), (bs, .inl (cB, 2, .inr (.inr (.inr (.inr (va_up (va_up (fun _ => none) 0 (some b0)) 1 (some b1))))))), (b0, .inr (0, [.int 2, .int 0, .int 0, .int 0, .int 0, .int (-1)])), (b1, .inr (0, [.int 2, .int 0, .int 0, .int 0, .int 0, .int (-1)])), (od, .inr (2, [.ref o1, .ref o2, .ref o3, .int 0])), (jb, .inr (1, [.ref pl, .int (-1), .int 0, .int 0, .int 0]))]) [0, 1, 2, 3, 4, 5, 6, 7, 8] rfl
    have hDc := hD.sub (ws' := [(x, .inr (5, [.ref rk, .ref bs, .ref od, .ref jb, .ref ap, .int 0, .int 1, .int 0, .int 0, .int 0])), (rk, .inr (4, [.ref hd, .ref jm])), (hd, .inl (cI, 96, .inl (fun _ => 0))), (jm, .inl (cZ, 4, .inl (fun _ => 0))), (bs, .inl (cB, 2, .inr (.inr (.inr (.inr (va_up (va_up (fun _ => none) 0 (some b0)) 1 (some b1))))))), (b0, .inr (0, [.int 2, .int 0, .int 0, .int 0, .int 0, .int (-1)])), (b1, .inr (0, [.int 2, .int 0, .int 0, .int 0, .int 0, .int (-1)])), (od, .inr (2, [.ref o1, .ref o2, .ref o3, .int 0])), (jb, .inr (1, [.ref pl, .int (-1), .int 0, .int 0, .int 0]))]) [0, 1, 2, 3, 4, 5, 6, 7, 8] (by decide) rfl
    have hKc := hK.sub (tys' := [(cI, .int), (cZ, .boolean), (cB, .object "ParkTower$Bay")]) [0, 1, 2] rfl
    refine vx_calli (vx_runV (As := [.int k]) (rest := [.int 0, .ref ot]) ⟨hx, hb, hml, hown, hts⟩ (t_look l hlt dC dI _ x rk hd jm bs b0 b1 od o1 o2 o3 jb pl ap cI cZ cB k hk) (cwV 1 hts gL_look_X7_look rfl rfl rfl (by decide +kernel) ⟨Nat.le_of_ble_eq_true rfl, Nat.le_of_ble_eq_true rfl⟩) ⟨pt_blindT, va_recv hK hP (ci := 5) (q0 := 0) rfl rfl, pt_preT hPc hKc hDc hN hE hZ⟩ rfl rfl hl.1 rfl (lv_room (Nat.le_of_ble_eq_true rfl)) dL_look_4 ⟨Nat.le_of_ble_eq_true rfl, Nat.le_of_ble_eq_true rfl⟩) hS (fun q h1 h2 => absurd h1 (Nat.not_lt.mpr h2)) (fun q h => hA q h) (fun q h1 h2 => absurd h1 (Nat.not_lt.mpr h2)) (fun E ce q9 u t H1 locs ht hvm hp hEE hz1 hk1 hS hce hcv hcl => ?_) (fun r u t H1 locs ht hvm hw hB hz1 hk1 hS => hw.elim)
    subst hEE
    have hP := pt_stay hP hk1
    generalize H1 = H at hP hS hce ⊢
    have hP : va_P (dC, dI) vwCl [(x, .inr (5, [.ref rk, .ref bs, .ref od, .ref jb, .ref ap, .int 0, .int 1, .int 0, .int 0, .int 0])), (rk, .inr (4, [.ref hd, .ref jm])), (hd, .inl (cI, 96, .inl (fun _ => 0))), (jm, .inl (cZ, 4, .inl (fun _ => 0))), (bs, .inl (cB, 2, .inr (.inr (.inr (.inr (va_up (va_up (fun _ => none) 0 (some b0)) 1 (some b1))))))), (b0, .inr (0, [.int 2, .int 0, .int 0, .int 0, .int 0, .int (-1)])), (b1, .inr (0, [.int 2, .int 0, .int 0, .int 0, .int 0, .int (-1)])), (od, .inr (2, [.ref o1, .ref o2, .ref o3, .int 0])), (jb, .inr (1, [.ref pl, .int (-1), .int 0, .int 0, .int 0])), (ot, .inl (cL, 1, .inr (.inl f)))] H := hP
    have hD : va_D A [(x, .inr (5, [.ref rk, .ref bs, .ref od, .ref jb, .ref ap, .int 0, .int 1, .int 0, .int 0, .int 0])), (rk, .inr (4, [.ref hd, .ref jm])), (hd, .inl (cI, 96, .inl (fun _ => 0))), (jm, .inl (cZ, 4, .inl (fun _ => 0))), (bs, .inl (cB, 2, .inr (.inr (.inr (.inr (va_up (va_up (fun _ => none) 0 (some b0)) 1 (some b1))))))), (b0, .inr (0, [.int 2, .int 0, .int 0, .int 0, .int 0, .int (-1)])), (b1, .inr (0, [.int 2, .int 0, .int 0, .int 0, .int 0, .int (-1)])), (od, .inr (2, [.ref o1, .ref o2, .ref o3, .int 0])), (jb, .inr (1, [.ref pl, .int (-1), .int 0, .int 0, .int 0])), (ot, .inl (cL, 1, .inr (.inl f)))] := hD
    refine vx_catch (name := "java/lang/IllegalArgumentException") hown [] ⟨0, 9, 12, 13⟩ [] (by rw [htab]; rfl) (fun z hz => by cases hz) (by decide) (by decide) (hts (.classLink RL 13 "java/lang/IllegalArgumentException") (by decide +kernel)) (va_Nw.use rfl (hE.1 (.castable "java/lang/IllegalArgumentException" "java/lang/IllegalArgumentException") (by decide +kernel))) hce hcv hcl ?_
    refine W.widen (k := 1) (n := 6) (by omega) (by omega) ?_
    refine lv_astore_n (lv' := [(3, .ref q9), (0, .ref x), (1, .int k), (2, .ref ot)]) hx hb dL_look_12 rfl hl (by decide) rfl (fun ls hl => ?_)
    refine lv_iconst (v := 1) hx hb dL_look_13 (by decide) ?_
    have hP9 := hP.sub (ws' := [(ot, .inl (cL, 1, .inr (.inl f)))]) [9] rfl
    have hD9 := hD.sub (ws' := [(ot, .inl (cL, 1, .inr (.inl f)))]) [9] (by decide) rfl
    have hK9 := hK.sub (tys' := []) [] rfl
    refine W.widen (k := 1) (n := 6) (by omega) (by omega) ?_
    exact W.iret (v := 1) hx hb hr (fun t ht hW => ⟨⟨1, f, rfl, ⟨(if_neg hkn).symm, fun z => absurd z (by decide)⟩, by rw [ht]; exact hP9, va_K.moved hW.alike hK9, hD9⟩, hS.F ht⟩) hS.2.2 dL_look_14
