set_option maxHeartbeats 4000000 in
set_option maxRecDepth 100000 in
/-- THE LAW, from its entry -/
theorem whole_start {p : Program} {e : Env} {s : State} {m : MethodId} {below : List Frame} {meth : Method} {c : Code} (l : Launch) (hlt : l.stackTraces = false) {b L : Nat} {xs : Nat → Int32} (hL : L ≤ 5) (C0 : lw_At p s m meth c b L xs) : W p l e room_1 s m #[Value.ref b] below meth c s.heap [] 0 0 (lw_Z below #[Value.ref b] s) (entryFrame m ([Value.ref b] : List Value).toArray 7) := by
  obtain ⟨hx, hb, hr, hml, hown, hts, hX, hbl, hlocks, hgv⟩ := id C0
  have hA : ∀ q : Nat, s.heap.size ≤ q → (fun q : Nat => s.heap.size ≤ q) q := fun _ h => h
  have hbA : ¬ (fun q : Nat => s.heap.size ≤ q) b := Nat.not_le.mpr hbl
  obtain ⟨c0, iS0, hKn0⟩ := u_known (C := RX1) (T := TX1) (N := 6) (n := 6) hts inX1 (hts (.instantiable RX1 6) (List.mem_of_getElem? (i := 88) (by decide +kernel)))
  obtain ⟨c1, iS1, hKn1⟩ := u_known (C := RX2) (T := TX2) (N := 5) (n := 5) hts inX2 (hts (.instantiable RX2 5) (List.mem_of_getElem? (i := 141) (by decide +kernel)))
  obtain ⟨c2, iS2, hKn2⟩ := u_known (C := RX3) (T := TX3) (N := 4) (n := 4) hts inX3 (hts (.instantiable RX3 4) (List.mem_of_getElem? (i := 118) (by decide +kernel)))
  obtain ⟨c3, iS3, hKn3⟩ := u_known (C := RX4) (T := TX4) (N := 3) (n := 3) hts inX4 (hts (.instantiable RX4 3) (List.mem_of_getElem? (i := 147) (by decide +kernel)))
  obtain ⟨c4, iS4, hKn4⟩ := u_known (C := RX5) (T := TX5) (N := 2) (n := 2) hts inX5 (hts (.instantiable RX5 2) (List.mem_of_getElem? (i := 70) (by decide +kernel)))
  obtain ⟨c5, iS5, hKn5⟩ := u_known (C := RX7) (T := TX7) (N := 10) (n := 10) hts inX7 (hts (.instantiable RX7 10) (List.mem_of_getElem? (i := 62) (by decide +kernel)))
  obtain ⟨c6, iS6, hKn6⟩ := u_known (C := RX8) (T := TX8) (N := 32) (n := 32) hts inX8 (hts (.instantiable RX8 32) (List.mem_of_getElem? (i := 667) (by decide +kernel)))
  obtain ⟨dC, dI, hKc⟩ : ∃ (dC : Nat → ClassId) (dI : Nat → Nat → Nat), ∀ (k : Nat) (q : vw_C), vwCl[k]? = some q → u_Kn s q.1 q.2.1 q.2.2 (dC k) (dI k) := by
    refine ⟨fun k => if k = 0 then c0 else if k = 1 then c1 else if k = 2 then c2 else if k = 3 then c3 else if k = 4 then c4 else if k = 5 then c5 else c6, fun k => if k = 0 then iS0 else if k = 1 then iS1 else if k = 2 then iS2 else if k = 3 then iS3 else if k = 4 then iS4 else if k = 5 then iS5 else iS6, ?_⟩
    intro k q hq
    match k, hq with
    | 0, hq => cases hq; exact hKn0
    | 1, hq => cases hq; exact hKn1
    | 2, hq => cases hq; exact hKn2
    | 3, hq => cases hq; exact hKn3
    | 4, hq => cases hq; exact hKn4
    | 5, hq => cases hq; exact hKn5
    | 6, hq => cases hq; exact hKn6
    | k + 7, hq => simp [vwCl] at hq
  have hS : va_S (fun q : Nat => s.heap.size ≤ q) s.heap s.heap [] := va_S.rf
  have hK : va_K (dC, dI) vwCl [] s := ⟨hKc, fun k q h => by simp at h⟩
  have hP : va_P (dC, dI) vwCl [] s.heap := fun k q h => by simp at h
  have hD : va_D (fun q : Nat => s.heap.size ≤ q) [] := ⟨fun i j p q h => by simp at h, fun k q h => by simp at h⟩
  have hN : pt_N s := ⟨fun w hw => va_Nw.of (pt_nw_ot w hw) (hts w (pt_nw_in w hw)), va_AO.of (hts (.arrayOver (.object "ParkTower$Bay")) (List.mem_of_getElem? (i := 87) (by decide +kernel)))⟩
  have hfl := flat_of_before _ hgv
  have hE : pt_E s := ⟨fun w hw => va_Nw.of (pt_xw_ot w hw) (hts w (pt_xw_in w hw)), va_Nc.of (hfl (.not (.castable "java/lang/IllegalStateException" "java/lang/IllegalArgumentException")) (by decide +kernel))⟩
  have hZ : pt_Z s.heap.size s s.heap := ⟨vx_Zqof (hts (.laysStatic "java/lang/Throwable" "UNASSIGNED_STACK" "[Ljava/lang/StackTraceElement;") (List.mem_of_getElem? (i := 258) (by decide +kernel))) (hts (.initialized "java/lang/Throwable") (List.mem_of_getElem? (i := 51) (by decide +kernel))) (hfl (.isRef (.static "java/lang/Throwable" "UNASSIGNED_STACK" "[Ljava/lang/StackTraceElement;")) (by decide +kernel)) (fun a h => Nat.not_le.mpr h), vx_Zqof (hts (.laysStatic "java/lang/Throwable" "SUPPRESSED_SENTINEL" "Ljava/util/List;") (List.mem_of_getElem? (i := 260) (by decide +kernel))) (hts (.initialized "java/lang/Throwable") (List.mem_of_getElem? (i := 51) (by decide +kernel))) (hfl (.isRef (.static "java/lang/Throwable" "SUPPRESSED_SENTINEL" "Ljava/util/List;")) (by decide +kernel)) (fun a h => Nat.not_le.mpr h)⟩
  have hl := lv_entry ([.ref b]) (n := 7) (Nat.le_of_ble_eq_true rfl)
  rw [lg_entry_eq]
  generalize (lg_sl ([.ref b]) ++ List.replicate (7 - (lg_sl ([.ref b])).length) Slot.unset).toArray = ls at hl ⊢
  have hl : lv_has ls 7 [(0, .ref b)] := hl
  refine va_new (ci := 5) (fs := [.null, .null, .null, .null, .null, .int 0, .int 0, .int 0, .int 0, .int 0]) (C := RX7) (T := TX7) (N := 10) hx hb hts inX7 tyX7 tyX7_ok hown (hts (.classLink RL 8 RX7) (List.mem_of_getElem? (i := 61) (by decide +kernel))) (hts (.instantiable RX7 10) (List.mem_of_getElem? (i := 62) (by decide +kernel))) (hts (.initialized RX7) (List.mem_of_getElem? (i := 44) (by decide +kernel))) hK hP hD hS hA rfl (fun j hj => by rcases (show j = 0 ∨ j = 1 ∨ j = 2 ∨ j = 3 ∨ j = 4 ∨ j = 5 ∨ j = 6 ∨ j = 7 ∨ j = 8 ∨ j = 9 by omega) with rfl | rfl | rfl | rfl | rfl | rfl | rfl | rfl | rfl | rfl <;> rfl) (Nat.le_of_ble_eq_true rfl) (Nat.le_of_ble_eq_true rfl) dL_law_0 (fun q_1 H hP hD hS => ?_)
  have hP : va_P (dC, dI) vwCl [(q_1, .inr (5, [.null, .null, .null, .null, .null, .int 0, .int 0, .int 0, .int 0, .int 0]))] H := hP
  have hD : va_D (fun q : Nat => s.heap.size ≤ q) [(q_1, .inr (5, [.null, .null, .null, .null, .null, .int 0, .int 0, .int 0, .int 0, .int 0]))] := hD
  refine W.widen (k := 1) (n := 10) (by omega) (by omega) ?_
  refine lv_dup hx hb dL_law_3 rfl ?_
  have hPc := hP.sub (ws' := [(q_1, .inr (5, [.null, .null, .null, .null, .null, .int 0, .int 0, .int 0, .int 0, .int 0]))]) [0] rfl
  have hDc := hD.sub (ws' := [(q_1, .inr (5, [.null, .null, .null, .null, .null, .int 0, .int 0, .int 0, .int 0, .int 0]))]) [0] (by decide) rfl
  have hKc := hK.sub (tys' := []) [] rfl
  have hFc := va_free (wc := [(q_1, .inr (5, [.null, .null, .null, .null, .null, .int 0, .int 0, .int 0, .int 0, .int 0]))]) hD hS hA [0] rfl
  refine va_callv (va_runI (As := []) (rest := [.ref q_1]) ⟨hx, hb, hml, hown, hts⟩ (n_Tower l dC dI _ q_1) (cwI 0 hts gt_wsX7_init rfl rfl rfl (hts (.initialized RX7) (List.mem_of_getElem? (i := 44) (by decide +kernel))) (hts (.methodLink RL 57 yX7_init) (List.mem_of_getElem? (i := 63) (by decide +kernel))) (hts (.instanceMethod yX7_init) (List.mem_of_getElem? (i := 64) (by decide +kernel))) rfl (by decide +kernel) ⟨Nat.le_of_ble_eq_true rfl, Nat.le_of_ble_eq_true rfl⟩) ⟨pt_blindQ, pt_preQ hPc hKc hDc hN⟩ rfl rfl hl.1 rfl (lv_room (Nat.le_of_ble_eq_true rfl)) dL_law_4 ⟨Nat.le_of_ble_eq_true rfl, Nat.le_of_ble_eq_true rfl⟩) hS (fun q _ h => hFc q h) hFc (fun u_2 t H1 locs ht hvm hw_2 hB hz1 hk1 hS => ?_)
  obtain ⟨rk, hd, jm, bs, b0, b1, od, o1, o2, o3, jb, pl, ap, cI, cZ, cB, hP1, hK1, hD1⟩ := hB
  rw [ht] at hP1
  have hK1 := va_K.moved hvm.symm hK1
  obtain ⟨hP, hD⟩ := va_join (wr := []) (w1 := [(q_1, .inr (5, [.ref rk, .ref bs, .ref od, .ref jb, .ref ap, .int 0, .int 1, .int 0, .int 0, .int 0])), (rk, .inr (4, [.ref hd, .ref jm])), (hd, .inl (cI, 96, .inl (fun _ => 0))), (jm, .inl (cZ, 4, .inl (fun _ => 0))), (bs, .inl (cB, 2, .inr (.inr (.inr (.inr (va_up (va_up (fun _ => none) 0 (some b0)) 1 (some b1))))))), (b0, .inr (0, [.int 2, .int 0, .int 0, .int 0, .int 0, .int (-1)])), (b1, .inr (0, [.int 2, .int 0, .int 0, .int 0, .int 0, .int (-1)])), (od, .inr (2, [.ref o1, .ref o2, .ref o3, .int 0])), (jb, .inr (1, [.ref pl, .int (-1), .int 0, .int 0, .int 0]))]) hP hD [0] [] rfl rfl (by decide) (by decide) hk1 hFc hP1 hD1
  have hK := hK.app hK1
  generalize H1 = H at hP hS ⊢
  have hP : va_P (dC, dI) vwCl [(q_1, .inr (5, [.ref rk, .ref bs, .ref od, .ref jb, .ref ap, .int 0, .int 1, .int 0, .int 0, .int 0])), (rk, .inr (4, [.ref hd, .ref jm])), (hd, .inl (cI, 96, .inl (fun _ => 0))), (jm, .inl (cZ, 4, .inl (fun _ => 0))), (bs, .inl (cB, 2, .inr (.inr (.inr (.inr (va_up (va_up (fun _ => none) 0 (some b0)) 1 (some b1))))))), (b0, .inr (0, [.int 2, .int 0, .int 0, .int 0, .int 0, .int (-1)])), (b1, .inr (0, [.int 2, .int 0, .int 0, .int 0, .int 0, .int (-1)])), (od, .inr (2, [.ref o1, .ref o2, .ref o3, .int 0])), (jb, .inr (1, [.ref pl, .int (-1), .int 0, .int 0, .int 0]))] H := hP
  have hD : va_D (fun q : Nat => s.heap.size ≤ q) [(q_1, .inr (5, [.ref rk, .ref bs, .ref od, .ref jb, .ref ap, .int 0, .int 1, .int 0, .int 0, .int 0])), (rk, .inr (4, [.ref hd, .ref jm])), (hd, .inl (cI, 96, .inl (fun _ => 0))), (jm, .inl (cZ, 4, .inl (fun _ => 0))), (bs, .inl (cB, 2, .inr (.inr (.inr (.inr (va_up (va_up (fun _ => none) 0 (some b0)) 1 (some b1))))))), (b0, .inr (0, [.int 2, .int 0, .int 0, .int 0, .int 0, .int (-1)])), (b1, .inr (0, [.int 2, .int 0, .int 0, .int 0, .int 0, .int (-1)])), (od, .inr (2, [.ref o1, .ref o2, .ref o3, .int 0])), (jb, .inr (1, [.ref pl, .int (-1), .int 0, .int 0, .int 0]))] := hD
  have hK : va_K (dC, dI) vwCl [(cI, .int), (cZ, .boolean), (cB, .object "ParkTower$Bay")] s := hK
  refine W.widen (k := 18) (n := 221) (by omega) (by omega) ?_
  refine lv_astore_n (lv' := [(1, .ref q_1), (0, .ref b)]) hx hb dL_law_7 rfl hl (by decide) rfl (fun ls hl => ?_)
  refine va_new (ci := 6) (fs := [.int 0, .int 0, .int 0, .int 0, .null, .null, .null, .null, .null, .null, .null, .null, .null, .int 0, .int 0, .int 0, .null, .null, .null, .int 0, .int 0, .int 0, .int 0, .int 0, .int 0, .int 0, .int 0, .null, .int 0, .null, .null, .null]) (C := RX8) (T := TX8) (N := 32) hx hb hts inX8 tyX8 tyX8_ok hown (hts (.classLink RL 58 RX8) (List.mem_of_getElem? (i := 666) (by decide +kernel))) (hts (.instantiable RX8 32) (List.mem_of_getElem? (i := 667) (by decide +kernel))) (hts (.initialized RX8) (List.mem_of_getElem? (i := 50) (by decide +kernel))) hK hP hD hS hA rfl (fun j hj => by rcases (show j = 0 ∨ j = 1 ∨ j = 2 ∨ j = 3 ∨ j = 4 ∨ j = 5 ∨ j = 6 ∨ j = 7 ∨ j = 8 ∨ j = 9 ∨ j = 10 ∨ j = 11 ∨ j = 12 ∨ j = 13 ∨ j = 14 ∨ j = 15 ∨ j = 16 ∨ j = 17 ∨ j = 18 ∨ j = 19 ∨ j = 20 ∨ j = 21 ∨ j = 22 ∨ j = 23 ∨ j = 24 ∨ j = 25 ∨ j = 26 ∨ j = 27 ∨ j = 28 ∨ j = 29 ∨ j = 30 ∨ j = 31 by omega) with rfl | rfl | rfl | rfl | rfl | rfl | rfl | rfl | rfl | rfl | rfl | rfl | rfl | rfl | rfl | rfl | rfl | rfl | rfl | rfl | rfl | rfl | rfl | rfl | rfl | rfl | rfl | rfl | rfl | rfl | rfl | rfl <;> rfl) (Nat.le_of_ble_eq_true rfl) (Nat.le_of_ble_eq_true rfl) dL_law_8 (fun q_3 H hP hD hS => ?_)
  have hP : va_P (dC, dI) vwCl [(q_1, .inr (5, [.ref rk, .ref bs, .ref od, .ref jb, .ref ap, .int 0, .int 1, .int 0, .int 0, .int 0])), (rk, .inr (4, [.ref hd, .ref jm])), (hd, .inl (cI, 96, .inl (fun _ => 0))), (jm, .inl (cZ, 4, .inl (fun _ => 0))), (bs, .inl (cB, 2, .inr (.inr (.inr (.inr (va_up (va_up (fun _ => none) 0 (some b0)) 1 (some b1))))))), (b0, .inr (0, [.int 2, .int 0, .int 0, .int 0, .int 0, .int (-1)])), (b1, .inr (0, [.int 2, .int 0, .int 0, .int 0, .int 0, .int (-1)])), (od, .inr (2, [.ref o1, .ref o2, .ref o3, .int 0])), (jb, .inr (1, [.ref pl, .int (-1), .int 0, .int 0, .int 0])), (q_3, .inr (6, [.int 0, .int 0, .int 0, .int 0, .null, .null, .null, .null, .null, .null, .null, .null, .null, .int 0, .int 0, .int 0, .null, .null, .null, .int 0, .int 0, .int 0, .int 0, .int 0, .int 0, .int 0, .int 0, .null, .int 0, .null, .null, .null]))] H := hP
  have hD : va_D (fun q : Nat => s.heap.size ≤ q) [(q_1, .inr (5, [.ref rk, .ref bs, .ref od, .ref jb, .ref ap, .int 0, .int 1, .int 0, .int 0, .int 0])), (rk, .inr (4, [.ref hd, .ref jm])), (hd, .inl (cI, 96, .inl (fun _ => 0))), (jm, .inl (cZ, 4, .inl (fun _ => 0))), (bs, .inl (cB, 2, .inr (.inr (.inr (.inr (va_up (va_up (fun _ => none) 0 (some b0)) 1 (some b1))))))), (b0, .inr (0, [.int 2, .int 0, .int 0, .int 0, .int 0, .int (-1)])), (b1, .inr (0, [.int 2, .int 0, .int 0, .int 0, .int 0, .int (-1)])), (od, .inr (2, [.ref o1, .ref o2, .ref o3, .int 0])), (jb, .inr (1, [.ref pl, .int (-1), .int 0, .int 0, .int 0])), (q_3, .inr (6, [.int 0, .int 0, .int 0, .int 0, .null, .null, .null, .null, .null, .null, .null, .null, .null, .int 0, .int 0, .int 0, .null, .null, .null, .int 0, .int 0, .int 0, .int 0, .int 0, .int 0, .int 0, .int 0, .null, .int 0, .null, .null, .null]))] := hD
  refine W.widen (k := 19) (n := 253) (by omega) (by omega) ?_
  refine lv_dup hx hb dL_law_11 rfl ?_
  have hPc := hP.sub (ws' := [(q_3, .inr (6, [.int 0, .int 0, .int 0, .int 0, .null, .null, .null, .null, .null, .null, .null, .null, .null, .int 0, .int 0, .int 0, .null, .null, .null, .int 0, .int 0, .int 0, .int 0, .int 0, .int 0, .int 0, .int 0, .null, .int 0, .null, .null, .null]))]) [9] rfl
  have hDc := hD.sub (ws' := [(q_3, .inr (6, [.int 0, .int 0, .int 0, .int 0, .null, .null, .null, .null, .null, .null, .null, .null, .null, .int 0, .int 0, .int 0, .null, .null, .null, .int 0, .int 0, .int 0, .int 0, .int 0, .int 0, .int 0, .int 0, .null, .int 0, .null, .null, .null]))]) [9] (by decide) rfl
  have hKc := hK.sub (tys' := []) [] rfl
  have hFc := va_free (wc := [(q_3, .inr (6, [.int 0, .int 0, .int 0, .int 0, .null, .null, .null, .null, .null, .null, .null, .null, .null, .int 0, .int 0, .int 0, .null, .null, .null, .int 0, .int 0, .int 0, .int 0, .int 0, .int 0, .int 0, .int 0, .null, .int 0, .null, .null, .null]))]) hD hS hA [9] rfl
  refine va_callv (va_runI (As := []) (rest := [.ref q_3]) ⟨hx, hb, hml, hown, hts⟩ (n_Model l dC dI _ q_3) (cwI 0 hts gt_wsX8_init rfl rfl rfl (hts (.initialized RX8) (List.mem_of_getElem? (i := 50) (by decide +kernel))) (hts (.methodLink RL 60 yX8_init) (List.mem_of_getElem? (i := 668) (by decide +kernel))) (hts (.instanceMethod yX8_init) (List.mem_of_getElem? (i := 669) (by decide +kernel))) rfl (by decide +kernel) ⟨Nat.le_of_ble_eq_true rfl, Nat.le_of_ble_eq_true rfl⟩) ⟨pt_blindQ, pt_preQ hPc hKc hDc hN⟩ rfl rfl hl.1 rfl (lv_room (Nat.le_of_ble_eq_true rfl)) dL_law_12 ⟨Nat.le_of_ble_eq_true rfl, Nat.le_of_ble_eq_true rfl⟩) hS (fun q _ h => hFc q h) hFc (fun u_4 t H1 locs ht hvm hw_4 hB hz1 hk1 hS => ?_)
  obtain ⟨m4, m5, m6, m7, m8, m9, m10, m11, m12, m16, m17, m18, m27, m29, m30, m31, y4, y5, y6, y7, y8, y9, y10, y11, y12, hP1, hK1, hD1⟩ := hB
  rw [ht] at hP1
  have hK1 := va_K.moved hvm.symm hK1
  obtain ⟨hP, hD⟩ := va_join (wr := [(q_1, .inr (5, [.ref rk, .ref bs, .ref od, .ref jb, .ref ap, .int 0, .int 1, .int 0, .int 0, .int 0])), (rk, .inr (4, [.ref hd, .ref jm])), (hd, .inl (cI, 96, .inl (fun _ => 0))), (jm, .inl (cZ, 4, .inl (fun _ => 0))), (bs, .inl (cB, 2, .inr (.inr (.inr (.inr (va_up (va_up (fun _ => none) 0 (some b0)) 1 (some b1))))))), (b0, .inr (0, [.int 2, .int 0, .int 0, .int 0, .int 0, .int (-1)])), (b1, .inr (0, [.int 2, .int 0, .int 0, .int 0, .int 0, .int (-1)])), (od, .inr (2, [.ref o1, .ref o2, .ref o3, .int 0])), (jb, .inr (1, [.ref pl, .int (-1), .int 0, .int 0, .int 0]))]) (w1 := [(q_3, .inr (6, [.int 0, .int 0, .int 0, .int 0, .ref m4, .ref m5, .ref m6, .ref m7, .ref m8, .ref m9, .ref m10, .ref m11, .ref m12, .int 1, .int 0, .int 0, .ref m16, .ref m17, .ref m18, .int 0, .int 0, .int 0, .int 0, .int 0, .int 0, .int 0, .int 0, .ref m27, .int 0, .ref m29, .ref m30, .ref m31])), (m4, .inl (y4, 700, .inl (fun _ => 0))), (m5, .inl (y5, 700, .inl (fun _ => 0))), (m6, .inl (y6, 700, .inl (fun _ => 0))), (m7, .inl (y7, 96, .inl (fun _ => 0))), (m8, .inl (y8, 2, .inl (upd (upd (fun _ => 0) 0 2) 1 2))), (m9, .inl (y9, 2, .inl (fun _ => 0))), (m10, .inl (y10, 2, .inl (fun _ => 0))), (m11, .inl (y11, 2, .inl (upd (upd (fun _ => 0) 0 (-1)) 1 (-1)))), (m12, .inl (y12, 4, .inl (fun _ => 0)))]) hP hD [9] [0, 1, 2, 3, 4, 5, 6, 7, 8] rfl rfl (by decide) (by decide) hk1 hFc hP1 hD1
  have hK := hK.app hK1
  generalize H1 = H at hP hS ⊢
  have hP : va_P (dC, dI) vwCl [(q_1, .inr (5, [.ref rk, .ref bs, .ref od, .ref jb, .ref ap, .int 0, .int 1, .int 0, .int 0, .int 0])), (rk, .inr (4, [.ref hd, .ref jm])), (hd, .inl (cI, 96, .inl (fun _ => 0))), (jm, .inl (cZ, 4, .inl (fun _ => 0))), (bs, .inl (cB, 2, .inr (.inr (.inr (.inr (va_up (va_up (fun _ => none) 0 (some b0)) 1 (some b1))))))), (b0, .inr (0, [.int 2, .int 0, .int 0, .int 0, .int 0, .int (-1)])), (b1, .inr (0, [.int 2, .int 0, .int 0, .int 0, .int 0, .int (-1)])), (od, .inr (2, [.ref o1, .ref o2, .ref o3, .int 0])), (jb, .inr (1, [.ref pl, .int (-1), .int 0, .int 0, .int 0])), (q_3, .inr (6, [.int 0, .int 0, .int 0, .int 0, .ref m4, .ref m5, .ref m6, .ref m7, .ref m8, .ref m9, .ref m10, .ref m11, .ref m12, .int 1, .int 0, .int 0, .ref m16, .ref m17, .ref m18, .int 0, .int 0, .int 0, .int 0, .int 0, .int 0, .int 0, .int 0, .ref m27, .int 0, .ref m29, .ref m30, .ref m31])), (m4, .inl (y4, 700, .inl (fun _ => 0))), (m5, .inl (y5, 700, .inl (fun _ => 0))), (m6, .inl (y6, 700, .inl (fun _ => 0))), (m7, .inl (y7, 96, .inl (fun _ => 0))), (m8, .inl (y8, 2, .inl (upd (upd (fun _ => 0) 0 2) 1 2))), (m9, .inl (y9, 2, .inl (fun _ => 0))), (m10, .inl (y10, 2, .inl (fun _ => 0))), (m11, .inl (y11, 2, .inl (upd (upd (fun _ => 0) 0 (-1)) 1 (-1)))), (m12, .inl (y12, 4, .inl (fun _ => 0)))] H := hP
  have hD : va_D (fun q : Nat => s.heap.size ≤ q) [(q_1, .inr (5, [.ref rk, .ref bs, .ref od, .ref jb, .ref ap, .int 0, .int 1, .int 0, .int 0, .int 0])), (rk, .inr (4, [.ref hd, .ref jm])), (hd, .inl (cI, 96, .inl (fun _ => 0))), (jm, .inl (cZ, 4, .inl (fun _ => 0))), (bs, .inl (cB, 2, .inr (.inr (.inr (.inr (va_up (va_up (fun _ => none) 0 (some b0)) 1 (some b1))))))), (b0, .inr (0, [.int 2, .int 0, .int 0, .int 0, .int 0, .int (-1)])), (b1, .inr (0, [.int 2, .int 0, .int 0, .int 0, .int 0, .int (-1)])), (od, .inr (2, [.ref o1, .ref o2, .ref o3, .int 0])), (jb, .inr (1, [.ref pl, .int (-1), .int 0, .int 0, .int 0])), (q_3, .inr (6, [.int 0, .int 0, .int 0, .int 0, .ref m4, .ref m5, .ref m6, .ref m7, .ref m8, .ref m9, .ref m10, .ref m11, .ref m12, .int 1, .int 0, .int 0, .ref m16, .ref m17, .ref m18, .int 0, .int 0, .int 0, .int 0, .int 0, .int 0, .int 0, .int 0, .ref m27, .int 0, .ref m29, .ref m30, .ref m31])), (m4, .inl (y4, 700, .inl (fun _ => 0))), (m5, .inl (y5, 700, .inl (fun _ => 0))), (m6, .inl (y6, 700, .inl (fun _ => 0))), (m7, .inl (y7, 96, .inl (fun _ => 0))), (m8, .inl (y8, 2, .inl (upd (upd (fun _ => 0) 0 2) 1 2))), (m9, .inl (y9, 2, .inl (fun _ => 0))), (m10, .inl (y10, 2, .inl (fun _ => 0))), (m11, .inl (y11, 2, .inl (upd (upd (fun _ => 0) 0 (-1)) 1 (-1)))), (m12, .inl (y12, 4, .inl (fun _ => 0)))] := hD
  have hK : va_K (dC, dI) vwCl [(cI, .int), (cZ, .boolean), (cB, .object "ParkTower$Bay"), (y4, .int), (y5, .int), (y6, .int), (y7, .int), (y8, .int), (y9, .int), (y10, .boolean), (y11, .int), (y12, .boolean)] s := hK
  refine W.widen (k := 35) (n := 2557) (by omega) (by omega) ?_
  refine lv_astore_n (lv' := [(2, .ref q_3), (1, .ref q_1), (0, .ref b)]) hx hb dL_law_15 rfl hl (by decide) rfl (fun ls hl => ?_)
  refine lv_iconst (v := 1) hx hb dL_law_16 (by decide) ?_
  refine va_newa (atype := .long) (ty := .long) (a0 := (1, .inr (.inl (fun _ => 0)))) (N' := 1) hx hb (hts (.arrayClass .long) (List.mem_of_getElem? (i := 933) (by decide +kernel))) rfl hK hP hD hS hA (fun _ => rfl) (by decide) (show Int32.toNatClampNeg 1 = 1 by decide) (by decide) (Nat.le_of_ble_eq_true rfl) (Nat.le_of_ble_eq_true rfl) dL_law_17 (fun q_5 y_5 H hK hP hD hS => ?_)
  have hP : va_P (dC, dI) vwCl [(q_1, .inr (5, [.ref rk, .ref bs, .ref od, .ref jb, .ref ap, .int 0, .int 1, .int 0, .int 0, .int 0])), (rk, .inr (4, [.ref hd, .ref jm])), (hd, .inl (cI, 96, .inl (fun _ => 0))), (jm, .inl (cZ, 4, .inl (fun _ => 0))), (bs, .inl (cB, 2, .inr (.inr (.inr (.inr (va_up (va_up (fun _ => none) 0 (some b0)) 1 (some b1))))))), (b0, .inr (0, [.int 2, .int 0, .int 0, .int 0, .int 0, .int (-1)])), (b1, .inr (0, [.int 2, .int 0, .int 0, .int 0, .int 0, .int (-1)])), (od, .inr (2, [.ref o1, .ref o2, .ref o3, .int 0])), (jb, .inr (1, [.ref pl, .int (-1), .int 0, .int 0, .int 0])), (q_3, .inr (6, [.int 0, .int 0, .int 0, .int 0, .ref m4, .ref m5, .ref m6, .ref m7, .ref m8, .ref m9, .ref m10, .ref m11, .ref m12, .int 1, .int 0, .int 0, .ref m16, .ref m17, .ref m18, .int 0, .int 0, .int 0, .int 0, .int 0, .int 0, .int 0, .int 0, .ref m27, .int 0, .ref m29, .ref m30, .ref m31])), (m4, .inl (y4, 700, .inl (fun _ => 0))), (m5, .inl (y5, 700, .inl (fun _ => 0))), (m6, .inl (y6, 700, .inl (fun _ => 0))), (m7, .inl (y7, 96, .inl (fun _ => 0))), (m8, .inl (y8, 2, .inl (upd (upd (fun _ => 0) 0 2) 1 2))), (m9, .inl (y9, 2, .inl (fun _ => 0))), (m10, .inl (y10, 2, .inl (fun _ => 0))), (m11, .inl (y11, 2, .inl (upd (upd (fun _ => 0) 0 (-1)) 1 (-1)))), (m12, .inl (y12, 4, .inl (fun _ => 0))), (q_5, .inl (y_5, 1, .inr (.inl (fun _ => 0))))] H := hP
  have hD : va_D (fun q : Nat => s.heap.size ≤ q) [(q_1, .inr (5, [.ref rk, .ref bs, .ref od, .ref jb, .ref ap, .int 0, .int 1, .int 0, .int 0, .int 0])), (rk, .inr (4, [.ref hd, .ref jm])), (hd, .inl (cI, 96, .inl (fun _ => 0))), (jm, .inl (cZ, 4, .inl (fun _ => 0))), (bs, .inl (cB, 2, .inr (.inr (.inr (.inr (va_up (va_up (fun _ => none) 0 (some b0)) 1 (some b1))))))), (b0, .inr (0, [.int 2, .int 0, .int 0, .int 0, .int 0, .int (-1)])), (b1, .inr (0, [.int 2, .int 0, .int 0, .int 0, .int 0, .int (-1)])), (od, .inr (2, [.ref o1, .ref o2, .ref o3, .int 0])), (jb, .inr (1, [.ref pl, .int (-1), .int 0, .int 0, .int 0])), (q_3, .inr (6, [.int 0, .int 0, .int 0, .int 0, .ref m4, .ref m5, .ref m6, .ref m7, .ref m8, .ref m9, .ref m10, .ref m11, .ref m12, .int 1, .int 0, .int 0, .ref m16, .ref m17, .ref m18, .int 0, .int 0, .int 0, .int 0, .int 0, .int 0, .int 0, .int 0, .ref m27, .int 0, .ref m29, .ref m30, .ref m31])), (m4, .inl (y4, 700, .inl (fun _ => 0))), (m5, .inl (y5, 700, .inl (fun _ => 0))), (m6, .inl (y6, 700, .inl (fun _ => 0))), (m7, .inl (y7, 96, .inl (fun _ => 0))), (m8, .inl (y8, 2, .inl (upd (upd (fun _ => 0) 0 2) 1 2))), (m9, .inl (y9, 2, .inl (fun _ => 0))), (m10, .inl (y10, 2, .inl (fun _ => 0))), (m11, .inl (y11, 2, .inl (upd (upd (fun _ => 0) 0 (-1)) 1 (-1)))), (m12, .inl (y12, 4, .inl (fun _ => 0))), (q_5, .inl (y_5, 1, .inr (.inl (fun _ => 0))))] := hD
  have hK : va_K (dC, dI) vwCl [(cI, .int), (cZ, .boolean), (cB, .object "ParkTower$Bay"), (y4, .int), (y5, .int), (y6, .int), (y7, .int), (y8, .int), (y9, .int), (y10, .boolean), (y11, .int), (y12, .boolean), (y_5, .long)] s := hK
  refine W.widen (k := 36) (n := 2558) (by omega) (by omega) ?_
  refine lv_astore_n (lv' := [(3, .ref q_5), (2, .ref q_3), (1, .ref q_1), (0, .ref b)]) hx hb dL_law_19 rfl hl (by decide) rfl (fun ls hl => ?_)
  refine lv_iconst (v := 0) hx hb dL_law_20 (by decide) ?_
  refine lv_istore (lv' := [(4, .int 0), (3, .ref q_5), (2, .ref q_3), (1, .ref q_1), (0, .ref b)]) hx hb dL_law_21 hl (by decide) rfl (fun ls hl => ?_)
  rcases (show L = 0 ∨ L = 1 ∨ L = 2 ∨ L = 3 ∨ L = 4 ∨ L = 5 by omega) with rfl | rfl | rfl | rfl | rfl | rfl
  · skip
    refine lv_iload hx hb dL_law_23 (lv_at hl 0 rfl) ?_
    refine lv_aload_n hx hb dL_law_25 rfl (lv_at hl 4 rfl) ?_
    refine va_slen hx hb hX hbl hbA hS dL_law_26 ?_
    refine pt_topi 0 rfl ?_
    refine lv_iconst (v := 5) hx hb dL_law_27 (by decide) ?_
    refine lv_isub hx hb dL_law_28 ?_
    refine pt_topi (-5) (by decide) ?_
    refine lv_icmp_gt (tgt := 830) hx hb dL_law_29 (by decide) (fun _ => ?_) (fun c => absurd (by decide) c)
    refine lv_iconst (v := 1) hx hb dL_law_830 (by decide) ?_
    refine va_forget (fun q h => hS.2.2 q h) ?_
    refine W.widen (k := 600002) (n := 7302232) (Nat.le_of_ble_eq_true rfl) (Nat.le_of_ble_eq_true rfl) ?_
    exact lw_ret hx hb hr hlocks dL_law_831
  · skip
    refine lv_iload hx hb dL_law_23 (lv_at hl 0 rfl) ?_
    refine lv_aload_n hx hb dL_law_25 rfl (lv_at hl 4 rfl) ?_
    refine va_slen hx hb hX hbl hbA hS dL_law_26 ?_
    refine pt_topi 1 rfl ?_
    refine lv_iconst (v := 5) hx hb dL_law_27 (by decide) ?_
    refine lv_isub hx hb dL_law_28 ?_
    refine pt_topi (-4) (by decide) ?_
    refine lv_icmp_gt (tgt := 830) hx hb dL_law_29 (by decide) (fun _ => ?_) (fun c => absurd (by decide) c)
    refine lv_iconst (v := 1) hx hb dL_law_830 (by decide) ?_
    refine va_forget (fun q h => hS.2.2 q h) ?_
    refine W.widen (k := 600002) (n := 7302232) (Nat.le_of_ble_eq_true rfl) (Nat.le_of_ble_eq_true rfl) ?_
    exact lw_ret hx hb hr hlocks dL_law_831
  · skip
    refine lv_iload hx hb dL_law_23 (lv_at hl 0 rfl) ?_
    refine lv_aload_n hx hb dL_law_25 rfl (lv_at hl 4 rfl) ?_
    refine va_slen hx hb hX hbl hbA hS dL_law_26 ?_
    refine pt_topi 2 rfl ?_
    refine lv_iconst (v := 5) hx hb dL_law_27 (by decide) ?_
    refine lv_isub hx hb dL_law_28 ?_
    refine pt_topi (-3) (by decide) ?_
    refine lv_icmp_gt (tgt := 830) hx hb dL_law_29 (by decide) (fun _ => ?_) (fun c => absurd (by decide) c)
    refine lv_iconst (v := 1) hx hb dL_law_830 (by decide) ?_
    refine va_forget (fun q h => hS.2.2 q h) ?_
    refine W.widen (k := 600002) (n := 7302232) (Nat.le_of_ble_eq_true rfl) (Nat.le_of_ble_eq_true rfl) ?_
    exact lw_ret hx hb hr hlocks dL_law_831
  · skip
    refine lv_iload hx hb dL_law_23 (lv_at hl 0 rfl) ?_
    refine lv_aload_n hx hb dL_law_25 rfl (lv_at hl 4 rfl) ?_
    refine va_slen hx hb hX hbl hbA hS dL_law_26 ?_
    refine pt_topi 3 rfl ?_
    refine lv_iconst (v := 5) hx hb dL_law_27 (by decide) ?_
    refine lv_isub hx hb dL_law_28 ?_
    refine pt_topi (-2) (by decide) ?_
    refine lv_icmp_gt (tgt := 830) hx hb dL_law_29 (by decide) (fun _ => ?_) (fun c => absurd (by decide) c)
    refine lv_iconst (v := 1) hx hb dL_law_830 (by decide) ?_
    refine va_forget (fun q h => hS.2.2 q h) ?_
    refine W.widen (k := 600002) (n := 7302232) (Nat.le_of_ble_eq_true rfl) (Nat.le_of_ble_eq_true rfl) ?_
    exact lw_ret hx hb hr hlocks dL_law_831
  · skip
    refine lv_iload hx hb dL_law_23 (lv_at hl 0 rfl) ?_
    refine lv_aload_n hx hb dL_law_25 rfl (lv_at hl 4 rfl) ?_
    refine va_slen hx hb hX hbl hbA hS dL_law_26 ?_
    refine pt_topi 4 rfl ?_
    refine lv_iconst (v := 5) hx hb dL_law_27 (by decide) ?_
    refine lv_isub hx hb dL_law_28 ?_
    refine pt_topi (-1) (by decide) ?_
    refine lv_icmp_gt (tgt := 830) hx hb dL_law_29 (by decide) (fun _ => ?_) (fun c => absurd (by decide) c)
    refine lv_iconst (v := 1) hx hb dL_law_830 (by decide) ?_
    refine va_forget (fun q h => hS.2.2 q h) ?_
    refine W.widen (k := 600002) (n := 7302232) (Nat.le_of_ble_eq_true rfl) (Nat.le_of_ble_eq_true rfl) ?_
    exact lw_ret hx hb hr hlocks dL_law_831
  · skip
    obtain ⟨v0, e0⟩ : ∃ z, xs 0 = z := ⟨_, rfl⟩
    refine lv_iload hx hb dL_law_23 (lv_at hl 0 rfl) ?_
    refine lv_aload_n hx hb dL_law_25 rfl (lv_at hl 4 rfl) ?_
    refine va_slen hx hb hX hbl hbA hS dL_law_26 ?_
    refine pt_topi 5 rfl ?_
    refine lv_iconst (v := 5) hx hb dL_law_27 (by decide) ?_
    refine lv_isub hx hb dL_law_28 ?_
    refine pt_topi 0 (by decide) ?_
    refine lv_icmp_gt (tgt := 830) hx hb dL_law_29 (by decide) (fun c => absurd c (by decide)) (fun _ => ?_)
    refine lv_aload_n hx hb dL_law_32 rfl (lv_at hl 4 rfl) ?_
    refine lv_iload hx hb dL_law_33 (lv_at hl 0 rfl) ?_
    refine va_sld hx hb hX hbl hbA hS (vp_in_iff.mpr (by decide)) dL_law_35 ?_
    refine pt_topi v0 e0 ?_
    refine lv_bipush (v := 15) hx hb dL_law_36 (by decide) ?_
    refine lv_iand hx hb dL_law_38 ?_
    obtain ⟨j, hj, ej⟩ := pk_andE v0 (m := 15) 4 (by decide)
    rcases (show j = 0 ∨ j = 1 ∨ j = 2 ∨ j = 3 ∨ j = 4 ∨ j = 5 ∨ j = 6 ∨ j = 7 ∨ j = 8 ∨ j = 9 ∨ j = 10 ∨ j = 11 ∨ j = 12 ∨ j = 13 ∨ j = 14 ∨ j = 15 by omega) with rfl | rfl | rfl | rfl | rfl | rfl | rfl | rfl | rfl | rfl | rfl | rfl | rfl | rfl | rfl | rfl
    · refine pt_topi 0 ej ?_
      refine lv_tableIn (off := 61) (tgt := 100) hx hb dL_law_39 (by decide) (by decide) (by decide) (by decide) ?_
      exact law_arrive l hlt C0 dC dI q_1 rk hd jm bs b0 b1 od o1 o2 o3 jb pl ap cI cZ cB q_3 m4 m5 m6 m7 m8 m9 m10 m11 m12 m16 m17 m18 m27 m29 m30 m31 y4 y5 y6 y7 y8 y9 y10 y11 y12 q_5 y_5 H locs hN hE hZ (hK.sub [0, 1, 2, 3, 4, 5, 6, 7, 8, 9, 10, 11, 12] rfl) (hP.sub [0, 1, 2, 3, 4, 5, 6, 7, 8, 9, 10, 11, 12, 13, 14, 15, 16, 17, 18, 19] rfl) (hD.sub [0, 1, 2, 3, 4, 5, 6, 7, 8, 9, 10, 11, 12, 13, 14, 15, 16, 17, 18, 19] (by decide) rfl) hS ls (lv_sub hl [0, 1, 2, 3, 4] rfl)
    · refine pt_topi 1 ej ?_
      refine lv_tableIn (off := 153) (tgt := 192) hx hb dL_law_39 (by decide) (by decide) (by decide) (by decide) ?_
      exact law_shut l hlt C0 dC dI q_1 rk hd jm bs b0 b1 od o1 o2 o3 jb pl ap cI cZ cB q_3 m4 m5 m6 m7 m8 m9 m10 m11 m12 m16 m17 m18 m27 m29 m30 m31 y4 y5 y6 y7 y8 y9 y10 y11 y12 q_5 y_5 H locs hN hE hZ (hK.sub [0, 1, 2, 3, 4, 5, 6, 7, 8, 9, 10, 11, 12] rfl) (hP.sub [0, 1, 2, 3, 4, 5, 6, 7, 8, 9, 10, 11, 12, 13, 14, 15, 16, 17, 18, 19] rfl) (hD.sub [0, 1, 2, 3, 4, 5, 6, 7, 8, 9, 10, 11, 12, 13, 14, 15, 16, 17, 18, 19] (by decide) rfl) hS ls (lv_sub hl [0, 1, 2, 3, 4] rfl)
    · refine pt_topi 2 ej ?_
      refine lv_tableIn (off := 189) (tgt := 228) hx hb dL_law_39 (by decide) (by decide) (by decide) (by decide) ?_
      exact law_person l hlt C0 dC dI q_1 rk hd jm bs b0 b1 od o1 o2 o3 jb pl ap cI cZ cB q_3 m4 m5 m6 m7 m8 m9 m10 m11 m12 m16 m17 m18 m27 m29 m30 m31 y4 y5 y6 y7 y8 y9 y10 y11 y12 q_5 y_5 H locs hN hE hZ (hK.sub [0, 1, 2, 3, 4, 5, 6, 7, 8, 9, 10, 11, 12] rfl) (hP.sub [0, 1, 2, 3, 4, 5, 6, 7, 8, 9, 10, 11, 12, 13, 14, 15, 16, 17, 18, 19] rfl) (hD.sub [0, 1, 2, 3, 4, 5, 6, 7, 8, 9, 10, 11, 12, 13, 14, 15, 16, 17, 18, 19] (by decide) rfl) hS ls (lv_sub hl [0, 1, 2, 3, 4] rfl)
    · refine pt_topi 3 ej ?_
      refine lv_tableIn (off := 253) (tgt := 292) hx hb dL_law_39 (by decide) (by decide) (by decide) (by decide) ?_
      exact law_gone l hlt C0 dC dI q_1 rk hd jm bs b0 b1 od o1 o2 o3 jb pl ap cI cZ cB q_3 m4 m5 m6 m7 m8 m9 m10 m11 m12 m16 m17 m18 m27 m29 m30 m31 y4 y5 y6 y7 y8 y9 y10 y11 y12 q_5 y_5 H locs hN hE hZ (hK.sub [0, 1, 2, 3, 4, 5, 6, 7, 8, 9, 10, 11, 12] rfl) (hP.sub [0, 1, 2, 3, 4, 5, 6, 7, 8, 9, 10, 11, 12, 13, 14, 15, 16, 17, 18, 19] rfl) (hD.sub [0, 1, 2, 3, 4, 5, 6, 7, 8, 9, 10, 11, 12, 13, 14, 15, 16, 17, 18, 19] (by decide) rfl) hS ls (lv_sub hl [0, 1, 2, 3, 4] rfl)
    · refine pt_topi 4 ej ?_
      refine lv_tableIn (off := 309) (tgt := 348) hx hb dL_law_39 (by decide) (by decide) (by decide) (by decide) ?_
      exact law_leave l hlt C0 dC dI q_1 rk hd jm bs b0 b1 od o1 o2 o3 jb pl ap cI cZ cB q_3 m4 m5 m6 m7 m8 m9 m10 m11 m12 m16 m17 m18 m27 m29 m30 m31 y4 y5 y6 y7 y8 y9 y10 y11 y12 q_5 y_5 H locs hN hE hZ (hK.sub [0, 1, 2, 3, 4, 5, 6, 7, 8, 9, 10, 11, 12] rfl) (hP.sub [0, 1, 2, 3, 4, 5, 6, 7, 8, 9, 10, 11, 12, 13, 14, 15, 16, 17, 18, 19] rfl) (hD.sub [0, 1, 2, 3, 4, 5, 6, 7, 8, 9, 10, 11, 12, 13, 14, 15, 16, 17, 18, 19] (by decide) rfl) hS ls (lv_sub hl [0, 1, 2, 3, 4] rfl)
    · refine pt_topi 5 ej ?_
      refine lv_tableIn (off := 365) (tgt := 404) hx hb dL_law_39 (by decide) (by decide) (by decide) (by decide) ?_
      exact law_jam l hlt C0 dC dI q_1 rk hd jm bs b0 b1 od o1 o2 o3 jb pl ap cI cZ cB q_3 m4 m5 m6 m7 m8 m9 m10 m11 m12 m16 m17 m18 m27 m29 m30 m31 y4 y5 y6 y7 y8 y9 y10 y11 y12 q_5 y_5 H locs hN hE hZ (hK.sub [0, 1, 2, 3, 4, 5, 6, 7, 8, 9, 10, 11, 12] rfl) (hP.sub [0, 1, 2, 3, 4, 5, 6, 7, 8, 9, 10, 11, 12, 13, 14, 15, 16, 17, 18, 19] rfl) (hD.sub [0, 1, 2, 3, 4, 5, 6, 7, 8, 9, 10, 11, 12, 13, 14, 15, 16, 17, 18, 19] (by decide) rfl) hS ls (lv_sub hl [0, 1, 2, 3, 4] rfl)
    · refine pt_topi 6 ej ?_
      refine lv_tableIn (off := 429) (tgt := 468) hx hb dL_law_39 (by decide) (by decide) (by decide) (by decide) ?_
      exact law_power l hlt C0 dC dI q_1 rk hd jm bs b0 b1 od o1 o2 o3 jb pl ap cI cZ cB q_3 m4 m5 m6 m7 m8 m9 m10 m11 m12 m16 m17 m18 m27 m29 m30 m31 y4 y5 y6 y7 y8 y9 y10 y11 y12 q_5 y_5 H locs hN hE hZ (hK.sub [0, 1, 2, 3, 4, 5, 6, 7, 8, 9, 10, 11, 12] rfl) (hP.sub [0, 1, 2, 3, 4, 5, 6, 7, 8, 9, 10, 11, 12, 13, 14, 15, 16, 17, 18, 19] rfl) (hD.sub [0, 1, 2, 3, 4, 5, 6, 7, 8, 9, 10, 11, 12, 13, 14, 15, 16, 17, 18, 19] (by decide) rfl) hS ls (lv_sub hl [0, 1, 2, 3, 4] rfl)
    · refine pt_topi 7 ej ?_
      refine lv_tableIn (off := 481) (tgt := 520) hx hb dL_law_39 (by decide) (by decide) (by decide) (by decide) ?_
      exact law_tick l hlt C0 dC dI q_1 rk hd jm bs b0 b1 od o1 o2 o3 jb pl ap cI cZ cB q_3 m4 m5 m6 m7 m8 m9 m10 m11 m12 m16 m17 m18 m27 m29 m30 m31 y4 y5 y6 y7 y8 y9 y10 y11 y12 q_5 y_5 H locs hN hE hZ (hK.sub [0, 1, 2, 3, 4, 5, 6, 7, 8, 9, 10, 11, 12] rfl) (hP.sub [0, 1, 2, 3, 4, 5, 6, 7, 8, 9, 10, 11, 12, 13, 14, 15, 16, 17, 18, 19] rfl) (hD.sub [0, 1, 2, 3, 4, 5, 6, 7, 8, 9, 10, 11, 12, 13, 14, 15, 16, 17, 18, 19] (by decide) rfl) hS ls (lv_sub hl [0, 1, 2, 3, 4] rfl)
    · refine pt_topi 8 ej ?_
      refine lv_tableIn (off := 537) (tgt := 576) hx hb dL_law_39 (by decide) (by decide) (by decide) (by decide) ?_
      exact law_cell l hlt C0 dC dI q_1 rk hd jm bs b0 b1 od o1 o2 o3 jb pl ap cI cZ cB q_3 m4 m5 m6 m7 m8 m9 m10 m11 m12 m16 m17 m18 m27 m29 m30 m31 y4 y5 y6 y7 y8 y9 y10 y11 y12 q_5 y_5 H locs hN hE hZ (hK.sub [0, 1, 2, 3, 4, 5, 6, 7, 8, 9, 10, 11, 12] rfl) (hP.sub [0, 1, 2, 3, 4, 5, 6, 7, 8, 9, 10, 11, 12, 13, 14, 15, 16, 17, 18, 19] rfl) (hD.sub [0, 1, 2, 3, 4, 5, 6, 7, 8, 9, 10, 11, 12, 13, 14, 15, 16, 17, 18, 19] (by decide) rfl) hS ls (lv_sub hl [0, 1, 2, 3, 4] rfl)
    · refine pt_topi 9 ej ?_
      refine lv_tableIn (off := 593) (tgt := 632) hx hb dL_law_39 (by decide) (by decide) (by decide) (by decide) ?_
      exact law_plan l hlt C0 dC dI q_1 rk hd jm bs b0 b1 od o1 o2 o3 jb pl ap cI cZ cB q_3 m4 m5 m6 m7 m8 m9 m10 m11 m12 m16 m17 m18 m27 m29 m30 m31 y4 y5 y6 y7 y8 y9 y10 y11 y12 q_5 y_5 H locs hN hE hZ (hK.sub [0, 1, 2, 3, 4, 5, 6, 7, 8, 9, 10, 11, 12] rfl) (hP.sub [0, 1, 2, 3, 4, 5, 6, 7, 8, 9, 10, 11, 12, 13, 14, 15, 16, 17, 18, 19] rfl) (hD.sub [0, 1, 2, 3, 4, 5, 6, 7, 8, 9, 10, 11, 12, 13, 14, 15, 16, 17, 18, 19] (by decide) rfl) hS ls (lv_sub hl [0, 1, 2, 3, 4] rfl)
    · refine pt_topi 10 ej ?_
      refine lv_tableIn (off := 661) (tgt := 700) hx hb dL_law_39 (by decide) (by decide) (by decide) (by decide) ?_
      exact law_bay l hlt C0 dC dI q_1 rk hd jm bs b0 b1 od o1 o2 o3 jb pl ap cI cZ cB q_3 m4 m5 m6 m7 m8 m9 m10 m11 m12 m16 m17 m18 m27 m29 m30 m31 y4 y5 y6 y7 y8 y9 y10 y11 y12 q_5 y_5 H locs hN hE hZ (hK.sub [0, 1, 2, 3, 4, 5, 6, 7, 8, 9, 10, 11, 12] rfl) (hP.sub [0, 1, 2, 3, 4, 5, 6, 7, 8, 9, 10, 11, 12, 13, 14, 15, 16, 17, 18, 19] rfl) (hD.sub [0, 1, 2, 3, 4, 5, 6, 7, 8, 9, 10, 11, 12, 13, 14, 15, 16, 17, 18, 19] (by decide) rfl) hS ls (lv_sub hl [0, 1, 2, 3, 4] rfl)
    · refine pt_topi 11 ej ?_
      refine lv_tableIn (off := 729) (tgt := 768) hx hb dL_law_39 (by decide) (by decide) (by decide) (by decide) ?_
      exact law_look l hlt C0 dC dI q_1 rk hd jm bs b0 b1 od o1 o2 o3 jb pl ap cI cZ cB q_3 m4 m5 m6 m7 m8 m9 m10 m11 m12 m16 m17 m18 m27 m29 m30 m31 y4 y5 y6 y7 y8 y9 y10 y11 y12 q_5 y_5 H locs hN hE hZ (hK.sub [0, 1, 2, 3, 4, 5, 6, 7, 8, 9, 10, 11, 12] rfl) (hP.sub [0, 1, 2, 3, 4, 5, 6, 7, 8, 9, 10, 11, 12, 13, 14, 15, 16, 17, 18, 19] rfl) (hD.sub [0, 1, 2, 3, 4, 5, 6, 7, 8, 9, 10, 11, 12, 13, 14, 15, 16, 17, 18, 19] (by decide) rfl) hS ls (lv_sub hl [0, 1, 2, 3, 4] rfl)
    · refine pt_topi 12 ej ?_
      refine lv_tableOut (tgt := 824) hx hb dL_law_39 (by decide) (by decide) ?_
      exact law_end l C0 (Nat.le_of_ble_eq_true rfl) (Nat.le_of_ble_eq_true rfl) hS ls (lv_sub hl [0, 4] rfl)
    · refine pt_topi 13 ej ?_
      refine lv_tableOut (tgt := 824) hx hb dL_law_39 (by decide) (by decide) ?_
      exact law_end l C0 (Nat.le_of_ble_eq_true rfl) (Nat.le_of_ble_eq_true rfl) hS ls (lv_sub hl [0, 4] rfl)
    · refine pt_topi 14 ej ?_
      refine lv_tableOut (tgt := 824) hx hb dL_law_39 (by decide) (by decide) ?_
      exact law_end l C0 (Nat.le_of_ble_eq_true rfl) (Nat.le_of_ble_eq_true rfl) hS ls (lv_sub hl [0, 4] rfl)
    · refine pt_topi 15 ej ?_
      refine lv_tableOut (tgt := 824) hx hb dL_law_39 (by decide) (by decide) ?_
      exact law_end l C0 (Nat.le_of_ble_eq_true rfl) (Nat.le_of_ble_eq_true rfl) hS ls (lv_sub hl [0, 4] rfl)
set_option maxHeartbeats 4000000 in
theorem lw_walk (l : Launch) (hlt : l.stackTraces = false) (b : Addr) (xs : List Int32) : MetFree l x (headSpec (Jvm.Cond.code x code maxLocals ret :: tables_1) room_1) (lw_P b xs) (fun _ _ _ _ _ => True) lw_Q := by
  refine MetFree.of_bodyS (code := code) (maxLocals := maxLocals) (ret := ret) (by decide) ?_ ?_
  · intro args s m h hn
    obtain ⟨meth, c, h1, h2, h3, h4, h5, h6, -, -⟩ := Cond.code_spec hn (atoms_spec (ws := Jvm.Cond.code x code maxLocals ret :: tables_1) h _ List.mem_cons_self)
    exact ⟨meth, c, h1, h2, h3, h4, h5, h6⟩
  · intro p e s m args below meth c s₁ B hml0 hP _
    obtain ⟨rfl, hx, hbd, hgv⟩ := hP
    obtain ⟨scr, harrAt, hlist, hof, hsmall⟩ := hx
    obtain ⟨hcb, hkn, -, -⟩ := State.arrayAt?_spec harrAt
    have hown : s.vm.findClass R_law = some m.cls := findClass_of_methodNamed B.named
    have hts0 : ∀ c ∈ (Jvm.Cond.code x code maxLocals ret :: tables_1), c.before #[Value.ref b] s = true := atoms_spec (ws := Jvm.Cond.code x code maxLocals ret :: tables_1) B.pre
    have hts : ∀ w ∈ lw_tbl, w.before #[Value.ref b] s = true := k2_hts_sels lw_privs (fun w hw => hts0 w (List.mem_cons_of_mem _ hw)) lw_privs_ok
    have hml : c.maxLocals = 7 := B.maxLocals_eq (hts0 _ List.mem_cons_self)
    have X₀ : Stand p l e room_1 s m #[Value.ref b] below meth c s₁ [] 0 0 := Stand.of_body B
    have hh0 : s₁.heap = s.heap := by rw [B.state]; rfl
    have hsz : scr.slots.size = xs.length := by rw [← Array.length_toList, hlist, List.length_map]
    have hval : ∀ j : Nat, j < xs.length → scr.slots[j]? = some (.int (xs.getD j 0)) := fun j hj => by
      rw [← Array.getElem?_toList, hlist]
      simp [hj]
    have hbl : b < s.heap.size := (Array.getElem?_eq_some_iff.mp hcb).1
    have hX : va_X b xs.length (fun j => xs.getD j 0) s s.heap := ⟨scr, hcb, hof, hkn, hsz, hval⟩
    have K : W p l e room_1 s m #[Value.ref b] below meth c s₁.heap [] 0 0 (lw_Z below #[Value.ref b] s) (entryFrame m ([Value.ref b] : List Value).toArray 7) := by
      rw [hh0]
      exact whole_start l hlt hbd ⟨B.exec, B.bytes, B.returns, hml, hown, hts, hX, hbl, B.notSynchronized, hgv⟩
    obtain ⟨t, a1, o, b1, b2, b3⟩ := K s₁ rfl X₀
    exact ⟨t, o, a1, b1, b2, b3⟩
theorem lw_pre_spec {args : Array Value} {s : State} (h : (Jvm.Cond.and given_1 narrow_1).before args s = true) (hr : rest_1_c.before args s = true) : ∃ (b : Addr) (xs : List Int32), lw_P b xs args s := by
  have hs := flat_of_before _ h
  have hq := flat_of_before _ hr
  have hc : (Cond.count 1).before args s = true := hs _ (by decide +kernel)
  have harr : (Cond.arrayOf (.arg 0) .int).before args s = true := hs _ (by decide +kernel)
  have hle : (Cond.le (.length (.arg 0)) (.int 5)).before args s = true := hs _ (by decide +kernel)
  have hlen : (Cond.isInt (.length (.arg 0))).before args s = true := hq _ (by decide +kernel)
  have hall : (Cond.all (.arg 0) (.isInt (.elem (.arg 0) (.index 0)))).before args s = true := hq _ (by decide +kernel)
  obtain ⟨b, xs, hb, hx⟩ := State.ints_of_pre rfl harr hlen hall
  have hsm : xs.length < 2 ^ 31 := hx.choose_spec.2.2.2
  have hev : (Term.length (.arg 0)).eval args s none [] s = some (.int xs.length.toInt32) := hx.length_eval hb
  have hv := Cond.le_ints hev (show (Term.int 5).eval args s none [] s = some (.int 5) from rfl)
  have hd : xs.length.toInt32 ≤ 5 := by
    simpa [Cond.before, Cond.holds, hv] using hle
  have hN : xs.length ≤ 5 := (Int32.ofNat_le_ofNat hsm (by decide)).mp (show Int32.ofNat xs.length ≤ Int32.ofNat 5 from hd)
  exact ⟨b, xs, Cond.one_arg hc (show args[0]? = some (.ref b) from hb), hx, hN, h⟩
theorem lw_comes (l : Launch) (hlt : l.stackTraces = false) : Comes l x (Jvm.Cond.code x code maxLocals ret :: tables_1) room_1 (fun tb e args s => Calls_1 tb e args s ∧ rest_1 tb e args s ∧ Pre_1 tb e args s)
    (fun _ _ args s o t => lw_Q args s o t) := by
  intro p e ha hc hk s m args below hf hfit hheap happ hpre
  obtain ⟨b, xs, hP⟩ := lw_pre_spec hpre.2.2 hpre.2.1
  obtain ⟨k, o, h1, h2, h3, hQ⟩ := lw_walk l hlt b xs p e ha hc hk s m args below hf ((Spec.applies_iff_loose hf).mp happ).1 hP trivial
  exact ⟨k, o, h1, h2, h3, hQ⟩
theorem lw_frame {s t : State} {o : Outcome} {args : Array Value} (h : Framed s o t [] 600002 7302232) :
    Framed s o t (fieldLocs frame_1_writes args s ++ arrayLocs frame_1_arrays args s ++ staticLocs frame_1_statics s) 600002 7302232 := h
theorem lw_limb (L : Cond) (hL : ∀ (args : Array Value) (s t : State), L.after args s (.returned (some (.int 1))) t = true) :
    ArmFor flags0 classFile x code maxLocals ret World_1 tables_1 room_1 Calls_1 rest_1 Pre_1
      (fun tb e a s o t => postC L tb e a s o t ∧ Framed s o t (fieldLocs frame_1_writes a s ++ arrayLocs frame_1_arrays a s ++ staticLocs frame_1_statics s) 600002 7302232) := by
  intro l hfl _ _ p e ha hc hk s m args below hf hfit hheap happ hpre
  obtain ⟨k, o, h1, h2, h3, rfl, hF⟩ := lw_comes l (by unfold Launch.stackTraces; rw [hfl]; decide +kernel) p e ha hc hk s m args below hf hfit hheap happ hpre
  exact ⟨k, _, h1, h2, h3, hL args s _, lw_frame hF⟩
theorem i_vc : Claimed_1_1 ∧ Claimed_1_2 := ⟨lw_limb limb_1_1 (fun args s t => by simp [limb_1_1, Cond.after, Cond.holds, Cond.value]), lw_limb limb_1_2 (fun args s t => Cond.after_iff.mpr (by
  first | (rw [show limb_1_2 = Cond.eq .result (.int 1) from rfl, Cond.eq_ints (x := 1) (y := 1) rfl rfl]; simp; done) | (simp [limb_1_2, Cond.value, Term.eval]; done)))⟩

