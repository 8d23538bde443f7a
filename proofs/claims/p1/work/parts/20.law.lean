def R_law : String := "ParkTowerLaw"
def lw_P (b : Addr) (xs : List Int32) (args : Array Value) (s : State) : Prop := args = #[.ref b] ∧ s.IntsAt b xs ∧ xs.length ≤ 5 ∧ (Jvm.Cond.and given_1 narrow_1).before args s = true
def lw_Q (_ : Array Value) (s : State) (o : Outcome) (t : State) : Prop := o = .returned (some (.int 1)) ∧ Framed s o t [] 600002 7302232
def lw_Z (below : List Frame) (a : Array Value) (s : State) : State → Prop := fun t => ∃ o, t.status = .running ∧ Ended t below o ∧ lw_Q a s o t
/-- the law's own end, with 1 on the stack, nothing written that was there before, its room as the claim has it -/
theorem lw_ret {p : Program} {l : Launch} {e : Env} {s : State} {m : MethodId} {below : List Frame} {meth : Method} {c : Code} {b : Nat} (hx : p.tables.exec = Jvm.exec) (hb : c.code = code) (hr : meth.sig.returnType = ret) (hlocks : meth.locks = false) {pc : Nat} {H : Heap} {ls : Array Slot} (hdg : decode code pc = .ok (.ireturn, 1)) : W p l e room_1 s m #[Value.ref b] below meth c H [] 600002 7302232 (lw_Z below #[Value.ref b] s) (F0 m pc ls [.int 1]) := by
  intro T hT X
  obtain ⟨fs, hret, hrun, hended, hW, hframe⟩ := X.leave (v := some (.int 1)) (hlocks := hlocks) (fun h => by rw [hr] at h; cases h)
  have hmeth' : T.vm.method? m = some meth := X.method'
  refine ⟨T.setFrames fs, ?_, .returned (some (.int 1)), hrun, hended, rfl, ⟨_, rfl⟩, hW, hframe⟩
  jvm_step X.here [X.here.top, hx, hb, hdg, hmeth', hr, ret, narrow_b1]
  (try refine ⟨rfl, ?_⟩); (try refine ⟨rfl, ?_⟩)
  first | (intro acts; rw [hret _ acts rfl rfl rfl]) | rw [hret _ _ rfl rfl rfl]
  exact Steps.refl _
/-- what holds at the law's entry: the machine, the code, the tables' words (any of lw_tbl by 'hts w (by decide +kernel)'), the script of L ints xs at the cell b, what the Statement gives of the start (any of its parts by flat_of_before) -/
def lw_At (p : Program) (s : State) (m : MethodId) (meth : Method) (c : Code) (b L : Nat) (xs : Nat → Int32) : Prop :=
  p.tables.exec = Jvm.exec ∧ c.code = code ∧ meth.sig.returnType = ret ∧ c.maxLocals = 7 ∧ s.vm.findClass R_law = some m.cls ∧ (∀ w ∈ lw_tbl, w.before #[Value.ref b] s = true) ∧ va_X b L xs s s.heap ∧ b < s.heap.size ∧ meth.locks = false ∧ (Jvm.Cond.and given_1 narrow_1).before #[Value.ref b] s = true
theorem pt_34 {x : Int32} : x < 4 ↔ ¬ 3 < x := by
  rw [Int32.lt_iff_toInt_lt, Int32.lt_iff_toInt_lt]
  have e3 : (3 : Int32).toInt = 3 := by decide
  have e4 : (4 : Int32).toInt = 4 := by decide
  omega
theorem pt_95 {x : Int32} : x < 96 ↔ ¬ 95 < x := by
  rw [Int32.lt_iff_toInt_lt, Int32.lt_iff_toInt_lt]
  have e3 : (95 : Int32).toInt = 95 := by decide
  have e4 : (96 : Int32).toInt = 96 := by decide
  omega
theorem pt_out {x lo hi : Int32} {a b : Int} (ha : lo.toInt = a) (hb : hi.toInt = b) (h : x.toInt < a ∨ b < x.toInt) : ¬ (¬ x < lo ∧ ¬ hi < x) := by
  rw [Int32.lt_iff_toInt_lt, Int32.lt_iff_toInt_lt]
  omega
theorem pt_cmp {x y : Int64} (h : x = y) : lg_cmp x y = 0 := by
  subst h
  simp [lg_cmp]
set_option maxHeartbeats 4000000 in
set_option maxRecDepth 100000 in
theorem law_end {p : Program} {e : Env} {s : State} {m : MethodId} {below : List Frame} {meth : Method} {c : Code} (l : Launch) {b : Nat} {xs : Nat → Int32} (C0 : lw_At p s m meth c b 5 xs) {H : Heap} {locs : List Loc} {cells slots : Nat} (hc : cells ≤ 600002) (hs : slots ≤ 7302232) (hS : va_S (fun q : Nat => s.heap.size ≤ q) s.heap H locs) (ls : Array Slot) (hl : lv_has ls 7 [(4, .int 0), (0, .ref b)]) : W p l e room_1 s m #[Value.ref b] below meth c H locs cells slots (lw_Z below #[Value.ref b] s) (F0 m 824 ls []) := by
  obtain ⟨hx, hb, hr, hml, hown, hts, hX, hbl, hlocks, hgv⟩ := id C0
  have hbA : ¬ (fun q : Nat => s.heap.size ≤ q) b := Nat.not_le.mpr hbl
  refine lv_iinc (v := 5) (lv' := [(4, .int 5), (0, .ref b)]) hx hb dL_law_824 hl (k := 0) rfl (by decide) (by decide) rfl (fun ls hl => ?_)
  refine lv_goto (tgt := 23) hx hb dL_law_827 (by decide) ?_
  refine lv_iload hx hb dL_law_23 (lv_at hl 0 rfl) ?_
  refine lv_aload_n hx hb dL_law_25 rfl (lv_at hl 1 rfl) ?_
  refine va_slen hx hb hX hbl hbA hS dL_law_26 ?_
  refine pt_topi 5 rfl ?_
  refine lv_iconst (v := 5) hx hb dL_law_27 (by decide) ?_
  refine lv_isub hx hb dL_law_28 ?_
  refine pt_topi 0 (by decide) ?_
  refine lv_icmp_gt (tgt := 830) hx hb dL_law_29 (by decide) (fun _ => ?_) (fun c => absurd (by decide) c)
  refine lv_iconst (v := 1) hx hb dL_law_830 (by decide) ?_
  refine va_forget (fun q h => hS.2.2 q h) ?_
  refine W.widen (k := 600002) (n := 7302232) hc hs ?_
  exact lw_ret hx hb hr hlocks dL_law_831
set_option maxHeartbeats 4000000 in
set_option maxRecDepth 100000 in
theorem law_arrive {p : Program} {e : Env} {s : State} {m : MethodId} {below : List Frame} {meth : Method} {c : Code} (l : Launch) (hlt : l.stackTraces = false) {b : Nat} {xs : Nat → Int32} (C0 : lw_At p s m meth c b 5 xs) (dC : Nat → ClassId) (dI : Nat → Nat → Nat) (x rk hd jm bs b0 b1 od o1 o2 o3 jb pl ap : Nat) (cI cZ cB : ClassId) (mo m4 m5 m6 m7 m8 m9 m10 m11 m12 m16 m17 m18 m27 m29 m30 m31 : Nat) (y4 y5 y6 y7 y8 y9 y10 y11 y12 : ClassId) (ot : Nat) (cL : ClassId) (H : Heap) (locs : List Loc) (hN : pt_N s) (hE : pt_E s) (hZ : pt_Z s.heap.size s s.heap) (hK : va_K (dC, dI) vwCl [(cI, .int), (cZ, .boolean), (cB, .object "ParkTower$Bay"), (y4, .int), (y5, .int), (y6, .int), (y7, .int), (y8, .int), (y9, .int), (y10, .boolean), (y11, .int), (y12, .boolean), (cL, .long)] s) (hP : va_P (dC, dI) vwCl [(x, .inr (5, [.ref rk, .ref bs, .ref od, .ref jb, .ref ap, .int 0, .int 1, .int 0, .int 0, .int 0])), (rk, .inr (4, [.ref hd, .ref jm])), (hd, .inl (cI, 96, .inl (fun _ => 0))), (jm, .inl (cZ, 4, .inl (fun _ => 0))), (bs, .inl (cB, 2, .inr (.inr (.inr (.inr (va_up (va_up (fun _ => none) 0 (some b0)) 1 (some b1))))))), (b0, .inr (0, [.int 2, .int 0, .int 0, .int 0, .int 0, .int (-1)])), (b1, .inr (0, [.int 2, .int 0, .int 0, .int 0, .int 0, .int (-1)])), (od, .inr (2, [.ref o1, .ref o2, .ref o3, .int 0])), (jb, .inr (1, [.ref pl, .int (-1), .int 0, .int 0, .int 0])), (mo, .inr (6, [.int 0, .int 0, .int 0, .int 0, .ref m4, .ref m5, .ref m6, .ref m7, .ref m8, .ref m9, .ref m10, .ref m11, .ref m12, .int 1, .int 0, .int 0, .ref m16, .ref m17, .ref m18, .int 0, .int 0, .int 0, .int 0, .int 0, .int 0, .int 0, .int 0, .ref m27, .int 0, .ref m29, .ref m30, .ref m31])), (m4, .inl (y4, 700, .inl (fun _ => 0))), (m5, .inl (y5, 700, .inl (fun _ => 0))), (m6, .inl (y6, 700, .inl (fun _ => 0))), (m7, .inl (y7, 96, .inl (fun _ => 0))), (m8, .inl (y8, 2, .inl (upd (upd (fun _ => 0) 0 2) 1 2))), (m9, .inl (y9, 2, .inl (fun _ => 0))), (m10, .inl (y10, 2, .inl (fun _ => 0))), (m11, .inl (y11, 2, .inl (upd (upd (fun _ => 0) 0 (-1)) 1 (-1)))), (m12, .inl (y12, 4, .inl (fun _ => 0))), (ot, .inl (cL, 1, .inr (.inl (fun _ => 0))))] H) (hD : va_D (fun q : Nat => s.heap.size ≤ q) [(x, .inr (5, [.ref rk, .ref bs, .ref od, .ref jb, .ref ap, .int 0, .int 1, .int 0, .int 0, .int 0])), (rk, .inr (4, [.ref hd, .ref jm])), (hd, .inl (cI, 96, .inl (fun _ => 0))), (jm, .inl (cZ, 4, .inl (fun _ => 0))), (bs, .inl (cB, 2, .inr (.inr (.inr (.inr (va_up (va_up (fun _ => none) 0 (some b0)) 1 (some b1))))))), (b0, .inr (0, [.int 2, .int 0, .int 0, .int 0, .int 0, .int (-1)])), (b1, .inr (0, [.int 2, .int 0, .int 0, .int 0, .int 0, .int (-1)])), (od, .inr (2, [.ref o1, .ref o2, .ref o3, .int 0])), (jb, .inr (1, [.ref pl, .int (-1), .int 0, .int 0, .int 0])), (mo, .inr (6, [.int 0, .int 0, .int 0, .int 0, .ref m4, .ref m5, .ref m6, .ref m7, .ref m8, .ref m9, .ref m10, .ref m11, .ref m12, .int 1, .int 0, .int 0, .ref m16, .ref m17, .ref m18, .int 0, .int 0, .int 0, .int 0, .int 0, .int 0, .int 0, .int 0, .ref m27, .int 0, .ref m29, .ref m30, .ref m31])), (m4, .inl (y4, 700, .inl (fun _ => 0))), (m5, .inl (y5, 700, .inl (fun _ => 0))), (m6, .inl (y6, 700, .inl (fun _ => 0))), (m7, .inl (y7, 96, .inl (fun _ => 0))), (m8, .inl (y8, 2, .inl (upd (upd (fun _ => 0) 0 2) 1 2))), (m9, .inl (y9, 2, .inl (fun _ => 0))), (m10, .inl (y10, 2, .inl (fun _ => 0))), (m11, .inl (y11, 2, .inl (upd (upd (fun _ => 0) 0 (-1)) 1 (-1)))), (m12, .inl (y12, 4, .inl (fun _ => 0))), (ot, .inl (cL, 1, .inr (.inl (fun _ => 0))))]) (hS : va_S (fun q : Nat => s.heap.size ≤ q) s.heap H locs) (ls : Array Slot) (hl : lv_has ls 7 [(4, .int 0), (3, .ref ot), (2, .ref mo), (1, .ref x), (0, .ref b)]) : W p l e room_1 s m #[Value.ref b] below meth c H locs 36 2558 (lw_Z below #[Value.ref b] s) (F0 m 100 ls []) := by
  obtain ⟨hx, hb, hr, hml, hown, hts, hX, hbl, hlocks, hgv⟩ := id C0
  have hbA : ¬ (fun q : Nat => s.heap.size ≤ q) b := Nat.not_le.mpr hbl
  have hA : ∀ q : Nat, s.heap.size ≤ q → (fun q : Nat => s.heap.size ≤ q) q := fun _ h => h
  obtain ⟨v1, e1⟩ : ∃ z, xs 1 = z := ⟨_, rfl⟩
  obtain ⟨v2, e2⟩ : ∃ z, xs 2 = z := ⟨_, rfl⟩
  obtain ⟨v3, e3⟩ : ∃ z, xs 3 = z := ⟨_, rfl⟩
  obtain ⟨v4, e4⟩ : ∃ z, xs 4 = z := ⟨_, rfl⟩
  by_cases hok : (v1 = 0 ∨ v1 = 1) ∧ ¬ v2 < 1 ∧ ¬ v3 < 1 ∧ 1 ≤ v4
  · obtain ⟨hb0, a1, a2, a3⟩ := hok
    rcases hb0 with rfl | rfl
    · skip
      refine lv_aload_n hx hb dL_law_100 rfl (lv_at hl 3 rfl) ?_
      refine lv_aload_n hx hb dL_law_101 rfl (lv_at hl 4 rfl) ?_
      refine lv_iload hx hb dL_law_102 (lv_at hl 0 rfl) ?_
      refine lv_iconst (v := 1) hx hb dL_law_104 (by decide) ?_
      refine lv_iadd hx hb dL_law_105 ?_
      refine pt_topi 1 (by decide) ?_
      refine va_sld hx hb hX hbl hbA hS (vp_in_iff.mpr (by decide)) dL_law_106 ?_
      refine pt_topi 0 e1 ?_
      refine lv_aload_n hx hb dL_law_107 rfl (lv_at hl 4 rfl) ?_
      refine lv_iload hx hb dL_law_108 (lv_at hl 0 rfl) ?_
      refine lv_iconst (v := 2) hx hb dL_law_110 (by decide) ?_
      refine lv_iadd hx hb dL_law_111 ?_
      refine pt_topi 2 (by decide) ?_
      refine va_sld hx hb hX hbl hbA hS (vp_in_iff.mpr (by decide)) dL_law_112 ?_
      refine pt_topi v2 e2 ?_
      refine lv_aload_n hx hb dL_law_113 rfl (lv_at hl 4 rfl) ?_
      refine lv_iload hx hb dL_law_114 (lv_at hl 0 rfl) ?_
      refine lv_iconst (v := 3) hx hb dL_law_116 (by decide) ?_
      refine lv_iadd hx hb dL_law_117 ?_
      refine pt_topi 3 (by decide) ?_
      refine va_sld hx hb hX hbl hbA hS (vp_in_iff.mpr (by decide)) dL_law_118 ?_
      refine pt_topi v3 e3 ?_
      refine lv_aload_n hx hb dL_law_119 rfl (lv_at hl 4 rfl) ?_
      refine lv_iload hx hb dL_law_120 (lv_at hl 0 rfl) ?_
      refine lv_iconst (v := 4) hx hb dL_law_122 (by decide) ?_
      refine lv_iadd hx hb dL_law_123 ?_
      refine pt_topi 4 (by decide) ?_
      refine va_sld hx hb hX hbl hbA hS (vp_in_iff.mpr (by decide)) dL_law_124 ?_
      refine pt_topi v4 e4 ?_
      refine lv_aload_n hx hb dL_law_125 rfl (lv_at hl 1 rfl) ?_
      have hPc := hP.sub (ws' := [(x, .inr (5, [.ref rk, .ref bs, .ref od, .ref jb, .ref ap, .int 0, .int 1, .int 0, .int 0, .int 0])), (rk, .inr (4, [.ref hd, .ref jm])), (hd, .inl (cI, 96, .inl (fun _ => 0))), (jm, .inl (cZ, 4, .inl (fun _ => 0))), (bs, .inl (cB, 2, .inr (.inr (.inr (.inr (va_up (va_up (fun _ => none) 0 (some b0)) 1 (some b1))))))), (b0, .inr (0, [.int 2, .int 0, .int 0, .int 0, .int 0, .int (-1)])), (b1, .inr (0, [.int 2, .int 0, .int 0, .int 0, .int 0, .int (-1)])), (od, .inr (2, [.ref o1, .ref o2, .ref o3, .int 0])), (jb, .inr (1, [.ref pl, .int (-1), .int 0, .int 0, .int 0])), (ot, .inl (cL, 1, .inr (.inl (fun _ => 0))))]) [0, 1, 2, 3, 4, 5, 6, 7, 8, 19] rfl
      have hDc := hD.sub (ws' := [(x, .inr (5, [.ref rk, .ref bs, .ref od, .ref jb, .ref ap, .int 0, .int 1, .int 0, .int 0, .int 0])), (rk, .inr (4, [.ref hd, .ref jm])), (hd, .inl (cI, 96, .inl (fun _ => 0))), (jm, .inl (cZ, 4, .inl (fun _ => 0))), (bs, .inl (cB, 2, .inr (.inr (.inr (.inr (va_up (va_up (fun _ => none) 0 (some b0)) 1 (some b1))))))), (b0, .inr (0, [.int 2, .int 0, .int 0, .int 0, .int 0, .int (-1)])), (b1, .inr (0, [.int 2, .int 0, .int 0, .int 0, .int 0, .int (-1)])), (od, .inr (2, [.ref o1, .ref o2, .ref o3, .int 0])), (jb, .inr (1, [.ref pl, .int (-1), .int 0, .int 0, .int 0])), (ot, .inl (cL, 1, .inr (.inl (fun _ => 0))))]) [0, 1, 2, 3, 4, 5, 6, 7, 8, 19] (by decide) rfl
      have hKc := hK.sub (tys' := [(cI, .int), (cZ, .boolean), (cB, .object "ParkTower$Bay"), (cL, .long)]) [0, 1, 2, 12] rfl
      have hFc := va_free (wc := [(x, .inr (5, [.ref rk, .ref bs, .ref od, .ref jb, .ref ap, .int 0, .int 1, .int 0, .int 0, .int 0])), (rk, .inr (4, [.ref hd, .ref jm])), (hd, .inl (cI, 96, .inl (fun _ => 0))), (jm, .inl (cZ, 4, .inl (fun _ => 0))), (bs, .inl (cB, 2, .inr (.inr (.inr (.inr (va_up (va_up (fun _ => none) 0 (some b0)) 1 (some b1))))))), (b0, .inr (0, [.int 2, .int 0, .int 0, .int 0, .int 0, .int (-1)])), (b1, .inr (0, [.int 2, .int 0, .int 0, .int 0, .int 0, .int (-1)])), (od, .inr (2, [.ref o1, .ref o2, .ref o3, .int 0])), (jb, .inr (1, [.ref pl, .int (-1), .int 0, .int 0, .int 0])), (ot, .inl (cL, 1, .inr (.inl (fun _ => 0))))]) hD hS hA [0, 1, 2, 3, 4, 5, 6, 7, 8, 19] rfl
      refine va_calli (vx_runSW (As := [.ref x, .int 0, .int v2, .int v3, .int v4, .ref ot]) (rest := []) ⟨hx, hb, hml, hown, hts⟩ (w_arrive l hlt dC dI _ x rk hd jm bs b0 b1 od o1 o2 o3 jb pl ap cI cZ cB ot cL (fun _ => 0) 0 v2 v3 v4) (vx_cwSW 6 hts gk_L_arrive rfl rfl rfl (by decide +kernel) ⟨Nat.le_of_ble_eq_true rfl, Nat.le_of_ble_eq_true rfl⟩) ⟨pt_blindT, pt_preT hPc hKc hDc hN hE (pt_Z.up hZ (fun q h1 h2 => hS.2.1 q h1 h2) hS.1)⟩ rfl rfl hl.1 rfl (lv_room (Nat.le_of_ble_eq_true rfl)) dL_law_126 ⟨Nat.le_of_ble_eq_true rfl, Nat.le_of_ble_eq_true rfl⟩) hS (fun q _ h => hFc q h) hFc (fun r_1 u_1 t H1 locs ht hvm hw_1 hB hz1 hk1 hS => ?_)
      obtain ⟨hP1, hK1, hD1⟩ := hB
      rw [ht] at hP1
      have hK1 := va_K.moved hvm.symm hK1
      obtain ⟨hP, hD⟩ := va_join (wr := [(mo, .inr (6, [.int 0, .int 0, .int 0, .int 0, .ref m4, .ref m5, .ref m6, .ref m7, .ref m8, .ref m9, .ref m10, .ref m11, .ref m12, .int 1, .int 0, .int 0, .ref m16, .ref m17, .ref m18, .int 0, .int 0, .int 0, .int 0, .int 0, .int 0, .int 0, .int 0, .ref m27, .int 0, .ref m29, .ref m30, .ref m31])), (m4, .inl (y4, 700, .inl (fun _ => 0))), (m5, .inl (y5, 700, .inl (fun _ => 0))), (m6, .inl (y6, 700, .inl (fun _ => 0))), (m7, .inl (y7, 96, .inl (fun _ => 0))), (m8, .inl (y8, 2, .inl (upd (upd (fun _ => 0) 0 2) 1 2))), (m9, .inl (y9, 2, .inl (fun _ => 0))), (m10, .inl (y10, 2, .inl (fun _ => 0))), (m11, .inl (y11, 2, .inl (upd (upd (fun _ => 0) 0 (-1)) 1 (-1)))), (m12, .inl (y12, 4, .inl (fun _ => 0)))]) (w1 := [(ot, .inl (cL, 1, .inr (.inl u_1)))]) hP hD [0, 1, 2, 3, 4, 5, 6, 7, 8, 19] [9, 10, 11, 12, 13, 14, 15, 16, 17, 18] rfl rfl (by decide) (by decide) hk1 hFc hP1 hD1
      have hK := hK.app hK1
      generalize H1 = H at hP hS ⊢
      have hP : va_P (dC, dI) vwCl [(mo, .inr (6, [.int 0, .int 0, .int 0, .int 0, .ref m4, .ref m5, .ref m6, .ref m7, .ref m8, .ref m9, .ref m10, .ref m11, .ref m12, .int 1, .int 0, .int 0, .ref m16, .ref m17, .ref m18, .int 0, .int 0, .int 0, .int 0, .int 0, .int 0, .int 0, .int 0, .ref m27, .int 0, .ref m29, .ref m30, .ref m31])), (m4, .inl (y4, 700, .inl (fun _ => 0))), (m5, .inl (y5, 700, .inl (fun _ => 0))), (m6, .inl (y6, 700, .inl (fun _ => 0))), (m7, .inl (y7, 96, .inl (fun _ => 0))), (m8, .inl (y8, 2, .inl (upd (upd (fun _ => 0) 0 2) 1 2))), (m9, .inl (y9, 2, .inl (fun _ => 0))), (m10, .inl (y10, 2, .inl (fun _ => 0))), (m11, .inl (y11, 2, .inl (upd (upd (fun _ => 0) 0 (-1)) 1 (-1)))), (m12, .inl (y12, 4, .inl (fun _ => 0))), (ot, .inl (cL, 1, .inr (.inl u_1)))] H := hP
      have hD : va_D (fun q : Nat => s.heap.size ≤ q) [(mo, .inr (6, [.int 0, .int 0, .int 0, .int 0, .ref m4, .ref m5, .ref m6, .ref m7, .ref m8, .ref m9, .ref m10, .ref m11, .ref m12, .int 1, .int 0, .int 0, .ref m16, .ref m17, .ref m18, .int 0, .int 0, .int 0, .int 0, .int 0, .int 0, .int 0, .int 0, .ref m27, .int 0, .ref m29, .ref m30, .ref m31])), (m4, .inl (y4, 700, .inl (fun _ => 0))), (m5, .inl (y5, 700, .inl (fun _ => 0))), (m6, .inl (y6, 700, .inl (fun _ => 0))), (m7, .inl (y7, 96, .inl (fun _ => 0))), (m8, .inl (y8, 2, .inl (upd (upd (fun _ => 0) 0 2) 1 2))), (m9, .inl (y9, 2, .inl (fun _ => 0))), (m10, .inl (y10, 2, .inl (fun _ => 0))), (m11, .inl (y11, 2, .inl (upd (upd (fun _ => 0) 0 (-1)) 1 (-1)))), (m12, .inl (y12, 4, .inl (fun _ => 0))), (ot, .inl (cL, 1, .inr (.inl u_1)))] := hD
      have hK : va_K (dC, dI) vwCl [(cI, .int), (cZ, .boolean), (cB, .object "ParkTower$Bay"), (y4, .int), (y5, .int), (y6, .int), (y7, .int), (y8, .int), (y9, .int), (y10, .boolean), (y11, .int), (y12, .boolean), (cL, .long)] s := hK
      refine W.widen (k := 37) (n := 2564) (by omega) (by omega) ?_
      obtain rfl : r_1 = 0 := hw_1.1.trans (if_pos ⟨by decide, a1, a2, a3⟩)
      refine lv_istore (lv' := [(5, .int 0), (4, .int 0), (3, .ref ot), (2, .ref mo), (1, .ref x), (0, .ref b)]) hx hb dL_law_129 hl (by decide) rfl (fun ls hl => ?_)
      refine lv_aload_n hx hb dL_law_131 rfl (lv_at hl 3 rfl) ?_
      refine lv_aload_n hx hb dL_law_132 rfl (lv_at hl 5 rfl) ?_
      refine lv_iload hx hb dL_law_133 (lv_at hl 1 rfl) ?_
      refine lv_iconst (v := 1) hx hb dL_law_135 (by decide) ?_
      refine lv_iadd hx hb dL_law_136 ?_
      refine pt_topi 1 (by decide) ?_
      refine va_sld hx hb hX hbl hbA hS (vp_in_iff.mpr (by decide)) dL_law_137 ?_
      refine pt_topi 0 e1 ?_
      refine lv_aload_n hx hb dL_law_138 rfl (lv_at hl 5 rfl) ?_
      refine lv_iload hx hb dL_law_139 (lv_at hl 1 rfl) ?_
      refine lv_iconst (v := 2) hx hb dL_law_141 (by decide) ?_
      refine lv_iadd hx hb dL_law_142 ?_
      refine pt_topi 2 (by decide) ?_
      refine va_sld hx hb hX hbl hbA hS (vp_in_iff.mpr (by decide)) dL_law_143 ?_
      refine pt_topi v2 e2 ?_
      refine lv_aload_n hx hb dL_law_144 rfl (lv_at hl 5 rfl) ?_
      refine lv_iload hx hb dL_law_145 (lv_at hl 1 rfl) ?_
      refine lv_iconst (v := 3) hx hb dL_law_147 (by decide) ?_
      refine lv_iadd hx hb dL_law_148 ?_
      refine pt_topi 3 (by decide) ?_
      refine va_sld hx hb hX hbl hbA hS (vp_in_iff.mpr (by decide)) dL_law_149 ?_
      refine pt_topi v3 e3 ?_
      refine lv_aload_n hx hb dL_law_150 rfl (lv_at hl 5 rfl) ?_
      refine lv_iload hx hb dL_law_151 (lv_at hl 1 rfl) ?_
      refine lv_iconst (v := 4) hx hb dL_law_153 (by decide) ?_
      refine lv_iadd hx hb dL_law_154 ?_
      refine pt_topi 4 (by decide) ?_
      refine va_sld hx hb hX hbl hbA hS (vp_in_iff.mpr (by decide)) dL_law_155 ?_
      refine pt_topi v4 e4 ?_
      have hPc := hP.sub (ws' := [(mo, .inr (6, [.int 0, .int 0, .int 0, .int 0, .ref m4, .ref m5, .ref m6, .ref m7, .ref m8, .ref m9, .ref m10, .ref m11, .ref m12, .int 1, .int 0, .int 0, .ref m16, .ref m17, .ref m18, .int 0, .int 0, .int 0, .int 0, .int 0, .int 0, .int 0, .int 0, .ref m27, .int 0, .ref m29, .ref m30, .ref m31])), (m4, .inl (y4, 700, .inl (fun _ => 0))), (m5, .inl (y5, 700, .inl (fun _ => 0))), (m6, .inl (y6, 700, .inl (fun _ => 0))), (m7, .inl (y7, 96, .inl (fun _ => 0))), (m8, .inl (y8, 2, .inl (upd (upd (fun _ => 0) 0 2) 1 2))), (m9, .inl (y9, 2, .inl (fun _ => 0))), (m10, .inl (y10, 2, .inl (fun _ => 0))), (m11, .inl (y11, 2, .inl (upd (upd (fun _ => 0) 0 (-1)) 1 (-1)))), (m12, .inl (y12, 4, .inl (fun _ => 0)))]) [0, 1, 2, 3, 4, 5, 6, 7, 8, 9] rfl
      have hDc := hD.sub (ws' := [(mo, .inr (6, [.int 0, .int 0, .int 0, .int 0, .ref m4, .ref m5, .ref m6, .ref m7, .ref m8, .ref m9, .ref m10, .ref m11, .ref m12, .int 1, .int 0, .int 0, .ref m16, .ref m17, .ref m18, .int 0, .int 0, .int 0, .int 0, .int 0, .int 0, .int 0, .int 0, .ref m27, .int 0, .ref m29, .ref m30, .ref m31])), (m4, .inl (y4, 700, .inl (fun _ => 0))), (m5, .inl (y5, 700, .inl (fun _ => 0))), (m6, .inl (y6, 700, .inl (fun _ => 0))), (m7, .inl (y7, 96, .inl (fun _ => 0))), (m8, .inl (y8, 2, .inl (upd (upd (fun _ => 0) 0 2) 1 2))), (m9, .inl (y9, 2, .inl (fun _ => 0))), (m10, .inl (y10, 2, .inl (fun _ => 0))), (m11, .inl (y11, 2, .inl (upd (upd (fun _ => 0) 0 (-1)) 1 (-1)))), (m12, .inl (y12, 4, .inl (fun _ => 0)))]) [0, 1, 2, 3, 4, 5, 6, 7, 8, 9] (by decide) rfl
      have hKc := hK.sub (tys' := [(y4, .int), (y5, .int), (y6, .int), (y7, .int), (y8, .int), (y9, .int), (y10, .boolean), (y11, .int), (y12, .boolean)]) [3, 4, 5, 6, 7, 8, 9, 10, 11] rfl
      have hFc := va_free (wc := [(mo, .inr (6, [.int 0, .int 0, .int 0, .int 0, .ref m4, .ref m5, .ref m6, .ref m7, .ref m8, .ref m9, .ref m10, .ref m11, .ref m12, .int 1, .int 0, .int 0, .ref m16, .ref m17, .ref m18, .int 0, .int 0, .int 0, .int 0, .int 0, .int 0, .int 0, .int 0, .ref m27, .int 0, .ref m29, .ref m30, .ref m31])), (m4, .inl (y4, 700, .inl (fun _ => 0))), (m5, .inl (y5, 700, .inl (fun _ => 0))), (m6, .inl (y6, 700, .inl (fun _ => 0))), (m7, .inl (y7, 96, .inl (fun _ => 0))), (m8, .inl (y8, 2, .inl (upd (upd (fun _ => 0) 0 2) 1 2))), (m9, .inl (y9, 2, .inl (fun _ => 0))), (m10, .inl (y10, 2, .inl (fun _ => 0))), (m11, .inl (y11, 2, .inl (upd (upd (fun _ => 0) 0 (-1)) 1 (-1)))), (m12, .inl (y12, 4, .inl (fun _ => 0)))]) hD hS hA [0, 1, 2, 3, 4, 5, 6, 7, 8, 9] rfl
      refine va_calli (va_runV (As := [.int 0, .int v2, .int v3, .int v4]) (rest := []) ⟨hx, hb, hml, hown, hts⟩ (m_arrive0 l dC dI _ mo m4 m5 m6 m7 m8 m9 m10 m11 m12 m16 m17 m18 m27 m29 m30 m31 y4 y5 y6 y7 y8 y9 y10 y11 y12 v2 v3 v4 a1 a2 (Int32.not_lt.mpr a3)) (cwV 4 hts gk_X8_arrive rfl rfl rfl (by decide +kernel) ⟨Nat.le_of_ble_eq_true rfl, Nat.le_of_ble_eq_true rfl⟩) ⟨pt_blindQ, va_recv hK hP (ci := 6) (q0 := 0) rfl rfl, pt_preQ hPc hKc hDc hN⟩ rfl rfl hl.1 rfl (lv_room (Nat.le_of_ble_eq_true rfl)) dL_law_156 ⟨Nat.le_of_ble_eq_true rfl, Nat.le_of_ble_eq_true rfl⟩) hS (fun q _ h => hFc q h) hFc (fun r_2 u_2 t H1 locs ht hvm hw_2 hB hz1 hk1 hS => ?_)
      obtain ⟨hP1, hK1, hD1⟩ := hB
      rw [ht] at hP1
      have hK1 := va_K.moved hvm.symm hK1
      obtain ⟨hP, hD⟩ := va_join (wr := [(ot, .inl (cL, 1, .inr (.inl u_1)))]) (w1 := [(mo, .inr (6, .int u_2.1 :: u_2.2))]) hP hD [0, 1, 2, 3, 4, 5, 6, 7, 8, 9] [10] rfl rfl (by decide) (by decide) hk1 hFc hP1 hD1
      have hK := hK.app hK1
      generalize H1 = H at hP hS ⊢
      have hP : va_P (dC, dI) vwCl [(ot, .inl (cL, 1, .inr (.inl u_1))), (mo, .inr (6, .int u_2.1 :: u_2.2))] H := hP
      have hD : va_D (fun q : Nat => s.heap.size ≤ q) [(ot, .inl (cL, 1, .inr (.inl u_1))), (mo, .inr (6, .int u_2.1 :: u_2.2))] := hD
      have hK : va_K (dC, dI) vwCl [(cI, .int), (cZ, .boolean), (cB, .object "ParkTower$Bay"), (y4, .int), (y5, .int), (y6, .int), (y7, .int), (y8, .int), (y9, .int), (y10, .boolean), (y11, .int), (y12, .boolean), (cL, .long)] s := hK
      refine W.widen (k := 37) (n := 2564) (by omega) (by omega) ?_
      refine lv_istore (lv' := [(6, .int r_2), (5, .int 0), (4, .int 0), (3, .ref ot), (2, .ref mo), (1, .ref x), (0, .ref b)]) hx hb dL_law_159 hl (by decide) rfl (fun ls hl => ?_)
      refine lv_aload_n hx hb dL_law_161 rfl (lv_at hl 4 rfl) ?_
      refine pt_cSi (va_runV (As := []) (rest := []) ⟨hx, hb, hml, hown, hts⟩ (c_thrown l dC dI mo u_2.1 u_2.2) (cwV 0 hts gk_X8_thrown rfl rfl rfl (by decide +kernel) ⟨Nat.le_of_ble_eq_true rfl, Nat.le_of_ble_eq_true rfl⟩) ⟨pt_blind, va_recv hK hP (ci := 6) (q0 := 1) rfl rfl, pt_pre (w := [(mo, .inr (6, .int u_2.1 :: u_2.2))]) (tys := []) (hP.sub [1] rfl) (hK.sub [] rfl) hN⟩ rfl rfl hl.1 rfl (lv_room (Nat.le_of_ble_eq_true rfl)) dL_law_162 ⟨Nat.le_of_ble_eq_true rfl, Nat.le_of_ble_eq_true rfl⟩) (fun r_3 hr_3 => ?_)
      obtain rfl : r_3 = 0 := hr_3.trans hw_2.1
      refine lv_iload hx hb dL_law_165 (lv_at hl 1 rfl) ?_
      refine lv_icmp_eq (tgt := 172) hx hb dL_law_167 (by decide) (fun _ => ?_) (fun c => absurd (by decide) c)
      refine lv_iload hx hb dL_law_172 (lv_at hl 1 rfl) ?_
      refine lv_if_ne (tgt := 189) hx hb dL_law_174 (by decide) (fun c => absurd (by decide) c) (fun _ => ?_)
      refine lv_aload_n hx hb dL_law_177 rfl (lv_at hl 3 rfl) ?_
      refine lv_iconst (v := 0) hx hb dL_law_178 (by decide) ?_
      refine va_lald hx hb hK hP 0 12 rfl rfl (vp_in_iff.mpr (by decide)) dL_law_179 ?_
      refine lv_iload hx hb dL_law_180 (lv_at hl 0 rfl) ?_
      refine lv_i2l (v := r_2.toInt64) hx hb dL_law_182 rfl ?_
      refine W.lcmp hx hb dL_law_183 ?_
      refine pt_topi 0 (pt_cmp ((hw_1.2 rfl).trans (congrArg Int32.toInt64 (hw_2.2 hw_2.1).symm))) ?_
      refine lv_if_eq (tgt := 189) hx hb dL_law_184 (by decide) (fun _ => ?_) (fun c => absurd (by decide) c)
      refine lv_goto (tgt := 824) hx hb dL_law_189 (by decide) ?_
      exact law_end l C0 (Nat.le_of_ble_eq_true rfl) (Nat.le_of_ble_eq_true rfl) hS ls (lv_sub hl [2, 6] rfl)
    · skip
      refine lv_aload_n hx hb dL_law_100 rfl (lv_at hl 3 rfl) ?_
      refine lv_aload_n hx hb dL_law_101 rfl (lv_at hl 4 rfl) ?_
      refine lv_iload hx hb dL_law_102 (lv_at hl 0 rfl) ?_
      refine lv_iconst (v := 1) hx hb dL_law_104 (by decide) ?_
      refine lv_iadd hx hb dL_law_105 ?_
      refine pt_topi 1 (by decide) ?_
      refine va_sld hx hb hX hbl hbA hS (vp_in_iff.mpr (by decide)) dL_law_106 ?_
      refine pt_topi 1 e1 ?_
      refine lv_aload_n hx hb dL_law_107 rfl (lv_at hl 4 rfl) ?_
      refine lv_iload hx hb dL_law_108 (lv_at hl 0 rfl) ?_
      refine lv_iconst (v := 2) hx hb dL_law_110 (by decide) ?_
      refine lv_iadd hx hb dL_law_111 ?_
      refine pt_topi 2 (by decide) ?_
      refine va_sld hx hb hX hbl hbA hS (vp_in_iff.mpr (by decide)) dL_law_112 ?_
      refine pt_topi v2 e2 ?_
      refine lv_aload_n hx hb dL_law_113 rfl (lv_at hl 4 rfl) ?_
      refine lv_iload hx hb dL_law_114 (lv_at hl 0 rfl) ?_
      refine lv_iconst (v := 3) hx hb dL_law_116 (by decide) ?_
      refine lv_iadd hx hb dL_law_117 ?_
      refine pt_topi 3 (by decide) ?_
      refine va_sld hx hb hX hbl hbA hS (vp_in_iff.mpr (by decide)) dL_law_118 ?_
      refine pt_topi v3 e3 ?_
      refine lv_aload_n hx hb dL_law_119 rfl (lv_at hl 4 rfl) ?_
      refine lv_iload hx hb dL_law_120 (lv_at hl 0 rfl) ?_
      refine lv_iconst (v := 4) hx hb dL_law_122 (by decide) ?_
      refine lv_iadd hx hb dL_law_123 ?_
      refine pt_topi 4 (by decide) ?_
      refine va_sld hx hb hX hbl hbA hS (vp_in_iff.mpr (by decide)) dL_law_124 ?_
      refine pt_topi v4 e4 ?_
      refine lv_aload_n hx hb dL_law_125 rfl (lv_at hl 1 rfl) ?_
      have hPc := hP.sub (ws' := [(x, .inr (5, [.ref rk, .ref bs, .ref od, .ref jb, .ref ap, .int 0, .int 1, .int 0, .int 0, .int 0])), (rk, .inr (4, [.ref hd, .ref jm])), (hd, .inl (cI, 96, .inl (fun _ => 0))), (jm, .inl (cZ, 4, .inl (fun _ => 0))), (bs, .inl (cB, 2, .inr (.inr (.inr (.inr (va_up (va_up (fun _ => none) 0 (some b0)) 1 (some b1))))))), (b0, .inr (0, [.int 2, .int 0, .int 0, .int 0, .int 0, .int (-1)])), (b1, .inr (0, [.int 2, .int 0, .int 0, .int 0, .int 0, .int (-1)])), (od, .inr (2, [.ref o1, .ref o2, .ref o3, .int 0])), (jb, .inr (1, [.ref pl, .int (-1), .int 0, .int 0, .int 0])), (ot, .inl (cL, 1, .inr (.inl (fun _ => 0))))]) [0, 1, 2, 3, 4, 5, 6, 7, 8, 19] rfl
      have hDc := hD.sub (ws' := [(x, .inr (5, [.ref rk, .ref bs, .ref od, .ref jb, .ref ap, .int 0, .int 1, .int 0, .int 0, .int 0])), (rk, .inr (4, [.ref hd, .ref jm])), (hd, .inl (cI, 96, .inl (fun _ => 0))), (jm, .inl (cZ, 4, .inl (fun _ => 0))), (bs, .inl (cB, 2, .inr (.inr (.inr (.inr (va_up (va_up (fun _ => none) 0 (some b0)) 1 (some b1))))))), (b0, .inr (0, [.int 2, .int 0, .int 0, .int 0, .int 0, .int (-1)])), (b1, .inr (0, [.int 2, .int 0, .int 0, .int 0, .int 0, .int (-1)])), (od, .inr (2, [.ref o1, .ref o2, .ref o3, .int 0])), (jb, .inr (1, [.ref pl, .int (-1), .int 0, .int 0, .int 0])), (ot, .inl (cL, 1, .inr (.inl (fun _ => 0))))]) [0, 1, 2, 3, 4, 5, 6, 7, 8, 19] (by decide) rfl
      have hKc := hK.sub (tys' := [(cI, .int), (cZ, .boolean), (cB, .object "ParkTower$Bay"), (cL, .long)]) [0, 1, 2, 12] rfl
      have hFc := va_free (wc := [(x, .inr (5, [.ref rk, .ref bs, .ref od, .ref jb, .ref ap, .int 0, .int 1, .int 0, .int 0, .int 0])), (rk, .inr (4, [.ref hd, .ref jm])), (hd, .inl (cI, 96, .inl (fun _ => 0))), (jm, .inl (cZ, 4, .inl (fun _ => 0))), (bs, .inl (cB, 2, .inr (.inr (.inr (.inr (va_up (va_up (fun _ => none) 0 (some b0)) 1 (some b1))))))), (b0, .inr (0, [.int 2, .int 0, .int 0, .int 0, .int 0, .int (-1)])), (b1, .inr (0, [.int 2, .int 0, .int 0, .int 0, .int 0, .int (-1)])), (od, .inr (2, [.ref o1, .ref o2, .ref o3, .int 0])), (jb, .inr (1, [.ref pl, .int (-1), .int 0, .int 0, .int 0])), (ot, .inl (cL, 1, .inr (.inl (fun _ => 0))))]) hD hS hA [0, 1, 2, 3, 4, 5, 6, 7, 8, 19] rfl
      refine va_calli (vx_runSW (As := [.ref x, .int 1, .int v2, .int v3, .int v4, .ref ot]) (rest := []) ⟨hx, hb, hml, hown, hts⟩ (w_arrive l hlt dC dI _ x rk hd jm bs b0 b1 od o1 o2 o3 jb pl ap cI cZ cB ot cL (fun _ => 0) 1 v2 v3 v4) (vx_cwSW 6 hts gk_L_arrive rfl rfl rfl (by decide +kernel) ⟨Nat.le_of_ble_eq_true rfl, Nat.le_of_ble_eq_true rfl⟩) ⟨pt_blindT, pt_preT hPc hKc hDc hN hE (pt_Z.up hZ (fun q h1 h2 => hS.2.1 q h1 h2) hS.1)⟩ rfl rfl hl.1 rfl (lv_room (Nat.le_of_ble_eq_true rfl)) dL_law_126 ⟨Nat.le_of_ble_eq_true rfl, Nat.le_of_ble_eq_true rfl⟩) hS (fun q _ h => hFc q h) hFc (fun r_4 u_4 t H1 locs ht hvm hw_4 hB hz1 hk1 hS => ?_)
      obtain ⟨hP1, hK1, hD1⟩ := hB
      rw [ht] at hP1
      have hK1 := va_K.moved hvm.symm hK1
      obtain ⟨hP, hD⟩ := va_join (wr := [(mo, .inr (6, [.int 0, .int 0, .int 0, .int 0, .ref m4, .ref m5, .ref m6, .ref m7, .ref m8, .ref m9, .ref m10, .ref m11, .ref m12, .int 1, .int 0, .int 0, .ref m16, .ref m17, .ref m18, .int 0, .int 0, .int 0, .int 0, .int 0, .int 0, .int 0, .int 0, .ref m27, .int 0, .ref m29, .ref m30, .ref m31])), (m4, .inl (y4, 700, .inl (fun _ => 0))), (m5, .inl (y5, 700, .inl (fun _ => 0))), (m6, .inl (y6, 700, .inl (fun _ => 0))), (m7, .inl (y7, 96, .inl (fun _ => 0))), (m8, .inl (y8, 2, .inl (upd (upd (fun _ => 0) 0 2) 1 2))), (m9, .inl (y9, 2, .inl (fun _ => 0))), (m10, .inl (y10, 2, .inl (fun _ => 0))), (m11, .inl (y11, 2, .inl (upd (upd (fun _ => 0) 0 (-1)) 1 (-1)))), (m12, .inl (y12, 4, .inl (fun _ => 0)))]) (w1 := [(ot, .inl (cL, 1, .inr (.inl u_4)))]) hP hD [0, 1, 2, 3, 4, 5, 6, 7, 8, 19] [9, 10, 11, 12, 13, 14, 15, 16, 17, 18] rfl rfl (by decide) (by decide) hk1 hFc hP1 hD1
      have hK := hK.app hK1
      generalize H1 = H at hP hS ⊢
      have hP : va_P (dC, dI) vwCl [(mo, .inr (6, [.int 0, .int 0, .int 0, .int 0, .ref m4, .ref m5, .ref m6, .ref m7, .ref m8, .ref m9, .ref m10, .ref m11, .ref m12, .int 1, .int 0, .int 0, .ref m16, .ref m17, .ref m18, .int 0, .int 0, .int 0, .int 0, .int 0, .int 0, .int 0, .int 0, .ref m27, .int 0, .ref m29, .ref m30, .ref m31])), (m4, .inl (y4, 700, .inl (fun _ => 0))), (m5, .inl (y5, 700, .inl (fun _ => 0))), (m6, .inl (y6, 700, .inl (fun _ => 0))), (m7, .inl (y7, 96, .inl (fun _ => 0))), (m8, .inl (y8, 2, .inl (upd (upd (fun _ => 0) 0 2) 1 2))), (m9, .inl (y9, 2, .inl (fun _ => 0))), (m10, .inl (y10, 2, .inl (fun _ => 0))), (m11, .inl (y11, 2, .inl (upd (upd (fun _ => 0) 0 (-1)) 1 (-1)))), (m12, .inl (y12, 4, .inl (fun _ => 0))), (ot, .inl (cL, 1, .inr (.inl u_4)))] H := hP
      have hD : va_D (fun q : Nat => s.heap.size ≤ q) [(mo, .inr (6, [.int 0, .int 0, .int 0, .int 0, .ref m4, .ref m5, .ref m6, .ref m7, .ref m8, .ref m9, .ref m10, .ref m11, .ref m12, .int 1, .int 0, .int 0, .ref m16, .ref m17, .ref m18, .int 0, .int 0, .int 0, .int 0, .int 0, .int 0, .int 0, .int 0, .ref m27, .int 0, .ref m29, .ref m30, .ref m31])), (m4, .inl (y4, 700, .inl (fun _ => 0))), (m5, .inl (y5, 700, .inl (fun _ => 0))), (m6, .inl (y6, 700, .inl (fun _ => 0))), (m7, .inl (y7, 96, .inl (fun _ => 0))), (m8, .inl (y8, 2, .inl (upd (upd (fun _ => 0) 0 2) 1 2))), (m9, .inl (y9, 2, .inl (fun _ => 0))), (m10, .inl (y10, 2, .inl (fun _ => 0))), (m11, .inl (y11, 2, .inl (upd (upd (fun _ => 0) 0 (-1)) 1 (-1)))), (m12, .inl (y12, 4, .inl (fun _ => 0))), (ot, .inl (cL, 1, .inr (.inl u_4)))] := hD
      have hK : va_K (dC, dI) vwCl [(cI, .int), (cZ, .boolean), (cB, .object "ParkTower$Bay"), (y4, .int), (y5, .int), (y6, .int), (y7, .int), (y8, .int), (y9, .int), (y10, .boolean), (y11, .int), (y12, .boolean), (cL, .long)] s := hK
      refine W.widen (k := 37) (n := 2564) (by omega) (by omega) ?_
      obtain rfl : r_4 = 0 := hw_4.1.trans (if_pos ⟨by decide, a1, a2, a3⟩)
      refine lv_istore (lv' := [(5, .int 0), (4, .int 0), (3, .ref ot), (2, .ref mo), (1, .ref x), (0, .ref b)]) hx hb dL_law_129 hl (by decide) rfl (fun ls hl => ?_)
      refine lv_aload_n hx hb dL_law_131 rfl (lv_at hl 3 rfl) ?_
      refine lv_aload_n hx hb dL_law_132 rfl (lv_at hl 5 rfl) ?_
      refine lv_iload hx hb dL_law_133 (lv_at hl 1 rfl) ?_
      refine lv_iconst (v := 1) hx hb dL_law_135 (by decide) ?_
      refine lv_iadd hx hb dL_law_136 ?_
      refine pt_topi 1 (by decide) ?_
      refine va_sld hx hb hX hbl hbA hS (vp_in_iff.mpr (by decide)) dL_law_137 ?_
      refine pt_topi 1 e1 ?_
      refine lv_aload_n hx hb dL_law_138 rfl (lv_at hl 5 rfl) ?_
      refine lv_iload hx hb dL_law_139 (lv_at hl 1 rfl) ?_
      refine lv_iconst (v := 2) hx hb dL_law_141 (by decide) ?_
      refine lv_iadd hx hb dL_law_142 ?_
      refine pt_topi 2 (by decide) ?_
      refine va_sld hx hb hX hbl hbA hS (vp_in_iff.mpr (by decide)) dL_law_143 ?_
      refine pt_topi v2 e2 ?_
      refine lv_aload_n hx hb dL_law_144 rfl (lv_at hl 5 rfl) ?_
      refine lv_iload hx hb dL_law_145 (lv_at hl 1 rfl) ?_
      refine lv_iconst (v := 3) hx hb dL_law_147 (by decide) ?_
      refine lv_iadd hx hb dL_law_148 ?_
      refine pt_topi 3 (by decide) ?_
      refine va_sld hx hb hX hbl hbA hS (vp_in_iff.mpr (by decide)) dL_law_149 ?_
      refine pt_topi v3 e3 ?_
      refine lv_aload_n hx hb dL_law_150 rfl (lv_at hl 5 rfl) ?_
      refine lv_iload hx hb dL_law_151 (lv_at hl 1 rfl) ?_
      refine lv_iconst (v := 4) hx hb dL_law_153 (by decide) ?_
      refine lv_iadd hx hb dL_law_154 ?_
      refine pt_topi 4 (by decide) ?_
      refine va_sld hx hb hX hbl hbA hS (vp_in_iff.mpr (by decide)) dL_law_155 ?_
      refine pt_topi v4 e4 ?_
      have hPc := hP.sub (ws' := [(mo, .inr (6, [.int 0, .int 0, .int 0, .int 0, .ref m4, .ref m5, .ref m6, .ref m7, .ref m8, .ref m9, .ref m10, .ref m11, .ref m12, .int 1, .int 0, .int 0, .ref m16, .ref m17, .ref m18, .int 0, .int 0, .int 0, .int 0, .int 0, .int 0, .int 0, .int 0, .ref m27, .int 0, .ref m29, .ref m30, .ref m31])), (m4, .inl (y4, 700, .inl (fun _ => 0))), (m5, .inl (y5, 700, .inl (fun _ => 0))), (m6, .inl (y6, 700, .inl (fun _ => 0))), (m7, .inl (y7, 96, .inl (fun _ => 0))), (m8, .inl (y8, 2, .inl (upd (upd (fun _ => 0) 0 2) 1 2))), (m9, .inl (y9, 2, .inl (fun _ => 0))), (m10, .inl (y10, 2, .inl (fun _ => 0))), (m11, .inl (y11, 2, .inl (upd (upd (fun _ => 0) 0 (-1)) 1 (-1)))), (m12, .inl (y12, 4, .inl (fun _ => 0)))]) [0, 1, 2, 3, 4, 5, 6, 7, 8, 9] rfl
      have hDc := hD.sub (ws' := [(mo, .inr (6, [.int 0, .int 0, .int 0, .int 0, .ref m4, .ref m5, .ref m6, .ref m7, .ref m8, .ref m9, .ref m10, .ref m11, .ref m12, .int 1, .int 0, .int 0, .ref m16, .ref m17, .ref m18, .int 0, .int 0, .int 0, .int 0, .int 0, .int 0, .int 0, .int 0, .ref m27, .int 0, .ref m29, .ref m30, .ref m31])), (m4, .inl (y4, 700, .inl (fun _ => 0))), (m5, .inl (y5, 700, .inl (fun _ => 0))), (m6, .inl (y6, 700, .inl (fun _ => 0))), (m7, .inl (y7, 96, .inl (fun _ => 0))), (m8, .inl (y8, 2, .inl (upd (upd (fun _ => 0) 0 2) 1 2))), (m9, .inl (y9, 2, .inl (fun _ => 0))), (m10, .inl (y10, 2, .inl (fun _ => 0))), (m11, .inl (y11, 2, .inl (upd (upd (fun _ => 0) 0 (-1)) 1 (-1)))), (m12, .inl (y12, 4, .inl (fun _ => 0)))]) [0, 1, 2, 3, 4, 5, 6, 7, 8, 9] (by decide) rfl
      have hKc := hK.sub (tys' := [(y4, .int), (y5, .int), (y6, .int), (y7, .int), (y8, .int), (y9, .int), (y10, .boolean), (y11, .int), (y12, .boolean)]) [3, 4, 5, 6, 7, 8, 9, 10, 11] rfl
      have hFc := va_free (wc := [(mo, .inr (6, [.int 0, .int 0, .int 0, .int 0, .ref m4, .ref m5, .ref m6, .ref m7, .ref m8, .ref m9, .ref m10, .ref m11, .ref m12, .int 1, .int 0, .int 0, .ref m16, .ref m17, .ref m18, .int 0, .int 0, .int 0, .int 0, .int 0, .int 0, .int 0, .int 0, .ref m27, .int 0, .ref m29, .ref m30, .ref m31])), (m4, .inl (y4, 700, .inl (fun _ => 0))), (m5, .inl (y5, 700, .inl (fun _ => 0))), (m6, .inl (y6, 700, .inl (fun _ => 0))), (m7, .inl (y7, 96, .inl (fun _ => 0))), (m8, .inl (y8, 2, .inl (upd (upd (fun _ => 0) 0 2) 1 2))), (m9, .inl (y9, 2, .inl (fun _ => 0))), (m10, .inl (y10, 2, .inl (fun _ => 0))), (m11, .inl (y11, 2, .inl (upd (upd (fun _ => 0) 0 (-1)) 1 (-1)))), (m12, .inl (y12, 4, .inl (fun _ => 0)))]) hD hS hA [0, 1, 2, 3, 4, 5, 6, 7, 8, 9] rfl
      refine va_calli (va_runV (As := [.int 1, .int v2, .int v3, .int v4]) (rest := []) ⟨hx, hb, hml, hown, hts⟩ (m_arrive1 l dC dI _ mo m4 m5 m6 m7 m8 m9 m10 m11 m12 m16 m17 m18 m27 m29 m30 m31 y4 y5 y6 y7 y8 y9 y10 y11 y12 v2 v3 v4 a1 a2 (Int32.not_lt.mpr a3)) (cwV 4 hts gk_X8_arrive rfl rfl rfl (by decide +kernel) ⟨Nat.le_of_ble_eq_true rfl, Nat.le_of_ble_eq_true rfl⟩) ⟨pt_blindQ, va_recv hK hP (ci := 6) (q0 := 0) rfl rfl, pt_preQ hPc hKc hDc hN⟩ rfl rfl hl.1 rfl (lv_room (Nat.le_of_ble_eq_true rfl)) dL_law_156 ⟨Nat.le_of_ble_eq_true rfl, Nat.le_of_ble_eq_true rfl⟩) hS (fun q _ h => hFc q h) hFc (fun r_5 u_5 t H1 locs ht hvm hw_5 hB hz1 hk1 hS => ?_)
      obtain ⟨hP1, hK1, hD1⟩ := hB
      rw [ht] at hP1
      have hK1 := va_K.moved hvm.symm hK1
      obtain ⟨hP, hD⟩ := va_join (wr := [(ot, .inl (cL, 1, .inr (.inl u_4)))]) (w1 := [(mo, .inr (6, .int u_5.1 :: u_5.2))]) hP hD [0, 1, 2, 3, 4, 5, 6, 7, 8, 9] [10] rfl rfl (by decide) (by decide) hk1 hFc hP1 hD1
      have hK := hK.app hK1
      generalize H1 = H at hP hS ⊢
      have hP : va_P (dC, dI) vwCl [(ot, .inl (cL, 1, .inr (.inl u_4))), (mo, .inr (6, .int u_5.1 :: u_5.2))] H := hP
      have hD : va_D (fun q : Nat => s.heap.size ≤ q) [(ot, .inl (cL, 1, .inr (.inl u_4))), (mo, .inr (6, .int u_5.1 :: u_5.2))] := hD
      have hK : va_K (dC, dI) vwCl [(cI, .int), (cZ, .boolean), (cB, .object "ParkTower$Bay"), (y4, .int), (y5, .int), (y6, .int), (y7, .int), (y8, .int), (y9, .int), (y10, .boolean), (y11, .int), (y12, .boolean), (cL, .long)] s := hK
      refine W.widen (k := 37) (n := 2564) (by omega) (by omega) ?_
      refine lv_istore (lv' := [(6, .int r_5), (5, .int 0), (4, .int 0), (3, .ref ot), (2, .ref mo), (1, .ref x), (0, .ref b)]) hx hb dL_law_159 hl (by decide) rfl (fun ls hl => ?_)
      refine lv_aload_n hx hb dL_law_161 rfl (lv_at hl 4 rfl) ?_
      refine pt_cSi (va_runV (As := []) (rest := []) ⟨hx, hb, hml, hown, hts⟩ (c_thrown l dC dI mo u_5.1 u_5.2) (cwV 0 hts gk_X8_thrown rfl rfl rfl (by decide +kernel) ⟨Nat.le_of_ble_eq_true rfl, Nat.le_of_ble_eq_true rfl⟩) ⟨pt_blind, va_recv hK hP (ci := 6) (q0 := 1) rfl rfl, pt_pre (w := [(mo, .inr (6, .int u_5.1 :: u_5.2))]) (tys := []) (hP.sub [1] rfl) (hK.sub [] rfl) hN⟩ rfl rfl hl.1 rfl (lv_room (Nat.le_of_ble_eq_true rfl)) dL_law_162 ⟨Nat.le_of_ble_eq_true rfl, Nat.le_of_ble_eq_true rfl⟩) (fun r_6 hr_6 => ?_)
      obtain rfl : r_6 = 0 := hr_6.trans hw_5.1
      refine lv_iload hx hb dL_law_165 (lv_at hl 1 rfl) ?_
      refine lv_icmp_eq (tgt := 172) hx hb dL_law_167 (by decide) (fun _ => ?_) (fun c => absurd (by decide) c)
      refine lv_iload hx hb dL_law_172 (lv_at hl 1 rfl) ?_
      refine lv_if_ne (tgt := 189) hx hb dL_law_174 (by decide) (fun c => absurd (by decide) c) (fun _ => ?_)
      refine lv_aload_n hx hb dL_law_177 rfl (lv_at hl 3 rfl) ?_
      refine lv_iconst (v := 0) hx hb dL_law_178 (by decide) ?_
      refine va_lald hx hb hK hP 0 12 rfl rfl (vp_in_iff.mpr (by decide)) dL_law_179 ?_
      refine lv_iload hx hb dL_law_180 (lv_at hl 0 rfl) ?_
      refine lv_i2l (v := r_5.toInt64) hx hb dL_law_182 rfl ?_
      refine W.lcmp hx hb dL_law_183 ?_
      refine pt_topi 0 (pt_cmp ((hw_4.2 rfl).trans (congrArg Int32.toInt64 (hw_5.2 hw_5.1).symm))) ?_
      refine lv_if_eq (tgt := 189) hx hb dL_law_184 (by decide) (fun _ => ?_) (fun c => absurd (by decide) c)
      refine lv_goto (tgt := 824) hx hb dL_law_189 (by decide) ?_
      exact law_end l C0 (Nat.le_of_ble_eq_true rfl) (Nat.le_of_ble_eq_true rfl) hS ls (lv_sub hl [2, 6] rfl)
  · skip
    refine lv_aload_n hx hb dL_law_100 rfl (lv_at hl 3 rfl) ?_
    refine lv_aload_n hx hb dL_law_101 rfl (lv_at hl 4 rfl) ?_
    refine lv_iload hx hb dL_law_102 (lv_at hl 0 rfl) ?_
    refine lv_iconst (v := 1) hx hb dL_law_104 (by decide) ?_
    refine lv_iadd hx hb dL_law_105 ?_
    refine pt_topi 1 (by decide) ?_
    refine va_sld hx hb hX hbl hbA hS (vp_in_iff.mpr (by decide)) dL_law_106 ?_
    refine pt_topi v1 e1 ?_
    refine lv_aload_n hx hb dL_law_107 rfl (lv_at hl 4 rfl) ?_
    refine lv_iload hx hb dL_law_108 (lv_at hl 0 rfl) ?_
    refine lv_iconst (v := 2) hx hb dL_law_110 (by decide) ?_
    refine lv_iadd hx hb dL_law_111 ?_
    refine pt_topi 2 (by decide) ?_
    refine va_sld hx hb hX hbl hbA hS (vp_in_iff.mpr (by decide)) dL_law_112 ?_
    refine pt_topi v2 e2 ?_
    refine lv_aload_n hx hb dL_law_113 rfl (lv_at hl 4 rfl) ?_
    refine lv_iload hx hb dL_law_114 (lv_at hl 0 rfl) ?_
    refine lv_iconst (v := 3) hx hb dL_law_116 (by decide) ?_
    refine lv_iadd hx hb dL_law_117 ?_
    refine pt_topi 3 (by decide) ?_
    refine va_sld hx hb hX hbl hbA hS (vp_in_iff.mpr (by decide)) dL_law_118 ?_
    refine pt_topi v3 e3 ?_
    refine lv_aload_n hx hb dL_law_119 rfl (lv_at hl 4 rfl) ?_
    refine lv_iload hx hb dL_law_120 (lv_at hl 0 rfl) ?_
    refine lv_iconst (v := 4) hx hb dL_law_122 (by decide) ?_
    refine lv_iadd hx hb dL_law_123 ?_
    refine pt_topi 4 (by decide) ?_
    refine va_sld hx hb hX hbl hbA hS (vp_in_iff.mpr (by decide)) dL_law_124 ?_
    refine pt_topi v4 e4 ?_
    refine lv_aload_n hx hb dL_law_125 rfl (lv_at hl 1 rfl) ?_
    have hPc := hP.sub (ws' := [(x, .inr (5, [.ref rk, .ref bs, .ref od, .ref jb, .ref ap, .int 0, .int 1, .int 0, .int 0, .int 0])), (rk, .inr (4, [.ref hd, .ref jm])), (hd, .inl (cI, 96, .inl (fun _ => 0))), (jm, .inl (cZ, 4, .inl (fun _ => 0))), (bs, .inl (cB, 2, .inr (.inr (.inr (.inr (va_up (va_up (fun _ => none) 0 (some b0)) 1 (some b1))))))), (b0, .inr (0, [.int 2, .int 0, .int 0, .int 0, .int 0, .int (-1)])), (b1, .inr (0, [.int 2, .int 0, .int 0, .int 0, .int 0, .int (-1)])), (od, .inr (2, [.ref o1, .ref o2, .ref o3, .int 0])), (jb, .inr (1, [.ref pl, .int (-1), .int 0, .int 0, .int 0])), (ot, .inl (cL, 1, .inr (.inl (fun _ => 0))))]) [0, 1, 2, 3, 4, 5, 6, 7, 8, 19] rfl
    have hDc := hD.sub (ws' := [(x, .inr (5, [.ref rk, .ref bs, .ref od, .ref jb, .ref ap, .int 0, .int 1, .int 0, .int 0, .int 0])), (rk, .inr (4, [.ref hd, .ref jm])), (hd, .inl (cI, 96, .inl (fun _ => 0))), (jm, .inl (cZ, 4, .inl (fun _ => 0))), (bs, .inl (cB, 2, .inr (.inr (.inr (.inr (va_up (va_up (fun _ => none) 0 (some b0)) 1 (some b1))))))), (b0, .inr (0, [.int 2, .int 0, .int 0, .int 0, .int 0, .int (-1)])), (b1, .inr (0, [.int 2, .int 0, .int 0, .int 0, .int 0, .int (-1)])), (od, .inr (2, [.ref o1, .ref o2, .ref o3, .int 0])), (jb, .inr (1, [.ref pl, .int (-1), .int 0, .int 0, .int 0])), (ot, .inl (cL, 1, .inr (.inl (fun _ => 0))))]) [0, 1, 2, 3, 4, 5, 6, 7, 8, 19] (by decide) rfl
    have hKc := hK.sub (tys' := [(cI, .int), (cZ, .boolean), (cB, .object "ParkTower$Bay"), (cL, .long)]) [0, 1, 2, 12] rfl
    have hFc := va_free (wc := [(x, .inr (5, [.ref rk, .ref bs, .ref od, .ref jb, .ref ap, .int 0, .int 1, .int 0, .int 0, .int 0])), (rk, .inr (4, [.ref hd, .ref jm])), (hd, .inl (cI, 96, .inl (fun _ => 0))), (jm, .inl (cZ, 4, .inl (fun _ => 0))), (bs, .inl (cB, 2, .inr (.inr (.inr (.inr (va_up (va_up (fun _ => none) 0 (some b0)) 1 (some b1))))))), (b0, .inr (0, [.int 2, .int 0, .int 0, .int 0, .int 0, .int (-1)])), (b1, .inr (0, [.int 2, .int 0, .int 0, .int 0, .int 0, .int (-1)])), (od, .inr (2, [.ref o1, .ref o2, .ref o3, .int 0])), (jb, .inr (1, [.ref pl, .int (-1), .int 0, .int 0, .int 0])), (ot, .inl (cL, 1, .inr (.inl (fun _ => 0))))]) hD hS hA [0, 1, 2, 3, 4, 5, 6, 7, 8, 19] rfl
    refine va_calli (vx_runSW (As := [.ref x, .int v1, .int v2, .int v3, .int v4, .ref ot]) (rest := []) ⟨hx, hb, hml, hown, hts⟩ (w_arrive l hlt dC dI _ x rk hd jm bs b0 b1 od o1 o2 o3 jb pl ap cI cZ cB ot cL (fun _ => 0) v1 v2 v3 v4) (vx_cwSW 6 hts gk_L_arrive rfl rfl rfl (by decide +kernel) ⟨Nat.le_of_ble_eq_true rfl, Nat.le_of_ble_eq_true rfl⟩) ⟨pt_blindT, pt_preT hPc hKc hDc hN hE (pt_Z.up hZ (fun q h1 h2 => hS.2.1 q h1 h2) hS.1)⟩ rfl rfl hl.1 rfl (lv_room (Nat.le_of_ble_eq_true rfl)) dL_law_126 ⟨Nat.le_of_ble_eq_true rfl, Nat.le_of_ble_eq_true rfl⟩) hS (fun q _ h => hFc q h) hFc (fun r_7 u_7 t H1 locs ht hvm hw_7 hB hz1 hk1 hS => ?_)
    obtain ⟨hP1, hK1, hD1⟩ := hB
    rw [ht] at hP1
    have hK1 := va_K.moved hvm.symm hK1
    obtain ⟨hP, hD⟩ := va_join (wr := [(mo, .inr (6, [.int 0, .int 0, .int 0, .int 0, .ref m4, .ref m5, .ref m6, .ref m7, .ref m8, .ref m9, .ref m10, .ref m11, .ref m12, .int 1, .int 0, .int 0, .ref m16, .ref m17, .ref m18, .int 0, .int 0, .int 0, .int 0, .int 0, .int 0, .int 0, .int 0, .ref m27, .int 0, .ref m29, .ref m30, .ref m31])), (m4, .inl (y4, 700, .inl (fun _ => 0))), (m5, .inl (y5, 700, .inl (fun _ => 0))), (m6, .inl (y6, 700, .inl (fun _ => 0))), (m7, .inl (y7, 96, .inl (fun _ => 0))), (m8, .inl (y8, 2, .inl (upd (upd (fun _ => 0) 0 2) 1 2))), (m9, .inl (y9, 2, .inl (fun _ => 0))), (m10, .inl (y10, 2, .inl (fun _ => 0))), (m11, .inl (y11, 2, .inl (upd (upd (fun _ => 0) 0 (-1)) 1 (-1)))), (m12, .inl (y12, 4, .inl (fun _ => 0)))]) (w1 := [(ot, .inl (cL, 1, .inr (.inl u_7)))]) hP hD [0, 1, 2, 3, 4, 5, 6, 7, 8, 19] [9, 10, 11, 12, 13, 14, 15, 16, 17, 18] rfl rfl (by decide) (by decide) hk1 hFc hP1 hD1
    have hK := hK.app hK1
    generalize H1 = H at hP hS ⊢
    have hP : va_P (dC, dI) vwCl [(mo, .inr (6, [.int 0, .int 0, .int 0, .int 0, .ref m4, .ref m5, .ref m6, .ref m7, .ref m8, .ref m9, .ref m10, .ref m11, .ref m12, .int 1, .int 0, .int 0, .ref m16, .ref m17, .ref m18, .int 0, .int 0, .int 0, .int 0, .int 0, .int 0, .int 0, .int 0, .ref m27, .int 0, .ref m29, .ref m30, .ref m31])), (m4, .inl (y4, 700, .inl (fun _ => 0))), (m5, .inl (y5, 700, .inl (fun _ => 0))), (m6, .inl (y6, 700, .inl (fun _ => 0))), (m7, .inl (y7, 96, .inl (fun _ => 0))), (m8, .inl (y8, 2, .inl (upd (upd (fun _ => 0) 0 2) 1 2))), (m9, .inl (y9, 2, .inl (fun _ => 0))), (m10, .inl (y10, 2, .inl (fun _ => 0))), (m11, .inl (y11, 2, .inl (upd (upd (fun _ => 0) 0 (-1)) 1 (-1)))), (m12, .inl (y12, 4, .inl (fun _ => 0))), (ot, .inl (cL, 1, .inr (.inl u_7)))] H := hP
    have hD : va_D (fun q : Nat => s.heap.size ≤ q) [(mo, .inr (6, [.int 0, .int 0, .int 0, .int 0, .ref m4, .ref m5, .ref m6, .ref m7, .ref m8, .ref m9, .ref m10, .ref m11, .ref m12, .int 1, .int 0, .int 0, .ref m16, .ref m17, .ref m18, .int 0, .int 0, .int 0, .int 0, .int 0, .int 0, .int 0, .int 0, .ref m27, .int 0, .ref m29, .ref m30, .ref m31])), (m4, .inl (y4, 700, .inl (fun _ => 0))), (m5, .inl (y5, 700, .inl (fun _ => 0))), (m6, .inl (y6, 700, .inl (fun _ => 0))), (m7, .inl (y7, 96, .inl (fun _ => 0))), (m8, .inl (y8, 2, .inl (upd (upd (fun _ => 0) 0 2) 1 2))), (m9, .inl (y9, 2, .inl (fun _ => 0))), (m10, .inl (y10, 2, .inl (fun _ => 0))), (m11, .inl (y11, 2, .inl (upd (upd (fun _ => 0) 0 (-1)) 1 (-1)))), (m12, .inl (y12, 4, .inl (fun _ => 0))), (ot, .inl (cL, 1, .inr (.inl u_7)))] := hD
    have hK : va_K (dC, dI) vwCl [(cI, .int), (cZ, .boolean), (cB, .object "ParkTower$Bay"), (y4, .int), (y5, .int), (y6, .int), (y7, .int), (y8, .int), (y9, .int), (y10, .boolean), (y11, .int), (y12, .boolean), (cL, .long)] s := hK
    refine W.widen (k := 37) (n := 2564) (by omega) (by omega) ?_
    obtain rfl : r_7 = 1 := hw_7.1.trans (if_neg hok)
    refine lv_istore (lv' := [(5, .int 1), (4, .int 0), (3, .ref ot), (2, .ref mo), (1, .ref x), (0, .ref b)]) hx hb dL_law_129 hl (by decide) rfl (fun ls hl => ?_)
    refine lv_aload_n hx hb dL_law_131 rfl (lv_at hl 3 rfl) ?_
    refine lv_aload_n hx hb dL_law_132 rfl (lv_at hl 5 rfl) ?_
    refine lv_iload hx hb dL_law_133 (lv_at hl 1 rfl) ?_
    refine lv_iconst (v := 1) hx hb dL_law_135 (by decide) ?_
    refine lv_iadd hx hb dL_law_136 ?_
    refine pt_topi 1 (by decide) ?_
    refine va_sld hx hb hX hbl hbA hS (vp_in_iff.mpr (by decide)) dL_law_137 ?_
    refine pt_topi v1 e1 ?_
    refine lv_aload_n hx hb dL_law_138 rfl (lv_at hl 5 rfl) ?_
    refine lv_iload hx hb dL_law_139 (lv_at hl 1 rfl) ?_
    refine lv_iconst (v := 2) hx hb dL_law_141 (by decide) ?_
    refine lv_iadd hx hb dL_law_142 ?_
    refine pt_topi 2 (by decide) ?_
    refine va_sld hx hb hX hbl hbA hS (vp_in_iff.mpr (by decide)) dL_law_143 ?_
    refine pt_topi v2 e2 ?_
    refine lv_aload_n hx hb dL_law_144 rfl (lv_at hl 5 rfl) ?_
    refine lv_iload hx hb dL_law_145 (lv_at hl 1 rfl) ?_
    refine lv_iconst (v := 3) hx hb dL_law_147 (by decide) ?_
    refine lv_iadd hx hb dL_law_148 ?_
    refine pt_topi 3 (by decide) ?_
    refine va_sld hx hb hX hbl hbA hS (vp_in_iff.mpr (by decide)) dL_law_149 ?_
    refine pt_topi v3 e3 ?_
    refine lv_aload_n hx hb dL_law_150 rfl (lv_at hl 5 rfl) ?_
    refine lv_iload hx hb dL_law_151 (lv_at hl 1 rfl) ?_
    refine lv_iconst (v := 4) hx hb dL_law_153 (by decide) ?_
    refine lv_iadd hx hb dL_law_154 ?_
    refine pt_topi 4 (by decide) ?_
    refine va_sld hx hb hX hbl hbA hS (vp_in_iff.mpr (by decide)) dL_law_155 ?_
    refine pt_topi v4 e4 ?_
    have hPc := hP.sub (ws' := [(mo, .inr (6, [.int 0, .int 0, .int 0, .int 0, .ref m4, .ref m5, .ref m6, .ref m7, .ref m8, .ref m9, .ref m10, .ref m11, .ref m12, .int 1, .int 0, .int 0, .ref m16, .ref m17, .ref m18, .int 0, .int 0, .int 0, .int 0, .int 0, .int 0, .int 0, .int 0, .ref m27, .int 0, .ref m29, .ref m30, .ref m31])), (m4, .inl (y4, 700, .inl (fun _ => 0))), (m5, .inl (y5, 700, .inl (fun _ => 0))), (m6, .inl (y6, 700, .inl (fun _ => 0))), (m7, .inl (y7, 96, .inl (fun _ => 0))), (m8, .inl (y8, 2, .inl (upd (upd (fun _ => 0) 0 2) 1 2))), (m9, .inl (y9, 2, .inl (fun _ => 0))), (m10, .inl (y10, 2, .inl (fun _ => 0))), (m11, .inl (y11, 2, .inl (upd (upd (fun _ => 0) 0 (-1)) 1 (-1)))), (m12, .inl (y12, 4, .inl (fun _ => 0)))]) [0, 1, 2, 3, 4, 5, 6, 7, 8, 9] rfl
    have hDc := hD.sub (ws' := [(mo, .inr (6, [.int 0, .int 0, .int 0, .int 0, .ref m4, .ref m5, .ref m6, .ref m7, .ref m8, .ref m9, .ref m10, .ref m11, .ref m12, .int 1, .int 0, .int 0, .ref m16, .ref m17, .ref m18, .int 0, .int 0, .int 0, .int 0, .int 0, .int 0, .int 0, .int 0, .ref m27, .int 0, .ref m29, .ref m30, .ref m31])), (m4, .inl (y4, 700, .inl (fun _ => 0))), (m5, .inl (y5, 700, .inl (fun _ => 0))), (m6, .inl (y6, 700, .inl (fun _ => 0))), (m7, .inl (y7, 96, .inl (fun _ => 0))), (m8, .inl (y8, 2, .inl (upd (upd (fun _ => 0) 0 2) 1 2))), (m9, .inl (y9, 2, .inl (fun _ => 0))), (m10, .inl (y10, 2, .inl (fun _ => 0))), (m11, .inl (y11, 2, .inl (upd (upd (fun _ => 0) 0 (-1)) 1 (-1)))), (m12, .inl (y12, 4, .inl (fun _ => 0)))]) [0, 1, 2, 3, 4, 5, 6, 7, 8, 9] (by decide) rfl
    have hKc := hK.sub (tys' := [(y4, .int), (y5, .int), (y6, .int), (y7, .int), (y8, .int), (y9, .int), (y10, .boolean), (y11, .int), (y12, .boolean)]) [3, 4, 5, 6, 7, 8, 9, 10, 11] rfl
    have hFc := va_free (wc := [(mo, .inr (6, [.int 0, .int 0, .int 0, .int 0, .ref m4, .ref m5, .ref m6, .ref m7, .ref m8, .ref m9, .ref m10, .ref m11, .ref m12, .int 1, .int 0, .int 0, .ref m16, .ref m17, .ref m18, .int 0, .int 0, .int 0, .int 0, .int 0, .int 0, .int 0, .int 0, .ref m27, .int 0, .ref m29, .ref m30, .ref m31])), (m4, .inl (y4, 700, .inl (fun _ => 0))), (m5, .inl (y5, 700, .inl (fun _ => 0))), (m6, .inl (y6, 700, .inl (fun _ => 0))), (m7, .inl (y7, 96, .inl (fun _ => 0))), (m8, .inl (y8, 2, .inl (upd (upd (fun _ => 0) 0 2) 1 2))), (m9, .inl (y9, 2, .inl (fun _ => 0))), (m10, .inl (y10, 2, .inl (fun _ => 0))), (m11, .inl (y11, 2, .inl (upd (upd (fun _ => 0) 0 (-1)) 1 (-1)))), (m12, .inl (y12, 4, .inl (fun _ => 0)))]) hD hS hA [0, 1, 2, 3, 4, 5, 6, 7, 8, 9] rfl
    refine va_calli (va_runV (As := [.int v1, .int v2, .int v3, .int v4]) (rest := []) ⟨hx, hb, hml, hown, hts⟩ (m_arriveX l dC dI _ mo m4 m5 m6 m7 m8 m9 m10 m11 m12 m16 m17 m18 m27 m29 m30 m31 y4 y5 y6 y7 y8 y9 y10 y11 y12 v1 v2 v3 v4 (fun q => hok ⟨q.1, q.2.1, q.2.2.1, Int32.not_lt.mp q.2.2.2⟩)) (cwV 4 hts gk_X8_arrive rfl rfl rfl (by decide +kernel) ⟨Nat.le_of_ble_eq_true rfl, Nat.le_of_ble_eq_true rfl⟩) ⟨pt_blindQ, va_recv hK hP (ci := 6) (q0 := 0) rfl rfl, pt_preQ hPc hKc hDc hN⟩ rfl rfl hl.1 rfl (lv_room (Nat.le_of_ble_eq_true rfl)) dL_law_156 ⟨Nat.le_of_ble_eq_true rfl, Nat.le_of_ble_eq_true rfl⟩) hS (fun q _ h => hFc q h) hFc (fun r_8 u_8 t H1 locs ht hvm hw_8 hB hz1 hk1 hS => ?_)
    obtain ⟨hP1, hK1, hD1⟩ := hB
    rw [ht] at hP1
    have hK1 := va_K.moved hvm.symm hK1
    obtain ⟨hP, hD⟩ := va_join (wr := [(ot, .inl (cL, 1, .inr (.inl u_7)))]) (w1 := [(mo, .inr (6, .int u_8.1 :: u_8.2))]) hP hD [0, 1, 2, 3, 4, 5, 6, 7, 8, 9] [10] rfl rfl (by decide) (by decide) hk1 hFc hP1 hD1
    have hK := hK.app hK1
    generalize H1 = H at hP hS ⊢
    have hP : va_P (dC, dI) vwCl [(ot, .inl (cL, 1, .inr (.inl u_7))), (mo, .inr (6, .int u_8.1 :: u_8.2))] H := hP
    have hD : va_D (fun q : Nat => s.heap.size ≤ q) [(ot, .inl (cL, 1, .inr (.inl u_7))), (mo, .inr (6, .int u_8.1 :: u_8.2))] := hD
    have hK : va_K (dC, dI) vwCl [(cI, .int), (cZ, .boolean), (cB, .object "ParkTower$Bay"), (y4, .int), (y5, .int), (y6, .int), (y7, .int), (y8, .int), (y9, .int), (y10, .boolean), (y11, .int), (y12, .boolean), (cL, .long)] s := hK
    refine W.widen (k := 37) (n := 2564) (by omega) (by omega) ?_
    refine lv_istore (lv' := [(6, .int r_8), (5, .int 1), (4, .int 0), (3, .ref ot), (2, .ref mo), (1, .ref x), (0, .ref b)]) hx hb dL_law_159 hl (by decide) rfl (fun ls hl => ?_)
    refine lv_aload_n hx hb dL_law_161 rfl (lv_at hl 4 rfl) ?_
    refine pt_cSi (va_runV (As := []) (rest := []) ⟨hx, hb, hml, hown, hts⟩ (c_thrown l dC dI mo u_8.1 u_8.2) (cwV 0 hts gk_X8_thrown rfl rfl rfl (by decide +kernel) ⟨Nat.le_of_ble_eq_true rfl, Nat.le_of_ble_eq_true rfl⟩) ⟨pt_blind, va_recv hK hP (ci := 6) (q0 := 1) rfl rfl, pt_pre (w := [(mo, .inr (6, .int u_8.1 :: u_8.2))]) (tys := []) (hP.sub [1] rfl) (hK.sub [] rfl) hN⟩ rfl rfl hl.1 rfl (lv_room (Nat.le_of_ble_eq_true rfl)) dL_law_162 ⟨Nat.le_of_ble_eq_true rfl, Nat.le_of_ble_eq_true rfl⟩) (fun r_9 hr_9 => ?_)
    obtain rfl : r_9 = 1 := hr_9.trans hw_8.1
    refine lv_iload hx hb dL_law_165 (lv_at hl 1 rfl) ?_
    refine lv_icmp_eq (tgt := 172) hx hb dL_law_167 (by decide) (fun _ => ?_) (fun c => absurd (by decide) c)
    refine lv_iload hx hb dL_law_172 (lv_at hl 1 rfl) ?_
    refine lv_if_ne (tgt := 189) hx hb dL_law_174 (by decide) (fun _ => ?_) (fun c => absurd c (by decide))
    refine lv_goto (tgt := 824) hx hb dL_law_189 (by decide) ?_
    exact law_end l C0 (Nat.le_of_ble_eq_true rfl) (Nat.le_of_ble_eq_true rfl) hS ls (lv_sub hl [2, 6] rfl)
set_option maxHeartbeats 4000000 in
set_option maxRecDepth 100000 in
theorem law_shut {p : Program} {e : Env} {s : State} {m : MethodId} {below : List Frame} {meth : Method} {c : Code} (l : Launch) (hlt : l.stackTraces = false) {b : Nat} {xs : Nat → Int32} (C0 : lw_At p s m meth c b 5 xs) (dC : Nat → ClassId) (dI : Nat → Nat → Nat) (x rk hd jm bs b0 b1 od o1 o2 o3 jb pl ap : Nat) (cI cZ cB : ClassId) (mo m4 m5 m6 m7 m8 m9 m10 m11 m12 m16 m17 m18 m27 m29 m30 m31 : Nat) (y4 y5 y6 y7 y8 y9 y10 y11 y12 : ClassId) (ot : Nat) (cL : ClassId) (H : Heap) (locs : List Loc) (hN : pt_N s) (hE : pt_E s) (hZ : pt_Z s.heap.size s s.heap) (hK : va_K (dC, dI) vwCl [(cI, .int), (cZ, .boolean), (cB, .object "ParkTower$Bay"), (y4, .int), (y5, .int), (y6, .int), (y7, .int), (y8, .int), (y9, .int), (y10, .boolean), (y11, .int), (y12, .boolean), (cL, .long)] s) (hP : va_P (dC, dI) vwCl [(x, .inr (5, [.ref rk, .ref bs, .ref od, .ref jb, .ref ap, .int 0, .int 1, .int 0, .int 0, .int 0])), (rk, .inr (4, [.ref hd, .ref jm])), (hd, .inl (cI, 96, .inl (fun _ => 0))), (jm, .inl (cZ, 4, .inl (fun _ => 0))), (bs, .inl (cB, 2, .inr (.inr (.inr (.inr (va_up (va_up (fun _ => none) 0 (some b0)) 1 (some b1))))))), (b0, .inr (0, [.int 2, .int 0, .int 0, .int 0, .int 0, .int (-1)])), (b1, .inr (0, [.int 2, .int 0, .int 0, .int 0, .int 0, .int (-1)])), (od, .inr (2, [.ref o1, .ref o2, .ref o3, .int 0])), (jb, .inr (1, [.ref pl, .int (-1), .int 0, .int 0, .int 0])), (mo, .inr (6, [.int 0, .int 0, .int 0, .int 0, .ref m4, .ref m5, .ref m6, .ref m7, .ref m8, .ref m9, .ref m10, .ref m11, .ref m12, .int 1, .int 0, .int 0, .ref m16, .ref m17, .ref m18, .int 0, .int 0, .int 0, .int 0, .int 0, .int 0, .int 0, .int 0, .ref m27, .int 0, .ref m29, .ref m30, .ref m31])), (m4, .inl (y4, 700, .inl (fun _ => 0))), (m5, .inl (y5, 700, .inl (fun _ => 0))), (m6, .inl (y6, 700, .inl (fun _ => 0))), (m7, .inl (y7, 96, .inl (fun _ => 0))), (m8, .inl (y8, 2, .inl (upd (upd (fun _ => 0) 0 2) 1 2))), (m9, .inl (y9, 2, .inl (fun _ => 0))), (m10, .inl (y10, 2, .inl (fun _ => 0))), (m11, .inl (y11, 2, .inl (upd (upd (fun _ => 0) 0 (-1)) 1 (-1)))), (m12, .inl (y12, 4, .inl (fun _ => 0))), (ot, .inl (cL, 1, .inr (.inl (fun _ => 0))))] H) (hD : va_D (fun q : Nat => s.heap.size ≤ q) [(x, .inr (5, [.ref rk, .ref bs, .ref od, .ref jb, .ref ap, .int 0, .int 1, .int 0, .int 0, .int 0])), (rk, .inr (4, [.ref hd, .ref jm])), (hd, .inl (cI, 96, .inl (fun _ => 0))), (jm, .inl (cZ, 4, .inl (fun _ => 0))), (bs, .inl (cB, 2, .inr (.inr (.inr (.inr (va_up (va_up (fun _ => none) 0 (some b0)) 1 (some b1))))))), (b0, .inr (0, [.int 2, .int 0, .int 0, .int 0, .int 0, .int (-1)])), (b1, .inr (0, [.int 2, .int 0, .int 0, .int 0, .int 0, .int (-1)])), (od, .inr (2, [.ref o1, .ref o2, .ref o3, .int 0])), (jb, .inr (1, [.ref pl, .int (-1), .int 0, .int 0, .int 0])), (mo, .inr (6, [.int 0, .int 0, .int 0, .int 0, .ref m4, .ref m5, .ref m6, .ref m7, .ref m8, .ref m9, .ref m10, .ref m11, .ref m12, .int 1, .int 0, .int 0, .ref m16, .ref m17, .ref m18, .int 0, .int 0, .int 0, .int 0, .int 0, .int 0, .int 0, .int 0, .ref m27, .int 0, .ref m29, .ref m30, .ref m31])), (m4, .inl (y4, 700, .inl (fun _ => 0))), (m5, .inl (y5, 700, .inl (fun _ => 0))), (m6, .inl (y6, 700, .inl (fun _ => 0))), (m7, .inl (y7, 96, .inl (fun _ => 0))), (m8, .inl (y8, 2, .inl (upd (upd (fun _ => 0) 0 2) 1 2))), (m9, .inl (y9, 2, .inl (fun _ => 0))), (m10, .inl (y10, 2, .inl (fun _ => 0))), (m11, .inl (y11, 2, .inl (upd (upd (fun _ => 0) 0 (-1)) 1 (-1)))), (m12, .inl (y12, 4, .inl (fun _ => 0))), (ot, .inl (cL, 1, .inr (.inl (fun _ => 0))))]) (hS : va_S (fun q : Nat => s.heap.size ≤ q) s.heap H locs) (ls : Array Slot) (hl : lv_has ls 7 [(4, .int 0), (3, .ref ot), (2, .ref mo), (1, .ref x), (0, .ref b)]) : W p l e room_1 s m #[Value.ref b] below meth c H locs 36 2558 (lw_Z below #[Value.ref b] s) (F0 m 192 ls []) := by
  obtain ⟨hx, hb, hr, hml, hown, hts, hX, hbl, hlocks, hgv⟩ := id C0
  have hbA : ¬ (fun q : Nat => s.heap.size ≤ q) b := Nat.not_le.mpr hbl
  have hA : ∀ q : Nat, s.heap.size ≤ q → (fun q : Nat => s.heap.size ≤ q) q := fun _ h => h
  obtain ⟨v1, e1⟩ : ∃ z, xs 1 = z := ⟨_, rfl⟩
  by_cases hok : v1 = 0 ∨ v1 = 1
  · rcases hok with rfl | rfl
    · skip
      refine lv_aload_n hx hb dL_law_192 rfl (lv_at hl 3 rfl) ?_
      refine lv_aload_n hx hb dL_law_193 rfl (lv_at hl 4 rfl) ?_
      refine lv_iload hx hb dL_law_194 (lv_at hl 0 rfl) ?_
      refine lv_iconst (v := 1) hx hb dL_law_196 (by decide) ?_
      refine lv_iadd hx hb dL_law_197 ?_
      refine pt_topi 1 (by decide) ?_
      refine va_sld hx hb hX hbl hbA hS (vp_in_iff.mpr (by decide)) dL_law_198 ?_
      refine pt_topi 0 e1 ?_
      have hPc := hP.sub (ws' := [(x, .inr (5, [.ref rk, .ref bs, .ref od, .ref jb, .ref ap, .int 0, .int 1, .int 0, .int 0, .int 0])), (rk, .inr (4, [.ref hd, .ref jm])), (hd, .inl (cI, 96, .inl (fun _ => 0))), (jm, .inl (cZ, 4, .inl (fun _ => 0))), (bs, .inl (cB, 2, .inr (.inr (.inr (.inr (va_up (va_up (fun _ => none) 0 (some b0)) 1 (some b1))))))), (b0, .inr (0, [.int 2, .int 0, .int 0, .int 0, .int 0, .int (-1)])), (b1, .inr (0, [.int 2, .int 0, .int 0, .int 0, .int 0, .int (-1)])), (od, .inr (2, [.ref o1, .ref o2, .ref o3, .int 0])), (jb, .inr (1, [.ref pl, .int (-1), .int 0, .int 0, .int 0]))]) [0, 1, 2, 3, 4, 5, 6, 7, 8] rfl
      have hDc := hD.sub (ws' := [(x, .inr (5, [.ref rk, .ref bs, .ref od, .ref jb, .ref ap, .int 0, .int 1, .int 0, .int 0, .int 0])), (rk, .inr (4, [.ref hd, .ref jm])), (hd, .inl (cI, 96, .inl (fun _ => 0))), (jm, .inl (cZ, 4, .inl (fun _ => 0))), (bs, .inl (cB, 2, .inr (.inr (.inr (.inr (va_up (va_up (fun _ => none) 0 (some b0)) 1 (some b1))))))), (b0, .inr (0, [.int 2, .int 0, .int 0, .int 0, .int 0, .int (-1)])), (b1, .inr (0, [.int 2, .int 0, .int 0, .int 0, .int 0, .int (-1)])), (od, .inr (2, [.ref o1, .ref o2, .ref o3, .int 0])), (jb, .inr (1, [.ref pl, .int (-1), .int 0, .int 0, .int 0]))]) [0, 1, 2, 3, 4, 5, 6, 7, 8] (by decide) rfl
      have hKc := hK.sub (tys' := [(cI, .int), (cZ, .boolean), (cB, .object "ParkTower$Bay")]) [0, 1, 2] rfl
      have hFc := va_free (wc := [(x, .inr (5, [.ref rk, .ref bs, .ref od, .ref jb, .ref ap, .int 0, .int 1, .int 0, .int 0, .int 0])), (rk, .inr (4, [.ref hd, .ref jm])), (hd, .inl (cI, 96, .inl (fun _ => 0))), (jm, .inl (cZ, 4, .inl (fun _ => 0))), (bs, .inl (cB, 2, .inr (.inr (.inr (.inr (va_up (va_up (fun _ => none) 0 (some b0)) 1 (some b1))))))), (b0, .inr (0, [.int 2, .int 0, .int 0, .int 0, .int 0, .int (-1)])), (b1, .inr (0, [.int 2, .int 0, .int 0, .int 0, .int 0, .int (-1)])), (od, .inr (2, [.ref o1, .ref o2, .ref o3, .int 0])), (jb, .inr (1, [.ref pl, .int (-1), .int 0, .int 0, .int 0]))]) hD hS hA [0, 1, 2, 3, 4, 5, 6, 7, 8] rfl
      refine va_calli (vx_runSW (As := [.ref x, .int 0]) (rest := []) ⟨hx, hb, hml, hown, hts⟩ (w_shut l hlt dC dI _ x rk hd jm bs b0 b1 od o1 o2 o3 jb pl ap cI cZ cB 0) (vx_cwSW 2 hts gk_L_shut rfl rfl rfl (by decide +kernel) ⟨Nat.le_of_ble_eq_true rfl, Nat.le_of_ble_eq_true rfl⟩) ⟨pt_blindT, pt_preT hPc hKc hDc hN hE (pt_Z.up hZ (fun q h1 h2 => hS.2.1 q h1 h2) hS.1)⟩ rfl rfl hl.1 rfl (lv_room (Nat.le_of_ble_eq_true rfl)) dL_law_199 ⟨Nat.le_of_ble_eq_true rfl, Nat.le_of_ble_eq_true rfl⟩) hS (fun q _ h => hFc q h) hFc (fun r_1 u_1 t H1 locs ht hvm hw_1 hB hz1 hk1 hS => ?_)
      obtain ⟨hP1, hK1, hD1⟩ := hB
      rw [ht] at hP1
      have hK1 := va_K.moved hvm.symm hK1
      obtain ⟨hP, hD⟩ := va_join (wr := [(mo, .inr (6, [.int 0, .int 0, .int 0, .int 0, .ref m4, .ref m5, .ref m6, .ref m7, .ref m8, .ref m9, .ref m10, .ref m11, .ref m12, .int 1, .int 0, .int 0, .ref m16, .ref m17, .ref m18, .int 0, .int 0, .int 0, .int 0, .int 0, .int 0, .int 0, .int 0, .ref m27, .int 0, .ref m29, .ref m30, .ref m31])), (m4, .inl (y4, 700, .inl (fun _ => 0))), (m5, .inl (y5, 700, .inl (fun _ => 0))), (m6, .inl (y6, 700, .inl (fun _ => 0))), (m7, .inl (y7, 96, .inl (fun _ => 0))), (m8, .inl (y8, 2, .inl (upd (upd (fun _ => 0) 0 2) 1 2))), (m9, .inl (y9, 2, .inl (fun _ => 0))), (m10, .inl (y10, 2, .inl (fun _ => 0))), (m11, .inl (y11, 2, .inl (upd (upd (fun _ => 0) 0 (-1)) 1 (-1)))), (m12, .inl (y12, 4, .inl (fun _ => 0))), (ot, .inl (cL, 1, .inr (.inl (fun _ => 0))))]) (w1 := []) hP hD [0, 1, 2, 3, 4, 5, 6, 7, 8] [9, 10, 11, 12, 13, 14, 15, 16, 17, 18, 19] rfl rfl (by decide) (by decide) hk1 hFc hP1 hD1
      have hK := hK.app hK1
      generalize H1 = H at hP hS ⊢
      have hP : va_P (dC, dI) vwCl [(mo, .inr (6, [.int 0, .int 0, .int 0, .int 0, .ref m4, .ref m5, .ref m6, .ref m7, .ref m8, .ref m9, .ref m10, .ref m11, .ref m12, .int 1, .int 0, .int 0, .ref m16, .ref m17, .ref m18, .int 0, .int 0, .int 0, .int 0, .int 0, .int 0, .int 0, .int 0, .ref m27, .int 0, .ref m29, .ref m30, .ref m31])), (m4, .inl (y4, 700, .inl (fun _ => 0))), (m5, .inl (y5, 700, .inl (fun _ => 0))), (m6, .inl (y6, 700, .inl (fun _ => 0))), (m7, .inl (y7, 96, .inl (fun _ => 0))), (m8, .inl (y8, 2, .inl (upd (upd (fun _ => 0) 0 2) 1 2))), (m9, .inl (y9, 2, .inl (fun _ => 0))), (m10, .inl (y10, 2, .inl (fun _ => 0))), (m11, .inl (y11, 2, .inl (upd (upd (fun _ => 0) 0 (-1)) 1 (-1)))), (m12, .inl (y12, 4, .inl (fun _ => 0))), (ot, .inl (cL, 1, .inr (.inl (fun _ => 0))))] H := hP
      have hD : va_D (fun q : Nat => s.heap.size ≤ q) [(mo, .inr (6, [.int 0, .int 0, .int 0, .int 0, .ref m4, .ref m5, .ref m6, .ref m7, .ref m8, .ref m9, .ref m10, .ref m11, .ref m12, .int 1, .int 0, .int 0, .ref m16, .ref m17, .ref m18, .int 0, .int 0, .int 0, .int 0, .int 0, .int 0, .int 0, .int 0, .ref m27, .int 0, .ref m29, .ref m30, .ref m31])), (m4, .inl (y4, 700, .inl (fun _ => 0))), (m5, .inl (y5, 700, .inl (fun _ => 0))), (m6, .inl (y6, 700, .inl (fun _ => 0))), (m7, .inl (y7, 96, .inl (fun _ => 0))), (m8, .inl (y8, 2, .inl (upd (upd (fun _ => 0) 0 2) 1 2))), (m9, .inl (y9, 2, .inl (fun _ => 0))), (m10, .inl (y10, 2, .inl (fun _ => 0))), (m11, .inl (y11, 2, .inl (upd (upd (fun _ => 0) 0 (-1)) 1 (-1)))), (m12, .inl (y12, 4, .inl (fun _ => 0))), (ot, .inl (cL, 1, .inr (.inl (fun _ => 0))))] := hD
      have hK : va_K (dC, dI) vwCl [(cI, .int), (cZ, .boolean), (cB, .object "ParkTower$Bay"), (y4, .int), (y5, .int), (y6, .int), (y7, .int), (y8, .int), (y9, .int), (y10, .boolean), (y11, .int), (y12, .boolean), (cL, .long)] s := hK
      refine W.widen (k := 37) (n := 2564) (by omega) (by omega) ?_
      obtain rfl : r_1 = 0 := hw_1.trans (if_pos (by decide))
      refine lv_istore (lv' := [(5, .int 0), (4, .int 0), (3, .ref ot), (2, .ref mo), (1, .ref x), (0, .ref b)]) hx hb dL_law_202 hl (by decide) rfl (fun ls hl => ?_)
      refine lv_aload_n hx hb dL_law_204 rfl (lv_at hl 3 rfl) ?_
      refine lv_aload_n hx hb dL_law_205 rfl (lv_at hl 5 rfl) ?_
      refine lv_iload hx hb dL_law_206 (lv_at hl 1 rfl) ?_
      refine lv_iconst (v := 1) hx hb dL_law_208 (by decide) ?_
      refine lv_iadd hx hb dL_law_209 ?_
      refine pt_topi 1 (by decide) ?_
      refine va_sld hx hb hX hbl hbA hS (vp_in_iff.mpr (by decide)) dL_law_210 ?_
      refine pt_topi 0 e1 ?_
      have hPc := hP.sub (ws' := [(mo, .inr (6, [.int 0, .int 0, .int 0, .int 0, .ref m4, .ref m5, .ref m6, .ref m7, .ref m8, .ref m9, .ref m10, .ref m11, .ref m12, .int 1, .int 0, .int 0, .ref m16, .ref m17, .ref m18, .int 0, .int 0, .int 0, .int 0, .int 0, .int 0, .int 0, .int 0, .ref m27, .int 0, .ref m29, .ref m30, .ref m31])), (m4, .inl (y4, 700, .inl (fun _ => 0))), (m5, .inl (y5, 700, .inl (fun _ => 0))), (m6, .inl (y6, 700, .inl (fun _ => 0))), (m7, .inl (y7, 96, .inl (fun _ => 0))), (m8, .inl (y8, 2, .inl (upd (upd (fun _ => 0) 0 2) 1 2))), (m9, .inl (y9, 2, .inl (fun _ => 0))), (m10, .inl (y10, 2, .inl (fun _ => 0))), (m11, .inl (y11, 2, .inl (upd (upd (fun _ => 0) 0 (-1)) 1 (-1)))), (m12, .inl (y12, 4, .inl (fun _ => 0)))]) [0, 1, 2, 3, 4, 5, 6, 7, 8, 9] rfl
      have hDc := hD.sub (ws' := [(mo, .inr (6, [.int 0, .int 0, .int 0, .int 0, .ref m4, .ref m5, .ref m6, .ref m7, .ref m8, .ref m9, .ref m10, .ref m11, .ref m12, .int 1, .int 0, .int 0, .ref m16, .ref m17, .ref m18, .int 0, .int 0, .int 0, .int 0, .int 0, .int 0, .int 0, .int 0, .ref m27, .int 0, .ref m29, .ref m30, .ref m31])), (m4, .inl (y4, 700, .inl (fun _ => 0))), (m5, .inl (y5, 700, .inl (fun _ => 0))), (m6, .inl (y6, 700, .inl (fun _ => 0))), (m7, .inl (y7, 96, .inl (fun _ => 0))), (m8, .inl (y8, 2, .inl (upd (upd (fun _ => 0) 0 2) 1 2))), (m9, .inl (y9, 2, .inl (fun _ => 0))), (m10, .inl (y10, 2, .inl (fun _ => 0))), (m11, .inl (y11, 2, .inl (upd (upd (fun _ => 0) 0 (-1)) 1 (-1)))), (m12, .inl (y12, 4, .inl (fun _ => 0)))]) [0, 1, 2, 3, 4, 5, 6, 7, 8, 9] (by decide) rfl
      have hKc := hK.sub (tys' := [(y4, .int), (y5, .int), (y6, .int), (y7, .int), (y8, .int), (y9, .int), (y10, .boolean), (y11, .int), (y12, .boolean)]) [3, 4, 5, 6, 7, 8, 9, 10, 11] rfl
      have hFc := va_free (wc := [(mo, .inr (6, [.int 0, .int 0, .int 0, .int 0, .ref m4, .ref m5, .ref m6, .ref m7, .ref m8, .ref m9, .ref m10, .ref m11, .ref m12, .int 1, .int 0, .int 0, .ref m16, .ref m17, .ref m18, .int 0, .int 0, .int 0, .int 0, .int 0, .int 0, .int 0, .int 0, .ref m27, .int 0, .ref m29, .ref m30, .ref m31])), (m4, .inl (y4, 700, .inl (fun _ => 0))), (m5, .inl (y5, 700, .inl (fun _ => 0))), (m6, .inl (y6, 700, .inl (fun _ => 0))), (m7, .inl (y7, 96, .inl (fun _ => 0))), (m8, .inl (y8, 2, .inl (upd (upd (fun _ => 0) 0 2) 1 2))), (m9, .inl (y9, 2, .inl (fun _ => 0))), (m10, .inl (y10, 2, .inl (fun _ => 0))), (m11, .inl (y11, 2, .inl (upd (upd (fun _ => 0) 0 (-1)) 1 (-1)))), (m12, .inl (y12, 4, .inl (fun _ => 0)))]) hD hS hA [0, 1, 2, 3, 4, 5, 6, 7, 8, 9] rfl
      refine va_callv (va_runV (As := [.int 0]) (rest := []) ⟨hx, hb, hml, hown, hts⟩ (m_shut0 l dC dI _ mo m4 m5 m6 m7 m8 m9 m10 m11 m12 m16 m17 m18 m27 m29 m30 m31 y4 y5 y6 y7 y8 y9 y10 y11 y12) (cwV 1 hts gk_X8_shut rfl rfl rfl (by decide +kernel) ⟨Nat.le_of_ble_eq_true rfl, Nat.le_of_ble_eq_true rfl⟩) ⟨pt_blindQ, va_recv hK hP (ci := 6) (q0 := 0) rfl rfl, pt_preQ hPc hKc hDc hN⟩ rfl rfl hl.1 rfl (lv_room (Nat.le_of_ble_eq_true rfl)) dL_law_211 ⟨Nat.le_of_ble_eq_true rfl, Nat.le_of_ble_eq_true rfl⟩) hS (fun q _ h => hFc q h) hFc (fun u_2 t H1 locs ht hvm hw_2 hB hz1 hk1 hS => ?_)
      obtain ⟨hP1, hK1, hD1⟩ := hB
      rw [ht] at hP1
      have hK1 := va_K.moved hvm.symm hK1
      obtain ⟨hP, hD⟩ := va_join (wr := [(ot, .inl (cL, 1, .inr (.inl (fun _ => 0))))]) (w1 := [(mo, .inr (6, .int u_2.1 :: u_2.2))]) hP hD [0, 1, 2, 3, 4, 5, 6, 7, 8, 9] [10] rfl rfl (by decide) (by decide) hk1 hFc hP1 hD1
      have hK := hK.app hK1
      generalize H1 = H at hP hS ⊢
      have hP : va_P (dC, dI) vwCl [(ot, .inl (cL, 1, .inr (.inl (fun _ => 0)))), (mo, .inr (6, .int u_2.1 :: u_2.2))] H := hP
      have hD : va_D (fun q : Nat => s.heap.size ≤ q) [(ot, .inl (cL, 1, .inr (.inl (fun _ => 0)))), (mo, .inr (6, .int u_2.1 :: u_2.2))] := hD
      have hK : va_K (dC, dI) vwCl [(cI, .int), (cZ, .boolean), (cB, .object "ParkTower$Bay"), (y4, .int), (y5, .int), (y6, .int), (y7, .int), (y8, .int), (y9, .int), (y10, .boolean), (y11, .int), (y12, .boolean), (cL, .long)] s := hK
      refine W.widen (k := 37) (n := 2564) (by omega) (by omega) ?_
      refine lv_aload_n hx hb dL_law_214 rfl (lv_at hl 3 rfl) ?_
      refine pt_cSi (va_runV (As := []) (rest := []) ⟨hx, hb, hml, hown, hts⟩ (c_thrown l dC dI mo u_2.1 u_2.2) (cwV 0 hts gk_X8_thrown rfl rfl rfl (by decide +kernel) ⟨Nat.le_of_ble_eq_true rfl, Nat.le_of_ble_eq_true rfl⟩) ⟨pt_blind, va_recv hK hP (ci := 6) (q0 := 1) rfl rfl, pt_pre (w := [(mo, .inr (6, .int u_2.1 :: u_2.2))]) (tys := []) (hP.sub [1] rfl) (hK.sub [] rfl) hN⟩ rfl rfl hl.1 rfl (lv_room (Nat.le_of_ble_eq_true rfl)) dL_law_215 ⟨Nat.le_of_ble_eq_true rfl, Nat.le_of_ble_eq_true rfl⟩) (fun r_3 hr_3 => ?_)
      obtain rfl : r_3 = 0 := hr_3.trans hw_2
      refine lv_iload hx hb dL_law_218 (lv_at hl 0 rfl) ?_
      refine lv_icmp_eq (tgt := 225) hx hb dL_law_220 (by decide) (fun _ => ?_) (fun c => absurd (by decide) c)
      refine lv_goto (tgt := 824) hx hb dL_law_225 (by decide) ?_
      exact law_end l C0 (Nat.le_of_ble_eq_true rfl) (Nat.le_of_ble_eq_true rfl) hS ls (lv_sub hl [1, 5] rfl)
    · skip
      refine lv_aload_n hx hb dL_law_192 rfl (lv_at hl 3 rfl) ?_
      refine lv_aload_n hx hb dL_law_193 rfl (lv_at hl 4 rfl) ?_
      refine lv_iload hx hb dL_law_194 (lv_at hl 0 rfl) ?_
      refine lv_iconst (v := 1) hx hb dL_law_196 (by decide) ?_
      refine lv_iadd hx hb dL_law_197 ?_
      refine pt_topi 1 (by decide) ?_
      refine va_sld hx hb hX hbl hbA hS (vp_in_iff.mpr (by decide)) dL_law_198 ?_
      refine pt_topi 1 e1 ?_
      have hPc := hP.sub (ws' := [(x, .inr (5, [.ref rk, .ref bs, .ref od, .ref jb, .ref ap, .int 0, .int 1, .int 0, .int 0, .int 0])), (rk, .inr (4, [.ref hd, .ref jm])), (hd, .inl (cI, 96, .inl (fun _ => 0))), (jm, .inl (cZ, 4, .inl (fun _ => 0))), (bs, .inl (cB, 2, .inr (.inr (.inr (.inr (va_up (va_up (fun _ => none) 0 (some b0)) 1 (some b1))))))), (b0, .inr (0, [.int 2, .int 0, .int 0, .int 0, .int 0, .int (-1)])), (b1, .inr (0, [.int 2, .int 0, .int 0, .int 0, .int 0, .int (-1)])), (od, .inr (2, [.ref o1, .ref o2, .ref o3, .int 0])), (jb, .inr (1, [.ref pl, .int (-1), .int 0, .int 0, .int 0]))]) [0, 1, 2, 3, 4, 5, 6, 7, 8] rfl
      have hDc := hD.sub (ws' := [(x, .inr (5, [.ref rk, .ref bs, .ref od, .ref jb, .ref ap, .int 0, .int 1, .int 0, .int 0, .int 0])), (rk, .inr (4, [.ref hd, .ref jm])), (hd, .inl (cI, 96, .inl (fun _ => 0))), (jm, .inl (cZ, 4, .inl (fun _ => 0))), (bs, .inl (cB, 2, .inr (.inr (.inr (.inr (va_up (va_up (fun _ => none) 0 (some b0)) 1 (some b1))))))), (b0, .inr (0, [.int 2, .int 0, .int 0, .int 0, .int 0, .int (-1)])), (b1, .inr (0, [.int 2, .int 0, .int 0, .int 0, .int 0, .int (-1)])), (od, .inr (2, [.ref o1, .ref o2, .ref o3, .int 0])), (jb, .inr (1, [.ref pl, .int (-1), .int 0, .int 0, .int 0]))]) [0, 1, 2, 3, 4, 5, 6, 7, 8] (by decide) rfl
      have hKc := hK.sub (tys' := [(cI, .int), (cZ, .boolean), (cB, .object "ParkTower$Bay")]) [0, 1, 2] rfl
      have hFc := va_free (wc := [(x, .inr (5, [.ref rk, .ref bs, .ref od, .ref jb, .ref ap, .int 0, .int 1, .int 0, .int 0, .int 0])), (rk, .inr (4, [.ref hd, .ref jm])), (hd, .inl (cI, 96, .inl (fun _ => 0))), (jm, .inl (cZ, 4, .inl (fun _ => 0))), (bs, .inl (cB, 2, .inr (.inr (.inr (.inr (va_up (va_up (fun _ => none) 0 (some b0)) 1 (some b1))))))), (b0, .inr (0, [.int 2, .int 0, .int 0, .int 0, .int 0, .int (-1)])), (b1, .inr (0, [.int 2, .int 0, .int 0, .int 0, .int 0, .int (-1)])), (od, .inr (2, [.ref o1, .ref o2, .ref o3, .int 0])), (jb, .inr (1, [.ref pl, .int (-1), .int 0, .int 0, .int 0]))]) hD hS hA [0, 1, 2, 3, 4, 5, 6, 7, 8] rfl
      refine va_calli (vx_runSW (As := [.ref x, .int 1]) (rest := []) ⟨hx, hb, hml, hown, hts⟩ (w_shut l hlt dC dI _ x rk hd jm bs b0 b1 od o1 o2 o3 jb pl ap cI cZ cB 1) (vx_cwSW 2 hts gk_L_shut rfl rfl rfl (by decide +kernel) ⟨Nat.le_of_ble_eq_true rfl, Nat.le_of_ble_eq_true rfl⟩) ⟨pt_blindT, pt_preT hPc hKc hDc hN hE (pt_Z.up hZ (fun q h1 h2 => hS.2.1 q h1 h2) hS.1)⟩ rfl rfl hl.1 rfl (lv_room (Nat.le_of_ble_eq_true rfl)) dL_law_199 ⟨Nat.le_of_ble_eq_true rfl, Nat.le_of_ble_eq_true rfl⟩) hS (fun q _ h => hFc q h) hFc (fun r_4 u_4 t H1 locs ht hvm hw_4 hB hz1 hk1 hS => ?_)
      obtain ⟨hP1, hK1, hD1⟩ := hB
      rw [ht] at hP1
      have hK1 := va_K.moved hvm.symm hK1
      obtain ⟨hP, hD⟩ := va_join (wr := [(mo, .inr (6, [.int 0, .int 0, .int 0, .int 0, .ref m4, .ref m5, .ref m6, .ref m7, .ref m8, .ref m9, .ref m10, .ref m11, .ref m12, .int 1, .int 0, .int 0, .ref m16, .ref m17, .ref m18, .int 0, .int 0, .int 0, .int 0, .int 0, .int 0, .int 0, .int 0, .ref m27, .int 0, .ref m29, .ref m30, .ref m31])), (m4, .inl (y4, 700, .inl (fun _ => 0))), (m5, .inl (y5, 700, .inl (fun _ => 0))), (m6, .inl (y6, 700, .inl (fun _ => 0))), (m7, .inl (y7, 96, .inl (fun _ => 0))), (m8, .inl (y8, 2, .inl (upd (upd (fun _ => 0) 0 2) 1 2))), (m9, .inl (y9, 2, .inl (fun _ => 0))), (m10, .inl (y10, 2, .inl (fun _ => 0))), (m11, .inl (y11, 2, .inl (upd (upd (fun _ => 0) 0 (-1)) 1 (-1)))), (m12, .inl (y12, 4, .inl (fun _ => 0))), (ot, .inl (cL, 1, .inr (.inl (fun _ => 0))))]) (w1 := []) hP hD [0, 1, 2, 3, 4, 5, 6, 7, 8] [9, 10, 11, 12, 13, 14, 15, 16, 17, 18, 19] rfl rfl (by decide) (by decide) hk1 hFc hP1 hD1
      have hK := hK.app hK1
      generalize H1 = H at hP hS ⊢
      have hP : va_P (dC, dI) vwCl [(mo, .inr (6, [.int 0, .int 0, .int 0, .int 0, .ref m4, .ref m5, .ref m6, .ref m7, .ref m8, .ref m9, .ref m10, .ref m11, .ref m12, .int 1, .int 0, .int 0, .ref m16, .ref m17, .ref m18, .int 0, .int 0, .int 0, .int 0, .int 0, .int 0, .int 0, .int 0, .ref m27, .int 0, .ref m29, .ref m30, .ref m31])), (m4, .inl (y4, 700, .inl (fun _ => 0))), (m5, .inl (y5, 700, .inl (fun _ => 0))), (m6, .inl (y6, 700, .inl (fun _ => 0))), (m7, .inl (y7, 96, .inl (fun _ => 0))), (m8, .inl (y8, 2, .inl (upd (upd (fun _ => 0) 0 2) 1 2))), (m9, .inl (y9, 2, .inl (fun _ => 0))), (m10, .inl (y10, 2, .inl (fun _ => 0))), (m11, .inl (y11, 2, .inl (upd (upd (fun _ => 0) 0 (-1)) 1 (-1)))), (m12, .inl (y12, 4, .inl (fun _ => 0))), (ot, .inl (cL, 1, .inr (.inl (fun _ => 0))))] H := hP
      have hD : va_D (fun q : Nat => s.heap.size ≤ q) [(mo, .inr (6, [.int 0, .int 0, .int 0, .int 0, .ref m4, .ref m5, .ref m6, .ref m7, .ref m8, .ref m9, .ref m10, .ref m11, .ref m12, .int 1, .int 0, .int 0, .ref m16, .ref m17, .ref m18, .int 0, .int 0, .int 0, .int 0, .int 0, .int 0, .int 0, .int 0, .ref m27, .int 0, .ref m29, .ref m30, .ref m31])), (m4, .inl (y4, 700, .inl (fun _ => 0))), (m5, .inl (y5, 700, .inl (fun _ => 0))), (m6, .inl (y6, 700, .inl (fun _ => 0))), (m7, .inl (y7, 96, .inl (fun _ => 0))), (m8, .inl (y8, 2, .inl (upd (upd (fun _ => 0) 0 2) 1 2))), (m9, .inl (y9, 2, .inl (fun _ => 0))), (m10, .inl (y10, 2, .inl (fun _ => 0))), (m11, .inl (y11, 2, .inl (upd (upd (fun _ => 0) 0 (-1)) 1 (-1)))), (m12, .inl (y12, 4, .inl (fun _ => 0))), (ot, .inl (cL, 1, .inr (.inl (fun _ => 0))))] := hD
      have hK : va_K (dC, dI) vwCl [(cI, .int), (cZ, .boolean), (cB, .object "ParkTower$Bay"), (y4, .int), (y5, .int), (y6, .int), (y7, .int), (y8, .int), (y9, .int), (y10, .boolean), (y11, .int), (y12, .boolean), (cL, .long)] s := hK
      refine W.widen (k := 37) (n := 2564) (by omega) (by omega) ?_
      obtain rfl : r_4 = 0 := hw_4.trans (if_pos (by decide))
      refine lv_istore (lv' := [(5, .int 0), (4, .int 0), (3, .ref ot), (2, .ref mo), (1, .ref x), (0, .ref b)]) hx hb dL_law_202 hl (by decide) rfl (fun ls hl => ?_)
      refine lv_aload_n hx hb dL_law_204 rfl (lv_at hl 3 rfl) ?_
      refine lv_aload_n hx hb dL_law_205 rfl (lv_at hl 5 rfl) ?_
      refine lv_iload hx hb dL_law_206 (lv_at hl 1 rfl) ?_
      refine lv_iconst (v := 1) hx hb dL_law_208 (by decide) ?_
      refine lv_iadd hx hb dL_law_209 ?_
      refine pt_topi 1 (by decide) ?_
      refine va_sld hx hb hX hbl hbA hS (vp_in_iff.mpr (by decide)) dL_law_210 ?_
      refine pt_topi 1 e1 ?_
      have hPc := hP.sub (ws' := [(mo, .inr (6, [.int 0, .int 0, .int 0, .int 0, .ref m4, .ref m5, .ref m6, .ref m7, .ref m8, .ref m9, .ref m10, .ref m11, .ref m12, .int 1, .int 0, .int 0, .ref m16, .ref m17, .ref m18, .int 0, .int 0, .int 0, .int 0, .int 0, .int 0, .int 0, .int 0, .ref m27, .int 0, .ref m29, .ref m30, .ref m31])), (m4, .inl (y4, 700, .inl (fun _ => 0))), (m5, .inl (y5, 700, .inl (fun _ => 0))), (m6, .inl (y6, 700, .inl (fun _ => 0))), (m7, .inl (y7, 96, .inl (fun _ => 0))), (m8, .inl (y8, 2, .inl (upd (upd (fun _ => 0) 0 2) 1 2))), (m9, .inl (y9, 2, .inl (fun _ => 0))), (m10, .inl (y10, 2, .inl (fun _ => 0))), (m11, .inl (y11, 2, .inl (upd (upd (fun _ => 0) 0 (-1)) 1 (-1)))), (m12, .inl (y12, 4, .inl (fun _ => 0)))]) [0, 1, 2, 3, 4, 5, 6, 7, 8, 9] rfl
      have hDc := hD.sub (ws' := [(mo, .inr (6, [.int 0, .int 0, .int 0, .int 0, .ref m4, .ref m5, .ref m6, .ref m7, .ref m8, .ref m9, .ref m10, .ref m11, .ref m12, .int 1, .int 0, .int 0, .ref m16, .ref m17, .ref m18, .int 0, .int 0, .int 0, .int 0, .int 0, .int 0, .int 0, .int 0, .ref m27, .int 0, .ref m29, .ref m30, .ref m31])), (m4, .inl (y4, 700, .inl (fun _ => 0))), (m5, .inl (y5, 700, .inl (fun _ => 0))), (m6, .inl (y6, 700, .inl (fun _ => 0))), (m7, .inl (y7, 96, .inl (fun _ => 0))), (m8, .inl (y8, 2, .inl (upd (upd (fun _ => 0) 0 2) 1 2))), (m9, .inl (y9, 2, .inl (fun _ => 0))), (m10, .inl (y10, 2, .inl (fun _ => 0))), (m11, .inl (y11, 2, .inl (upd (upd (fun _ => 0) 0 (-1)) 1 (-1)))), (m12, .inl (y12, 4, .inl (fun _ => 0)))]) [0, 1, 2, 3, 4, 5, 6, 7, 8, 9] (by decide) rfl
      have hKc := hK.sub (tys' := [(y4, .int), (y5, .int), (y6, .int), (y7, .int), (y8, .int), (y9, .int), (y10, .boolean), (y11, .int), (y12, .boolean)]) [3, 4, 5, 6, 7, 8, 9, 10, 11] rfl
      have hFc := va_free (wc := [(mo, .inr (6, [.int 0, .int 0, .int 0, .int 0, .ref m4, .ref m5, .ref m6, .ref m7, .ref m8, .ref m9, .ref m10, .ref m11, .ref m12, .int 1, .int 0, .int 0, .ref m16, .ref m17, .ref m18, .int 0, .int 0, .int 0, .int 0, .int 0, .int 0, .int 0, .int 0, .ref m27, .int 0, .ref m29, .ref m30, .ref m31])), (m4, .inl (y4, 700, .inl (fun _ => 0))), (m5, .inl (y5, 700, .inl (fun _ => 0))), (m6, .inl (y6, 700, .inl (fun _ => 0))), (m7, .inl (y7, 96, .inl (fun _ => 0))), (m8, .inl (y8, 2, .inl (upd (upd (fun _ => 0) 0 2) 1 2))), (m9, .inl (y9, 2, .inl (fun _ => 0))), (m10, .inl (y10, 2, .inl (fun _ => 0))), (m11, .inl (y11, 2, .inl (upd (upd (fun _ => 0) 0 (-1)) 1 (-1)))), (m12, .inl (y12, 4, .inl (fun _ => 0)))]) hD hS hA [0, 1, 2, 3, 4, 5, 6, 7, 8, 9] rfl
      refine va_callv (va_runV (As := [.int 1]) (rest := []) ⟨hx, hb, hml, hown, hts⟩ (m_shut1 l dC dI _ mo m4 m5 m6 m7 m8 m9 m10 m11 m12 m16 m17 m18 m27 m29 m30 m31 y4 y5 y6 y7 y8 y9 y10 y11 y12) (cwV 1 hts gk_X8_shut rfl rfl rfl (by decide +kernel) ⟨Nat.le_of_ble_eq_true rfl, Nat.le_of_ble_eq_true rfl⟩) ⟨pt_blindQ, va_recv hK hP (ci := 6) (q0 := 0) rfl rfl, pt_preQ hPc hKc hDc hN⟩ rfl rfl hl.1 rfl (lv_room (Nat.le_of_ble_eq_true rfl)) dL_law_211 ⟨Nat.le_of_ble_eq_true rfl, Nat.le_of_ble_eq_true rfl⟩) hS (fun q _ h => hFc q h) hFc (fun u_5 t H1 locs ht hvm hw_5 hB hz1 hk1 hS => ?_)
      obtain ⟨hP1, hK1, hD1⟩ := hB
      rw [ht] at hP1
      have hK1 := va_K.moved hvm.symm hK1
      obtain ⟨hP, hD⟩ := va_join (wr := [(ot, .inl (cL, 1, .inr (.inl (fun _ => 0))))]) (w1 := [(mo, .inr (6, .int u_5.1 :: u_5.2))]) hP hD [0, 1, 2, 3, 4, 5, 6, 7, 8, 9] [10] rfl rfl (by decide) (by decide) hk1 hFc hP1 hD1
      have hK := hK.app hK1
      generalize H1 = H at hP hS ⊢
      have hP : va_P (dC, dI) vwCl [(ot, .inl (cL, 1, .inr (.inl (fun _ => 0)))), (mo, .inr (6, .int u_5.1 :: u_5.2))] H := hP
      have hD : va_D (fun q : Nat => s.heap.size ≤ q) [(ot, .inl (cL, 1, .inr (.inl (fun _ => 0)))), (mo, .inr (6, .int u_5.1 :: u_5.2))] := hD
      have hK : va_K (dC, dI) vwCl [(cI, .int), (cZ, .boolean), (cB, .object "ParkTower$Bay"), (y4, .int), (y5, .int), (y6, .int), (y7, .int), (y8, .int), (y9, .int), (y10, .boolean), (y11, .int), (y12, .boolean), (cL, .long)] s := hK
      refine W.widen (k := 37) (n := 2564) (by omega) (by omega) ?_
      refine lv_aload_n hx hb dL_law_214 rfl (lv_at hl 3 rfl) ?_
      refine pt_cSi (va_runV (As := []) (rest := []) ⟨hx, hb, hml, hown, hts⟩ (c_thrown l dC dI mo u_5.1 u_5.2) (cwV 0 hts gk_X8_thrown rfl rfl rfl (by decide +kernel) ⟨Nat.le_of_ble_eq_true rfl, Nat.le_of_ble_eq_true rfl⟩) ⟨pt_blind, va_recv hK hP (ci := 6) (q0 := 1) rfl rfl, pt_pre (w := [(mo, .inr (6, .int u_5.1 :: u_5.2))]) (tys := []) (hP.sub [1] rfl) (hK.sub [] rfl) hN⟩ rfl rfl hl.1 rfl (lv_room (Nat.le_of_ble_eq_true rfl)) dL_law_215 ⟨Nat.le_of_ble_eq_true rfl, Nat.le_of_ble_eq_true rfl⟩) (fun r_6 hr_6 => ?_)
      obtain rfl : r_6 = 0 := hr_6.trans hw_5
      refine lv_iload hx hb dL_law_218 (lv_at hl 0 rfl) ?_
      refine lv_icmp_eq (tgt := 225) hx hb dL_law_220 (by decide) (fun _ => ?_) (fun c => absurd (by decide) c)
      refine lv_goto (tgt := 824) hx hb dL_law_225 (by decide) ?_
      exact law_end l C0 (Nat.le_of_ble_eq_true rfl) (Nat.le_of_ble_eq_true rfl) hS ls (lv_sub hl [1, 5] rfl)
  · skip
    refine lv_aload_n hx hb dL_law_192 rfl (lv_at hl 3 rfl) ?_
    refine lv_aload_n hx hb dL_law_193 rfl (lv_at hl 4 rfl) ?_
    refine lv_iload hx hb dL_law_194 (lv_at hl 0 rfl) ?_
    refine lv_iconst (v := 1) hx hb dL_law_196 (by decide) ?_
    refine lv_iadd hx hb dL_law_197 ?_
    refine pt_topi 1 (by decide) ?_
    refine va_sld hx hb hX hbl hbA hS (vp_in_iff.mpr (by decide)) dL_law_198 ?_
    refine pt_topi v1 e1 ?_
    have hPc := hP.sub (ws' := [(x, .inr (5, [.ref rk, .ref bs, .ref od, .ref jb, .ref ap, .int 0, .int 1, .int 0, .int 0, .int 0])), (rk, .inr (4, [.ref hd, .ref jm])), (hd, .inl (cI, 96, .inl (fun _ => 0))), (jm, .inl (cZ, 4, .inl (fun _ => 0))), (bs, .inl (cB, 2, .inr (.inr (.inr (.inr (va_up (va_up (fun _ => none) 0 (some b0)) 1 (some b1))))))), (b0, .inr (0, [.int 2, .int 0, .int 0, .int 0, .int 0, .int (-1)])), (b1, .inr (0, [.int 2, .int 0, .int 0, .int 0, .int 0, .int (-1)])), (od, .inr (2, [.ref o1, .ref o2, .ref o3, .int 0])), (jb, .inr (1, [.ref pl, .int (-1), .int 0, .int 0, .int 0]))]) [0, 1, 2, 3, 4, 5, 6, 7, 8] rfl
    have hDc := hD.sub (ws' := [(x, .inr (5, [.ref rk, .ref bs, .ref od, .ref jb, .ref ap, .int 0, .int 1, .int 0, .int 0, .int 0])), (rk, .inr (4, [.ref hd, .ref jm])), (hd, .inl (cI, 96, .inl (fun _ => 0))), (jm, .inl (cZ, 4, .inl (fun _ => 0))), (bs, .inl (cB, 2, .inr (.inr (.inr (.inr (va_up (va_up (fun _ => none) 0 (some b0)) 1 (some b1))))))), (b0, .inr (0, [.int 2, .int 0, .int 0, .int 0, .int 0, .int (-1)])), (b1, .inr (0, [.int 2, .int 0, .int 0, .int 0, .int 0, .int (-1)])), (od, .inr (2, [.ref o1, .ref o2, .ref o3, .int 0])), (jb, .inr (1, [.ref pl, .int (-1), .int 0, .int 0, .int 0]))]) [0, 1, 2, 3, 4, 5, 6, 7, 8] (by decide) rfl
    have hKc := hK.sub (tys' := [(cI, .int), (cZ, .boolean), (cB, .object "ParkTower$Bay")]) [0, 1, 2] rfl
    have hFc := va_free (wc := [(x, .inr (5, [.ref rk, .ref bs, .ref od, .ref jb, .ref ap, .int 0, .int 1, .int 0, .int 0, .int 0])), (rk, .inr (4, [.ref hd, .ref jm])), (hd, .inl (cI, 96, .inl (fun _ => 0))), (jm, .inl (cZ, 4, .inl (fun _ => 0))), (bs, .inl (cB, 2, .inr (.inr (.inr (.inr (va_up (va_up (fun _ => none) 0 (some b0)) 1 (some b1))))))), (b0, .inr (0, [.int 2, .int 0, .int 0, .int 0, .int 0, .int (-1)])), (b1, .inr (0, [.int 2, .int 0, .int 0, .int 0, .int 0, .int (-1)])), (od, .inr (2, [.ref o1, .ref o2, .ref o3, .int 0])), (jb, .inr (1, [.ref pl, .int (-1), .int 0, .int 0, .int 0]))]) hD hS hA [0, 1, 2, 3, 4, 5, 6, 7, 8] rfl
    refine va_calli (vx_runSW (As := [.ref x, .int v1]) (rest := []) ⟨hx, hb, hml, hown, hts⟩ (w_shut l hlt dC dI _ x rk hd jm bs b0 b1 od o1 o2 o3 jb pl ap cI cZ cB v1) (vx_cwSW 2 hts gk_L_shut rfl rfl rfl (by decide +kernel) ⟨Nat.le_of_ble_eq_true rfl, Nat.le_of_ble_eq_true rfl⟩) ⟨pt_blindT, pt_preT hPc hKc hDc hN hE (pt_Z.up hZ (fun q h1 h2 => hS.2.1 q h1 h2) hS.1)⟩ rfl rfl hl.1 rfl (lv_room (Nat.le_of_ble_eq_true rfl)) dL_law_199 ⟨Nat.le_of_ble_eq_true rfl, Nat.le_of_ble_eq_true rfl⟩) hS (fun q _ h => hFc q h) hFc (fun r_7 u_7 t H1 locs ht hvm hw_7 hB hz1 hk1 hS => ?_)
    obtain ⟨hP1, hK1, hD1⟩ := hB
    rw [ht] at hP1
    have hK1 := va_K.moved hvm.symm hK1
    obtain ⟨hP, hD⟩ := va_join (wr := [(mo, .inr (6, [.int 0, .int 0, .int 0, .int 0, .ref m4, .ref m5, .ref m6, .ref m7, .ref m8, .ref m9, .ref m10, .ref m11, .ref m12, .int 1, .int 0, .int 0, .ref m16, .ref m17, .ref m18, .int 0, .int 0, .int 0, .int 0, .int 0, .int 0, .int 0, .int 0, .ref m27, .int 0, .ref m29, .ref m30, .ref m31])), (m4, .inl (y4, 700, .inl (fun _ => 0))), (m5, .inl (y5, 700, .inl (fun _ => 0))), (m6, .inl (y6, 700, .inl (fun _ => 0))), (m7, .inl (y7, 96, .inl (fun _ => 0))), (m8, .inl (y8, 2, .inl (upd (upd (fun _ => 0) 0 2) 1 2))), (m9, .inl (y9, 2, .inl (fun _ => 0))), (m10, .inl (y10, 2, .inl (fun _ => 0))), (m11, .inl (y11, 2, .inl (upd (upd (fun _ => 0) 0 (-1)) 1 (-1)))), (m12, .inl (y12, 4, .inl (fun _ => 0))), (ot, .inl (cL, 1, .inr (.inl (fun _ => 0))))]) (w1 := []) hP hD [0, 1, 2, 3, 4, 5, 6, 7, 8] [9, 10, 11, 12, 13, 14, 15, 16, 17, 18, 19] rfl rfl (by decide) (by decide) hk1 hFc hP1 hD1
    have hK := hK.app hK1
    generalize H1 = H at hP hS ⊢
    have hP : va_P (dC, dI) vwCl [(mo, .inr (6, [.int 0, .int 0, .int 0, .int 0, .ref m4, .ref m5, .ref m6, .ref m7, .ref m8, .ref m9, .ref m10, .ref m11, .ref m12, .int 1, .int 0, .int 0, .ref m16, .ref m17, .ref m18, .int 0, .int 0, .int 0, .int 0, .int 0, .int 0, .int 0, .int 0, .ref m27, .int 0, .ref m29, .ref m30, .ref m31])), (m4, .inl (y4, 700, .inl (fun _ => 0))), (m5, .inl (y5, 700, .inl (fun _ => 0))), (m6, .inl (y6, 700, .inl (fun _ => 0))), (m7, .inl (y7, 96, .inl (fun _ => 0))), (m8, .inl (y8, 2, .inl (upd (upd (fun _ => 0) 0 2) 1 2))), (m9, .inl (y9, 2, .inl (fun _ => 0))), (m10, .inl (y10, 2, .inl (fun _ => 0))), (m11, .inl (y11, 2, .inl (upd (upd (fun _ => 0) 0 (-1)) 1 (-1)))), (m12, .inl (y12, 4, .inl (fun _ => 0))), (ot, .inl (cL, 1, .inr (.inl (fun _ => 0))))] H := hP
    have hD : va_D (fun q : Nat => s.heap.size ≤ q) [(mo, .inr (6, [.int 0, .int 0, .int 0, .int 0, .ref m4, .ref m5, .ref m6, .ref m7, .ref m8, .ref m9, .ref m10, .ref m11, .ref m12, .int 1, .int 0, .int 0, .ref m16, .ref m17, .ref m18, .int 0, .int 0, .int 0, .int 0, .int 0, .int 0, .int 0, .int 0, .ref m27, .int 0, .ref m29, .ref m30, .ref m31])), (m4, .inl (y4, 700, .inl (fun _ => 0))), (m5, .inl (y5, 700, .inl (fun _ => 0))), (m6, .inl (y6, 700, .inl (fun _ => 0))), (m7, .inl (y7, 96, .inl (fun _ => 0))), (m8, .inl (y8, 2, .inl (upd (upd (fun _ => 0) 0 2) 1 2))), (m9, .inl (y9, 2, .inl (fun _ => 0))), (m10, .inl (y10, 2, .inl (fun _ => 0))), (m11, .inl (y11, 2, .inl (upd (upd (fun _ => 0) 0 (-1)) 1 (-1)))), (m12, .inl (y12, 4, .inl (fun _ => 0))), (ot, .inl (cL, 1, .inr (.inl (fun _ => 0))))] := hD
    have hK : va_K (dC, dI) vwCl [(cI, .int), (cZ, .boolean), (cB, .object "ParkTower$Bay"), (y4, .int), (y5, .int), (y6, .int), (y7, .int), (y8, .int), (y9, .int), (y10, .boolean), (y11, .int), (y12, .boolean), (cL, .long)] s := hK
    refine W.widen (k := 37) (n := 2564) (by omega) (by omega) ?_
    obtain rfl : r_7 = 1 := hw_7.trans (if_neg hok)
    refine lv_istore (lv' := [(5, .int 1), (4, .int 0), (3, .ref ot), (2, .ref mo), (1, .ref x), (0, .ref b)]) hx hb dL_law_202 hl (by decide) rfl (fun ls hl => ?_)
    refine lv_aload_n hx hb dL_law_204 rfl (lv_at hl 3 rfl) ?_
    refine lv_aload_n hx hb dL_law_205 rfl (lv_at hl 5 rfl) ?_
    refine lv_iload hx hb dL_law_206 (lv_at hl 1 rfl) ?_
    refine lv_iconst (v := 1) hx hb dL_law_208 (by decide) ?_
    refine lv_iadd hx hb dL_law_209 ?_
    refine pt_topi 1 (by decide) ?_
    refine va_sld hx hb hX hbl hbA hS (vp_in_iff.mpr (by decide)) dL_law_210 ?_
    refine pt_topi v1 e1 ?_
    have hPc := hP.sub (ws' := [(mo, .inr (6, [.int 0, .int 0, .int 0, .int 0, .ref m4, .ref m5, .ref m6, .ref m7, .ref m8, .ref m9, .ref m10, .ref m11, .ref m12, .int 1, .int 0, .int 0, .ref m16, .ref m17, .ref m18, .int 0, .int 0, .int 0, .int 0, .int 0, .int 0, .int 0, .int 0, .ref m27, .int 0, .ref m29, .ref m30, .ref m31])), (m4, .inl (y4, 700, .inl (fun _ => 0))), (m5, .inl (y5, 700, .inl (fun _ => 0))), (m6, .inl (y6, 700, .inl (fun _ => 0))), (m7, .inl (y7, 96, .inl (fun _ => 0))), (m8, .inl (y8, 2, .inl (upd (upd (fun _ => 0) 0 2) 1 2))), (m9, .inl (y9, 2, .inl (fun _ => 0))), (m10, .inl (y10, 2, .inl (fun _ => 0))), (m11, .inl (y11, 2, .inl (upd (upd (fun _ => 0) 0 (-1)) 1 (-1)))), (m12, .inl (y12, 4, .inl (fun _ => 0)))]) [0, 1, 2, 3, 4, 5, 6, 7, 8, 9] rfl
    have hDc := hD.sub (ws' := [(mo, .inr (6, [.int 0, .int 0, .int 0, .int 0, .ref m4, .ref m5, .ref m6, .ref m7, .ref m8, .ref m9, .ref m10, .ref m11, .ref m12, .int 1, .int 0, .int 0, .ref m16, .ref m17, .ref m18, .int 0, .int 0, .int 0, .int 0, .int 0, .int 0, .int 0, .int 0, .ref m27, .int 0, .ref m29, .ref m30, .ref m31])), (m4, .inl (y4, 700, .inl (fun _ => 0))), (m5, .inl (y5, 700, .inl (fun _ => 0))), (m6, .inl (y6, 700, .inl (fun _ => 0))), (m7, .inl (y7, 96, .inl (fun _ => 0))), (m8, .inl (y8, 2, .inl (upd (upd (fun _ => 0) 0 2) 1 2))), (m9, .inl (y9, 2, .inl (fun _ => 0))), (m10, .inl (y10, 2, .inl (fun _ => 0))), (m11, .inl (y11, 2, .inl (upd (upd (fun _ => 0) 0 (-1)) 1 (-1)))), (m12, .inl (y12, 4, .inl (fun _ => 0)))]) [0, 1, 2, 3, 4, 5, 6, 7, 8, 9] (by decide) rfl
    have hKc := hK.sub (tys' := [(y4, .int), (y5, .int), (y6, .int), (y7, .int), (y8, .int), (y9, .int), (y10, .boolean), (y11, .int), (y12, .boolean)]) [3, 4, 5, 6, 7, 8, 9, 10, 11] rfl
    have hFc := va_free (wc := [(mo, .inr (6, [.int 0, .int 0, .int 0, .int 0, .ref m4, .ref m5, .ref m6, .ref m7, .ref m8, .ref m9, .ref m10, .ref m11, .ref m12, .int 1, .int 0, .int 0, .ref m16, .ref m17, .ref m18, .int 0, .int 0, .int 0, .int 0, .int 0, .int 0, .int 0, .int 0, .ref m27, .int 0, .ref m29, .ref m30, .ref m31])), (m4, .inl (y4, 700, .inl (fun _ => 0))), (m5, .inl (y5, 700, .inl (fun _ => 0))), (m6, .inl (y6, 700, .inl (fun _ => 0))), (m7, .inl (y7, 96, .inl (fun _ => 0))), (m8, .inl (y8, 2, .inl (upd (upd (fun _ => 0) 0 2) 1 2))), (m9, .inl (y9, 2, .inl (fun _ => 0))), (m10, .inl (y10, 2, .inl (fun _ => 0))), (m11, .inl (y11, 2, .inl (upd (upd (fun _ => 0) 0 (-1)) 1 (-1)))), (m12, .inl (y12, 4, .inl (fun _ => 0)))]) hD hS hA [0, 1, 2, 3, 4, 5, 6, 7, 8, 9] rfl
    refine va_callv (va_runV (As := [.int v1]) (rest := []) ⟨hx, hb, hml, hown, hts⟩ (m_shutX l dC dI _ mo m4 m5 m6 m7 m8 m9 m10 m11 m12 m16 m17 m18 m27 m29 m30 m31 y4 y5 y6 y7 y8 y9 y10 y11 y12 v1 hok) (cwV 1 hts gk_X8_shut rfl rfl rfl (by decide +kernel) ⟨Nat.le_of_ble_eq_true rfl, Nat.le_of_ble_eq_true rfl⟩) ⟨pt_blindQ, va_recv hK hP (ci := 6) (q0 := 0) rfl rfl, pt_preQ hPc hKc hDc hN⟩ rfl rfl hl.1 rfl (lv_room (Nat.le_of_ble_eq_true rfl)) dL_law_211 ⟨Nat.le_of_ble_eq_true rfl, Nat.le_of_ble_eq_true rfl⟩) hS (fun q _ h => hFc q h) hFc (fun u_8 t H1 locs ht hvm hw_8 hB hz1 hk1 hS => ?_)
    obtain ⟨hP1, hK1, hD1⟩ := hB
    rw [ht] at hP1
    have hK1 := va_K.moved hvm.symm hK1
    obtain ⟨hP, hD⟩ := va_join (wr := [(ot, .inl (cL, 1, .inr (.inl (fun _ => 0))))]) (w1 := [(mo, .inr (6, .int u_8.1 :: u_8.2))]) hP hD [0, 1, 2, 3, 4, 5, 6, 7, 8, 9] [10] rfl rfl (by decide) (by decide) hk1 hFc hP1 hD1
    have hK := hK.app hK1
    generalize H1 = H at hP hS ⊢
    have hP : va_P (dC, dI) vwCl [(ot, .inl (cL, 1, .inr (.inl (fun _ => 0)))), (mo, .inr (6, .int u_8.1 :: u_8.2))] H := hP
    have hD : va_D (fun q : Nat => s.heap.size ≤ q) [(ot, .inl (cL, 1, .inr (.inl (fun _ => 0)))), (mo, .inr (6, .int u_8.1 :: u_8.2))] := hD
    have hK : va_K (dC, dI) vwCl [(cI, .int), (cZ, .boolean), (cB, .object "ParkTower$Bay"), (y4, .int), (y5, .int), (y6, .int), (y7, .int), (y8, .int), (y9, .int), (y10, .boolean), (y11, .int), (y12, .boolean), (cL, .long)] s := hK
    refine W.widen (k := 37) (n := 2564) (by omega) (by omega) ?_
    refine lv_aload_n hx hb dL_law_214 rfl (lv_at hl 3 rfl) ?_
    refine pt_cSi (va_runV (As := []) (rest := []) ⟨hx, hb, hml, hown, hts⟩ (c_thrown l dC dI mo u_8.1 u_8.2) (cwV 0 hts gk_X8_thrown rfl rfl rfl (by decide +kernel) ⟨Nat.le_of_ble_eq_true rfl, Nat.le_of_ble_eq_true rfl⟩) ⟨pt_blind, va_recv hK hP (ci := 6) (q0 := 1) rfl rfl, pt_pre (w := [(mo, .inr (6, .int u_8.1 :: u_8.2))]) (tys := []) (hP.sub [1] rfl) (hK.sub [] rfl) hN⟩ rfl rfl hl.1 rfl (lv_room (Nat.le_of_ble_eq_true rfl)) dL_law_215 ⟨Nat.le_of_ble_eq_true rfl, Nat.le_of_ble_eq_true rfl⟩) (fun r_9 hr_9 => ?_)
    obtain rfl : r_9 = 1 := hr_9.trans hw_8
    refine lv_iload hx hb dL_law_218 (lv_at hl 0 rfl) ?_
    refine lv_icmp_eq (tgt := 225) hx hb dL_law_220 (by decide) (fun _ => ?_) (fun c => absurd (by decide) c)
    refine lv_goto (tgt := 824) hx hb dL_law_225 (by decide) ?_
    exact law_end l C0 (Nat.le_of_ble_eq_true rfl) (Nat.le_of_ble_eq_true rfl) hS ls (lv_sub hl [1, 5] rfl)
set_option maxHeartbeats 4000000 in
set_option maxRecDepth 100000 in
theorem law_person {p : Program} {e : Env} {s : State} {m : MethodId} {below : List Frame} {meth : Method} {c : Code} (l : Launch) (hlt : l.stackTraces = false) {b : Nat} {xs : Nat → Int32} (C0 : lw_At p s m meth c b 5 xs) (dC : Nat → ClassId) (dI : Nat → Nat → Nat) (x rk hd jm bs b0 b1 od o1 o2 o3 jb pl ap : Nat) (cI cZ cB : ClassId) (mo m4 m5 m6 m7 m8 m9 m10 m11 m12 m16 m17 m18 m27 m29 m30 m31 : Nat) (y4 y5 y6 y7 y8 y9 y10 y11 y12 : ClassId) (ot : Nat) (cL : ClassId) (H : Heap) (locs : List Loc) (hN : pt_N s) (hE : pt_E s) (hZ : pt_Z s.heap.size s s.heap) (hK : va_K (dC, dI) vwCl [(cI, .int), (cZ, .boolean), (cB, .object "ParkTower$Bay"), (y4, .int), (y5, .int), (y6, .int), (y7, .int), (y8, .int), (y9, .int), (y10, .boolean), (y11, .int), (y12, .boolean), (cL, .long)] s) (hP : va_P (dC, dI) vwCl [(x, .inr (5, [.ref rk, .ref bs, .ref od, .ref jb, .ref ap, .int 0, .int 1, .int 0, .int 0, .int 0])), (rk, .inr (4, [.ref hd, .ref jm])), (hd, .inl (cI, 96, .inl (fun _ => 0))), (jm, .inl (cZ, 4, .inl (fun _ => 0))), (bs, .inl (cB, 2, .inr (.inr (.inr (.inr (va_up (va_up (fun _ => none) 0 (some b0)) 1 (some b1))))))), (b0, .inr (0, [.int 2, .int 0, .int 0, .int 0, .int 0, .int (-1)])), (b1, .inr (0, [.int 2, .int 0, .int 0, .int 0, .int 0, .int (-1)])), (od, .inr (2, [.ref o1, .ref o2, .ref o3, .int 0])), (jb, .inr (1, [.ref pl, .int (-1), .int 0, .int 0, .int 0])), (mo, .inr (6, [.int 0, .int 0, .int 0, .int 0, .ref m4, .ref m5, .ref m6, .ref m7, .ref m8, .ref m9, .ref m10, .ref m11, .ref m12, .int 1, .int 0, .int 0, .ref m16, .ref m17, .ref m18, .int 0, .int 0, .int 0, .int 0, .int 0, .int 0, .int 0, .int 0, .ref m27, .int 0, .ref m29, .ref m30, .ref m31])), (m4, .inl (y4, 700, .inl (fun _ => 0))), (m5, .inl (y5, 700, .inl (fun _ => 0))), (m6, .inl (y6, 700, .inl (fun _ => 0))), (m7, .inl (y7, 96, .inl (fun _ => 0))), (m8, .inl (y8, 2, .inl (upd (upd (fun _ => 0) 0 2) 1 2))), (m9, .inl (y9, 2, .inl (fun _ => 0))), (m10, .inl (y10, 2, .inl (fun _ => 0))), (m11, .inl (y11, 2, .inl (upd (upd (fun _ => 0) 0 (-1)) 1 (-1)))), (m12, .inl (y12, 4, .inl (fun _ => 0))), (ot, .inl (cL, 1, .inr (.inl (fun _ => 0))))] H) (hD : va_D (fun q : Nat => s.heap.size ≤ q) [(x, .inr (5, [.ref rk, .ref bs, .ref od, .ref jb, .ref ap, .int 0, .int 1, .int 0, .int 0, .int 0])), (rk, .inr (4, [.ref hd, .ref jm])), (hd, .inl (cI, 96, .inl (fun _ => 0))), (jm, .inl (cZ, 4, .inl (fun _ => 0))), (bs, .inl (cB, 2, .inr (.inr (.inr (.inr (va_up (va_up (fun _ => none) 0 (some b0)) 1 (some b1))))))), (b0, .inr (0, [.int 2, .int 0, .int 0, .int 0, .int 0, .int (-1)])), (b1, .inr (0, [.int 2, .int 0, .int 0, .int 0, .int 0, .int (-1)])), (od, .inr (2, [.ref o1, .ref o2, .ref o3, .int 0])), (jb, .inr (1, [.ref pl, .int (-1), .int 0, .int 0, .int 0])), (mo, .inr (6, [.int 0, .int 0, .int 0, .int 0, .ref m4, .ref m5, .ref m6, .ref m7, .ref m8, .ref m9, .ref m10, .ref m11, .ref m12, .int 1, .int 0, .int 0, .ref m16, .ref m17, .ref m18, .int 0, .int 0, .int 0, .int 0, .int 0, .int 0, .int 0, .int 0, .ref m27, .int 0, .ref m29, .ref m30, .ref m31])), (m4, .inl (y4, 700, .inl (fun _ => 0))), (m5, .inl (y5, 700, .inl (fun _ => 0))), (m6, .inl (y6, 700, .inl (fun _ => 0))), (m7, .inl (y7, 96, .inl (fun _ => 0))), (m8, .inl (y8, 2, .inl (upd (upd (fun _ => 0) 0 2) 1 2))), (m9, .inl (y9, 2, .inl (fun _ => 0))), (m10, .inl (y10, 2, .inl (fun _ => 0))), (m11, .inl (y11, 2, .inl (upd (upd (fun _ => 0) 0 (-1)) 1 (-1)))), (m12, .inl (y12, 4, .inl (fun _ => 0))), (ot, .inl (cL, 1, .inr (.inl (fun _ => 0))))]) (hS : va_S (fun q : Nat => s.heap.size ≤ q) s.heap H locs) (ls : Array Slot) (hl : lv_has ls 7 [(4, .int 0), (3, .ref ot), (2, .ref mo), (1, .ref x), (0, .ref b)]) : W p l e room_1 s m #[Value.ref b] below meth c H locs 36 2558 (lw_Z below #[Value.ref b] s) (F0 m 228 ls []) := by
  obtain ⟨hx, hb, hr, hml, hown, hts, hX, hbl, hlocks, hgv⟩ := id C0
  have hbA : ¬ (fun q : Nat => s.heap.size ≤ q) b := Nat.not_le.mpr hbl
  have hA : ∀ q : Nat, s.heap.size ≤ q → (fun q : Nat => s.heap.size ≤ q) q := fun _ h => h
  obtain ⟨v1, e1⟩ : ∃ z, xs 1 = z := ⟨_, rfl⟩
  obtain ⟨v2, e2⟩ : ∃ z, xs 2 = z := ⟨_, rfl⟩
  by_cases hz : v2 = 0
  · by_cases hok : v1 = 0 ∨ v1 = 1
    · rcases hok with rfl | rfl
      · skip
        refine lv_aload_n hx hb dL_law_228 rfl (lv_at hl 3 rfl) ?_
        refine lv_aload_n hx hb dL_law_229 rfl (lv_at hl 4 rfl) ?_
        refine lv_iload hx hb dL_law_230 (lv_at hl 0 rfl) ?_
        refine lv_iconst (v := 1) hx hb dL_law_232 (by decide) ?_
        refine lv_iadd hx hb dL_law_233 ?_
        refine pt_topi 1 (by decide) ?_
        refine va_sld hx hb hX hbl hbA hS (vp_in_iff.mpr (by decide)) dL_law_234 ?_
        refine pt_topi 0 e1 ?_
        refine lv_aload_n hx hb dL_law_235 rfl (lv_at hl 4 rfl) ?_
        refine lv_iload hx hb dL_law_236 (lv_at hl 0 rfl) ?_
        refine lv_iconst (v := 2) hx hb dL_law_238 (by decide) ?_
        refine lv_iadd hx hb dL_law_239 ?_
        refine pt_topi 2 (by decide) ?_
        refine va_sld hx hb hX hbl hbA hS (vp_in_iff.mpr (by decide)) dL_law_240 ?_
        refine pt_topi v2 e2 ?_
        refine lv_if_eq (tgt := 248) hx hb dL_law_241 (by decide) (fun _ => ?_) (fun c => absurd (by assumption) c)
        refine lv_iconst (v := 0) hx hb dL_law_248 (by decide) ?_
        have hPc := hP.sub (ws' := [(x, .inr (5, [.ref rk, .ref bs, .ref od, .ref jb, .ref ap, .int 0, .int 1, .int 0, .int 0, .int 0])), (rk, .inr (4, [.ref hd, .ref jm])), (hd, .inl (cI, 96, .inl (fun _ => 0))), (jm, .inl (cZ, 4, .inl (fun _ => 0))), (bs, .inl (cB, 2, .inr (.inr (.inr (.inr (va_up (va_up (fun _ => none) 0 (some b0)) 1 (some b1))))))), (b0, .inr (0, [.int 2, .int 0, .int 0, .int 0, .int 0, .int (-1)])), (b1, .inr (0, [.int 2, .int 0, .int 0, .int 0, .int 0, .int (-1)])), (od, .inr (2, [.ref o1, .ref o2, .ref o3, .int 0])), (jb, .inr (1, [.ref pl, .int (-1), .int 0, .int 0, .int 0]))]) [0, 1, 2, 3, 4, 5, 6, 7, 8] rfl
        have hDc := hD.sub (ws' := [(x, .inr (5, [.ref rk, .ref bs, .ref od, .ref jb, .ref ap, .int 0, .int 1, .int 0, .int 0, .int 0])), (rk, .inr (4, [.ref hd, .ref jm])), (hd, .inl (cI, 96, .inl (fun _ => 0))), (jm, .inl (cZ, 4, .inl (fun _ => 0))), (bs, .inl (cB, 2, .inr (.inr (.inr (.inr (va_up (va_up (fun _ => none) 0 (some b0)) 1 (some b1))))))), (b0, .inr (0, [.int 2, .int 0, .int 0, .int 0, .int 0, .int (-1)])), (b1, .inr (0, [.int 2, .int 0, .int 0, .int 0, .int 0, .int (-1)])), (od, .inr (2, [.ref o1, .ref o2, .ref o3, .int 0])), (jb, .inr (1, [.ref pl, .int (-1), .int 0, .int 0, .int 0]))]) [0, 1, 2, 3, 4, 5, 6, 7, 8] (by decide) rfl
        have hKc := hK.sub (tys' := [(cI, .int), (cZ, .boolean), (cB, .object "ParkTower$Bay")]) [0, 1, 2] rfl
        have hFc := va_free (wc := [(x, .inr (5, [.ref rk, .ref bs, .ref od, .ref jb, .ref ap, .int 0, .int 1, .int 0, .int 0, .int 0])), (rk, .inr (4, [.ref hd, .ref jm])), (hd, .inl (cI, 96, .inl (fun _ => 0))), (jm, .inl (cZ, 4, .inl (fun _ => 0))), (bs, .inl (cB, 2, .inr (.inr (.inr (.inr (va_up (va_up (fun _ => none) 0 (some b0)) 1 (some b1))))))), (b0, .inr (0, [.int 2, .int 0, .int 0, .int 0, .int 0, .int (-1)])), (b1, .inr (0, [.int 2, .int 0, .int 0, .int 0, .int 0, .int (-1)])), (od, .inr (2, [.ref o1, .ref o2, .ref o3, .int 0])), (jb, .inr (1, [.ref pl, .int (-1), .int 0, .int 0, .int 0]))]) hD hS hA [0, 1, 2, 3, 4, 5, 6, 7, 8] rfl
        refine va_calli (vx_runSW (As := [.ref x, .int 0, .int 0]) (rest := []) ⟨hx, hb, hml, hown, hts⟩ (w_person l hlt dC dI _ x rk hd jm bs b0 b1 od o1 o2 o3 jb pl ap cI cZ cB 0 0 (by decide)) (vx_cwSW 3 hts gk_L_person rfl rfl rfl (by decide +kernel) ⟨Nat.le_of_ble_eq_true rfl, Nat.le_of_ble_eq_true rfl⟩) ⟨pt_blindT, pt_preT hPc hKc hDc hN hE (pt_Z.up hZ (fun q h1 h2 => hS.2.1 q h1 h2) hS.1)⟩ rfl rfl hl.1 rfl (lv_room (Nat.le_of_ble_eq_true rfl)) dL_law_249 ⟨Nat.le_of_ble_eq_true rfl, Nat.le_of_ble_eq_true rfl⟩) hS (fun q _ h => hFc q h) hFc (fun r_1 u_1 t H1 locs ht hvm hw_1 hB hz1 hk1 hS => ?_)
        obtain ⟨hP1, hK1, hD1⟩ := hB
        rw [ht] at hP1
        have hK1 := va_K.moved hvm.symm hK1
        obtain ⟨hP, hD⟩ := va_join (wr := [(mo, .inr (6, [.int 0, .int 0, .int 0, .int 0, .ref m4, .ref m5, .ref m6, .ref m7, .ref m8, .ref m9, .ref m10, .ref m11, .ref m12, .int 1, .int 0, .int 0, .ref m16, .ref m17, .ref m18, .int 0, .int 0, .int 0, .int 0, .int 0, .int 0, .int 0, .int 0, .ref m27, .int 0, .ref m29, .ref m30, .ref m31])), (m4, .inl (y4, 700, .inl (fun _ => 0))), (m5, .inl (y5, 700, .inl (fun _ => 0))), (m6, .inl (y6, 700, .inl (fun _ => 0))), (m7, .inl (y7, 96, .inl (fun _ => 0))), (m8, .inl (y8, 2, .inl (upd (upd (fun _ => 0) 0 2) 1 2))), (m9, .inl (y9, 2, .inl (fun _ => 0))), (m10, .inl (y10, 2, .inl (fun _ => 0))), (m11, .inl (y11, 2, .inl (upd (upd (fun _ => 0) 0 (-1)) 1 (-1)))), (m12, .inl (y12, 4, .inl (fun _ => 0))), (ot, .inl (cL, 1, .inr (.inl (fun _ => 0))))]) (w1 := []) hP hD [0, 1, 2, 3, 4, 5, 6, 7, 8] [9, 10, 11, 12, 13, 14, 15, 16, 17, 18, 19] rfl rfl (by decide) (by decide) hk1 hFc hP1 hD1
        have hK := hK.app hK1
        generalize H1 = H at hP hS ⊢
        have hP : va_P (dC, dI) vwCl [(mo, .inr (6, [.int 0, .int 0, .int 0, .int 0, .ref m4, .ref m5, .ref m6, .ref m7, .ref m8, .ref m9, .ref m10, .ref m11, .ref m12, .int 1, .int 0, .int 0, .ref m16, .ref m17, .ref m18, .int 0, .int 0, .int 0, .int 0, .int 0, .int 0, .int 0, .int 0, .ref m27, .int 0, .ref m29, .ref m30, .ref m31])), (m4, .inl (y4, 700, .inl (fun _ => 0))), (m5, .inl (y5, 700, .inl (fun _ => 0))), (m6, .inl (y6, 700, .inl (fun _ => 0))), (m7, .inl (y7, 96, .inl (fun _ => 0))), (m8, .inl (y8, 2, .inl (upd (upd (fun _ => 0) 0 2) 1 2))), (m9, .inl (y9, 2, .inl (fun _ => 0))), (m10, .inl (y10, 2, .inl (fun _ => 0))), (m11, .inl (y11, 2, .inl (upd (upd (fun _ => 0) 0 (-1)) 1 (-1)))), (m12, .inl (y12, 4, .inl (fun _ => 0))), (ot, .inl (cL, 1, .inr (.inl (fun _ => 0))))] H := hP
        have hD : va_D (fun q : Nat => s.heap.size ≤ q) [(mo, .inr (6, [.int 0, .int 0, .int 0, .int 0, .ref m4, .ref m5, .ref m6, .ref m7, .ref m8, .ref m9, .ref m10, .ref m11, .ref m12, .int 1, .int 0, .int 0, .ref m16, .ref m17, .ref m18, .int 0, .int 0, .int 0, .int 0, .int 0, .int 0, .int 0, .int 0, .ref m27, .int 0, .ref m29, .ref m30, .ref m31])), (m4, .inl (y4, 700, .inl (fun _ => 0))), (m5, .inl (y5, 700, .inl (fun _ => 0))), (m6, .inl (y6, 700, .inl (fun _ => 0))), (m7, .inl (y7, 96, .inl (fun _ => 0))), (m8, .inl (y8, 2, .inl (upd (upd (fun _ => 0) 0 2) 1 2))), (m9, .inl (y9, 2, .inl (fun _ => 0))), (m10, .inl (y10, 2, .inl (fun _ => 0))), (m11, .inl (y11, 2, .inl (upd (upd (fun _ => 0) 0 (-1)) 1 (-1)))), (m12, .inl (y12, 4, .inl (fun _ => 0))), (ot, .inl (cL, 1, .inr (.inl (fun _ => 0))))] := hD
        have hK : va_K (dC, dI) vwCl [(cI, .int), (cZ, .boolean), (cB, .object "ParkTower$Bay"), (y4, .int), (y5, .int), (y6, .int), (y7, .int), (y8, .int), (y9, .int), (y10, .boolean), (y11, .int), (y12, .boolean), (cL, .long)] s := hK
        refine W.widen (k := 37) (n := 2564) (by omega) (by omega) ?_
        obtain rfl : r_1 = 0 := hw_1.trans (if_pos (by decide))
        refine lv_istore (lv' := [(5, .int 0), (4, .int 0), (3, .ref ot), (2, .ref mo), (1, .ref x), (0, .ref b)]) hx hb dL_law_252 hl (by decide) rfl (fun ls hl => ?_)
        refine lv_aload_n hx hb dL_law_254 rfl (lv_at hl 3 rfl) ?_
        refine lv_aload_n hx hb dL_law_255 rfl (lv_at hl 5 rfl) ?_
        refine lv_iload hx hb dL_law_256 (lv_at hl 1 rfl) ?_
        refine lv_iconst (v := 1) hx hb dL_law_258 (by decide) ?_
        refine lv_iadd hx hb dL_law_259 ?_
        refine pt_topi 1 (by decide) ?_
        refine va_sld hx hb hX hbl hbA hS (vp_in_iff.mpr (by decide)) dL_law_260 ?_
        refine pt_topi 0 e1 ?_
        refine lv_aload_n hx hb dL_law_261 rfl (lv_at hl 5 rfl) ?_
        refine lv_iload hx hb dL_law_262 (lv_at hl 1 rfl) ?_
        refine lv_iconst (v := 2) hx hb dL_law_264 (by decide) ?_
        refine lv_iadd hx hb dL_law_265 ?_
        refine pt_topi 2 (by decide) ?_
        refine va_sld hx hb hX hbl hbA hS (vp_in_iff.mpr (by decide)) dL_law_266 ?_
        refine pt_topi v2 e2 ?_
        refine lv_if_eq (tgt := 274) hx hb dL_law_267 (by decide) (fun _ => ?_) (fun c => absurd (by assumption) c)
        refine lv_iconst (v := 0) hx hb dL_law_274 (by decide) ?_
        have hPc := hP.sub (ws' := [(mo, .inr (6, [.int 0, .int 0, .int 0, .int 0, .ref m4, .ref m5, .ref m6, .ref m7, .ref m8, .ref m9, .ref m10, .ref m11, .ref m12, .int 1, .int 0, .int 0, .ref m16, .ref m17, .ref m18, .int 0, .int 0, .int 0, .int 0, .int 0, .int 0, .int 0, .int 0, .ref m27, .int 0, .ref m29, .ref m30, .ref m31])), (m4, .inl (y4, 700, .inl (fun _ => 0))), (m5, .inl (y5, 700, .inl (fun _ => 0))), (m6, .inl (y6, 700, .inl (fun _ => 0))), (m7, .inl (y7, 96, .inl (fun _ => 0))), (m8, .inl (y8, 2, .inl (upd (upd (fun _ => 0) 0 2) 1 2))), (m9, .inl (y9, 2, .inl (fun _ => 0))), (m10, .inl (y10, 2, .inl (fun _ => 0))), (m11, .inl (y11, 2, .inl (upd (upd (fun _ => 0) 0 (-1)) 1 (-1)))), (m12, .inl (y12, 4, .inl (fun _ => 0)))]) [0, 1, 2, 3, 4, 5, 6, 7, 8, 9] rfl
        have hDc := hD.sub (ws' := [(mo, .inr (6, [.int 0, .int 0, .int 0, .int 0, .ref m4, .ref m5, .ref m6, .ref m7, .ref m8, .ref m9, .ref m10, .ref m11, .ref m12, .int 1, .int 0, .int 0, .ref m16, .ref m17, .ref m18, .int 0, .int 0, .int 0, .int 0, .int 0, .int 0, .int 0, .int 0, .ref m27, .int 0, .ref m29, .ref m30, .ref m31])), (m4, .inl (y4, 700, .inl (fun _ => 0))), (m5, .inl (y5, 700, .inl (fun _ => 0))), (m6, .inl (y6, 700, .inl (fun _ => 0))), (m7, .inl (y7, 96, .inl (fun _ => 0))), (m8, .inl (y8, 2, .inl (upd (upd (fun _ => 0) 0 2) 1 2))), (m9, .inl (y9, 2, .inl (fun _ => 0))), (m10, .inl (y10, 2, .inl (fun _ => 0))), (m11, .inl (y11, 2, .inl (upd (upd (fun _ => 0) 0 (-1)) 1 (-1)))), (m12, .inl (y12, 4, .inl (fun _ => 0)))]) [0, 1, 2, 3, 4, 5, 6, 7, 8, 9] (by decide) rfl
        have hKc := hK.sub (tys' := [(y4, .int), (y5, .int), (y6, .int), (y7, .int), (y8, .int), (y9, .int), (y10, .boolean), (y11, .int), (y12, .boolean)]) [3, 4, 5, 6, 7, 8, 9, 10, 11] rfl
        have hFc := va_free (wc := [(mo, .inr (6, [.int 0, .int 0, .int 0, .int 0, .ref m4, .ref m5, .ref m6, .ref m7, .ref m8, .ref m9, .ref m10, .ref m11, .ref m12, .int 1, .int 0, .int 0, .ref m16, .ref m17, .ref m18, .int 0, .int 0, .int 0, .int 0, .int 0, .int 0, .int 0, .int 0, .ref m27, .int 0, .ref m29, .ref m30, .ref m31])), (m4, .inl (y4, 700, .inl (fun _ => 0))), (m5, .inl (y5, 700, .inl (fun _ => 0))), (m6, .inl (y6, 700, .inl (fun _ => 0))), (m7, .inl (y7, 96, .inl (fun _ => 0))), (m8, .inl (y8, 2, .inl (upd (upd (fun _ => 0) 0 2) 1 2))), (m9, .inl (y9, 2, .inl (fun _ => 0))), (m10, .inl (y10, 2, .inl (fun _ => 0))), (m11, .inl (y11, 2, .inl (upd (upd (fun _ => 0) 0 (-1)) 1 (-1)))), (m12, .inl (y12, 4, .inl (fun _ => 0)))]) hD hS hA [0, 1, 2, 3, 4, 5, 6, 7, 8, 9] rfl
        refine va_callv (va_runV (As := [.int 0, .int 0]) (rest := []) ⟨hx, hb, hml, hown, hts⟩ (m_person00 l dC dI _ mo m4 m5 m6 m7 m8 m9 m10 m11 m12 m16 m17 m18 m27 m29 m30 m31 y4 y5 y6 y7 y8 y9 y10 y11 y12) (cwV 2 hts gk_X8_person rfl rfl rfl (by decide +kernel) ⟨Nat.le_of_ble_eq_true rfl, Nat.le_of_ble_eq_true rfl⟩) ⟨pt_blindQ, va_recv hK hP (ci := 6) (q0 := 0) rfl rfl, pt_preQ hPc hKc hDc hN⟩ rfl rfl hl.1 rfl (lv_room (Nat.le_of_ble_eq_true rfl)) dL_law_275 ⟨Nat.le_of_ble_eq_true rfl, Nat.le_of_ble_eq_true rfl⟩) hS (fun q _ h => hFc q h) hFc (fun u_2 t H1 locs ht hvm hw_2 hB hz1 hk1 hS => ?_)
        obtain ⟨hP1, hK1, hD1⟩ := hB
        rw [ht] at hP1
        have hK1 := va_K.moved hvm.symm hK1
        obtain ⟨hP, hD⟩ := va_join (wr := [(ot, .inl (cL, 1, .inr (.inl (fun _ => 0))))]) (w1 := [(mo, .inr (6, .int u_2.1 :: u_2.2))]) hP hD [0, 1, 2, 3, 4, 5, 6, 7, 8, 9] [10] rfl rfl (by decide) (by decide) hk1 hFc hP1 hD1
        have hK := hK.app hK1
        generalize H1 = H at hP hS ⊢
        have hP : va_P (dC, dI) vwCl [(ot, .inl (cL, 1, .inr (.inl (fun _ => 0)))), (mo, .inr (6, .int u_2.1 :: u_2.2))] H := hP
        have hD : va_D (fun q : Nat => s.heap.size ≤ q) [(ot, .inl (cL, 1, .inr (.inl (fun _ => 0)))), (mo, .inr (6, .int u_2.1 :: u_2.2))] := hD
        have hK : va_K (dC, dI) vwCl [(cI, .int), (cZ, .boolean), (cB, .object "ParkTower$Bay"), (y4, .int), (y5, .int), (y6, .int), (y7, .int), (y8, .int), (y9, .int), (y10, .boolean), (y11, .int), (y12, .boolean), (cL, .long)] s := hK
        refine W.widen (k := 37) (n := 2564) (by omega) (by omega) ?_
        refine lv_aload_n hx hb dL_law_278 rfl (lv_at hl 3 rfl) ?_
        refine pt_cSi (va_runV (As := []) (rest := []) ⟨hx, hb, hml, hown, hts⟩ (c_thrown l dC dI mo u_2.1 u_2.2) (cwV 0 hts gk_X8_thrown rfl rfl rfl (by decide +kernel) ⟨Nat.le_of_ble_eq_true rfl, Nat.le_of_ble_eq_true rfl⟩) ⟨pt_blind, va_recv hK hP (ci := 6) (q0 := 1) rfl rfl, pt_pre (w := [(mo, .inr (6, .int u_2.1 :: u_2.2))]) (tys := []) (hP.sub [1] rfl) (hK.sub [] rfl) hN⟩ rfl rfl hl.1 rfl (lv_room (Nat.le_of_ble_eq_true rfl)) dL_law_279 ⟨Nat.le_of_ble_eq_true rfl, Nat.le_of_ble_eq_true rfl⟩) (fun r_3 hr_3 => ?_)
        obtain rfl : r_3 = 0 := hr_3.trans hw_2
        refine lv_iload hx hb dL_law_282 (lv_at hl 0 rfl) ?_
        refine lv_icmp_eq (tgt := 289) hx hb dL_law_284 (by decide) (fun _ => ?_) (fun c => absurd (by decide) c)
        refine lv_goto (tgt := 824) hx hb dL_law_289 (by decide) ?_
        exact law_end l C0 (Nat.le_of_ble_eq_true rfl) (Nat.le_of_ble_eq_true rfl) hS ls (lv_sub hl [1, 5] rfl)
      · skip
        refine lv_aload_n hx hb dL_law_228 rfl (lv_at hl 3 rfl) ?_
        refine lv_aload_n hx hb dL_law_229 rfl (lv_at hl 4 rfl) ?_
        refine lv_iload hx hb dL_law_230 (lv_at hl 0 rfl) ?_
        refine lv_iconst (v := 1) hx hb dL_law_232 (by decide) ?_
        refine lv_iadd hx hb dL_law_233 ?_
        refine pt_topi 1 (by decide) ?_
        refine va_sld hx hb hX hbl hbA hS (vp_in_iff.mpr (by decide)) dL_law_234 ?_
        refine pt_topi 1 e1 ?_
        refine lv_aload_n hx hb dL_law_235 rfl (lv_at hl 4 rfl) ?_
        refine lv_iload hx hb dL_law_236 (lv_at hl 0 rfl) ?_
        refine lv_iconst (v := 2) hx hb dL_law_238 (by decide) ?_
        refine lv_iadd hx hb dL_law_239 ?_
        refine pt_topi 2 (by decide) ?_
        refine va_sld hx hb hX hbl hbA hS (vp_in_iff.mpr (by decide)) dL_law_240 ?_
        refine pt_topi v2 e2 ?_
        refine lv_if_eq (tgt := 248) hx hb dL_law_241 (by decide) (fun _ => ?_) (fun c => absurd (by assumption) c)
        refine lv_iconst (v := 0) hx hb dL_law_248 (by decide) ?_
        have hPc := hP.sub (ws' := [(x, .inr (5, [.ref rk, .ref bs, .ref od, .ref jb, .ref ap, .int 0, .int 1, .int 0, .int 0, .int 0])), (rk, .inr (4, [.ref hd, .ref jm])), (hd, .inl (cI, 96, .inl (fun _ => 0))), (jm, .inl (cZ, 4, .inl (fun _ => 0))), (bs, .inl (cB, 2, .inr (.inr (.inr (.inr (va_up (va_up (fun _ => none) 0 (some b0)) 1 (some b1))))))), (b0, .inr (0, [.int 2, .int 0, .int 0, .int 0, .int 0, .int (-1)])), (b1, .inr (0, [.int 2, .int 0, .int 0, .int 0, .int 0, .int (-1)])), (od, .inr (2, [.ref o1, .ref o2, .ref o3, .int 0])), (jb, .inr (1, [.ref pl, .int (-1), .int 0, .int 0, .int 0]))]) [0, 1, 2, 3, 4, 5, 6, 7, 8] rfl
        have hDc := hD.sub (ws' := [(x, .inr (5, [.ref rk, .ref bs, .ref od, .ref jb, .ref ap, .int 0, .int 1, .int 0, .int 0, .int 0])), (rk, .inr (4, [.ref hd, .ref jm])), (hd, .inl (cI, 96, .inl (fun _ => 0))), (jm, .inl (cZ, 4, .inl (fun _ => 0))), (bs, .inl (cB, 2, .inr (.inr (.inr (.inr (va_up (va_up (fun _ => none) 0 (some b0)) 1 (some b1))))))), (b0, .inr (0, [.int 2, .int 0, .int 0, .int 0, .int 0, .int (-1)])), (b1, .inr (0, [.int 2, .int 0, .int 0, .int 0, .int 0, .int (-1)])), (od, .inr (2, [.ref o1, .ref o2, .ref o3, .int 0])), (jb, .inr (1, [.ref pl, .int (-1), .int 0, .int 0, .int 0]))]) [0, 1, 2, 3, 4, 5, 6, 7, 8] (by decide) rfl
        have hKc := hK.sub (tys' := [(cI, .int), (cZ, .boolean), (cB, .object "ParkTower$Bay")]) [0, 1, 2] rfl
        have hFc := va_free (wc := [(x, .inr (5, [.ref rk, .ref bs, .ref od, .ref jb, .ref ap, .int 0, .int 1, .int 0, .int 0, .int 0])), (rk, .inr (4, [.ref hd, .ref jm])), (hd, .inl (cI, 96, .inl (fun _ => 0))), (jm, .inl (cZ, 4, .inl (fun _ => 0))), (bs, .inl (cB, 2, .inr (.inr (.inr (.inr (va_up (va_up (fun _ => none) 0 (some b0)) 1 (some b1))))))), (b0, .inr (0, [.int 2, .int 0, .int 0, .int 0, .int 0, .int (-1)])), (b1, .inr (0, [.int 2, .int 0, .int 0, .int 0, .int 0, .int (-1)])), (od, .inr (2, [.ref o1, .ref o2, .ref o3, .int 0])), (jb, .inr (1, [.ref pl, .int (-1), .int 0, .int 0, .int 0]))]) hD hS hA [0, 1, 2, 3, 4, 5, 6, 7, 8] rfl
        refine va_calli (vx_runSW (As := [.ref x, .int 1, .int 0]) (rest := []) ⟨hx, hb, hml, hown, hts⟩ (w_person l hlt dC dI _ x rk hd jm bs b0 b1 od o1 o2 o3 jb pl ap cI cZ cB 1 0 (by decide)) (vx_cwSW 3 hts gk_L_person rfl rfl rfl (by decide +kernel) ⟨Nat.le_of_ble_eq_true rfl, Nat.le_of_ble_eq_true rfl⟩) ⟨pt_blindT, pt_preT hPc hKc hDc hN hE (pt_Z.up hZ (fun q h1 h2 => hS.2.1 q h1 h2) hS.1)⟩ rfl rfl hl.1 rfl (lv_room (Nat.le_of_ble_eq_true rfl)) dL_law_249 ⟨Nat.le_of_ble_eq_true rfl, Nat.le_of_ble_eq_true rfl⟩) hS (fun q _ h => hFc q h) hFc (fun r_4 u_4 t H1 locs ht hvm hw_4 hB hz1 hk1 hS => ?_)
        obtain ⟨hP1, hK1, hD1⟩ := hB
        rw [ht] at hP1
        have hK1 := va_K.moved hvm.symm hK1
        obtain ⟨hP, hD⟩ := va_join (wr := [(mo, .inr (6, [.int 0, .int 0, .int 0, .int 0, .ref m4, .ref m5, .ref m6, .ref m7, .ref m8, .ref m9, .ref m10, .ref m11, .ref m12, .int 1, .int 0, .int 0, .ref m16, .ref m17, .ref m18, .int 0, .int 0, .int 0, .int 0, .int 0, .int 0, .int 0, .int 0, .ref m27, .int 0, .ref m29, .ref m30, .ref m31])), (m4, .inl (y4, 700, .inl (fun _ => 0))), (m5, .inl (y5, 700, .inl (fun _ => 0))), (m6, .inl (y6, 700, .inl (fun _ => 0))), (m7, .inl (y7, 96, .inl (fun _ => 0))), (m8, .inl (y8, 2, .inl (upd (upd (fun _ => 0) 0 2) 1 2))), (m9, .inl (y9, 2, .inl (fun _ => 0))), (m10, .inl (y10, 2, .inl (fun _ => 0))), (m11, .inl (y11, 2, .inl (upd (upd (fun _ => 0) 0 (-1)) 1 (-1)))), (m12, .inl (y12, 4, .inl (fun _ => 0))), (ot, .inl (cL, 1, .inr (.inl (fun _ => 0))))]) (w1 := []) hP hD [0, 1, 2, 3, 4, 5, 6, 7, 8] [9, 10, 11, 12, 13, 14, 15, 16, 17, 18, 19] rfl rfl (by decide) (by decide) hk1 hFc hP1 hD1
        have hK := hK.app hK1
        generalize H1 = H at hP hS ⊢
        have hP : va_P (dC, dI) vwCl [(mo, .inr (6, [.int 0, .int 0, .int 0, .int 0, .ref m4, .ref m5, .ref m6, .ref m7, .ref m8, .ref m9, .ref m10, .ref m11, .ref m12, .int 1, .int 0, .int 0, .ref m16, .ref m17, .ref m18, .int 0, .int 0, .int 0, .int 0, .int 0, .int 0, .int 0, .int 0, .ref m27, .int 0, .ref m29, .ref m30, .ref m31])), (m4, .inl (y4, 700, .inl (fun _ => 0))), (m5, .inl (y5, 700, .inl (fun _ => 0))), (m6, .inl (y6, 700, .inl (fun _ => 0))), (m7, .inl (y7, 96, .inl (fun _ => 0))), (m8, .inl (y8, 2, .inl (upd (upd (fun _ => 0) 0 2) 1 2))), (m9, .inl (y9, 2, .inl (fun _ => 0))), (m10, .inl (y10, 2, .inl (fun _ => 0))), (m11, .inl (y11, 2, .inl (upd (upd (fun _ => 0) 0 (-1)) 1 (-1)))), (m12, .inl (y12, 4, .inl (fun _ => 0))), (ot, .inl (cL, 1, .inr (.inl (fun _ => 0))))] H := hP
        have hD : va_D (fun q : Nat => s.heap.size ≤ q) [(mo, .inr (6, [.int 0, .int 0, .int 0, .int 0, .ref m4, .ref m5, .ref m6, .ref m7, .ref m8, .ref m9, .ref m10, .ref m11, .ref m12, .int 1, .int 0, .int 0, .ref m16, .ref m17, .ref m18, .int 0, .int 0, .int 0, .int 0, .int 0, .int 0, .int 0, .int 0, .ref m27, .int 0, .ref m29, .ref m30, .ref m31])), (m4, .inl (y4, 700, .inl (fun _ => 0))), (m5, .inl (y5, 700, .inl (fun _ => 0))), (m6, .inl (y6, 700, .inl (fun _ => 0))), (m7, .inl (y7, 96, .inl (fun _ => 0))), (m8, .inl (y8, 2, .inl (upd (upd (fun _ => 0) 0 2) 1 2))), (m9, .inl (y9, 2, .inl (fun _ => 0))), (m10, .inl (y10, 2, .inl (fun _ => 0))), (m11, .inl (y11, 2, .inl (upd (upd (fun _ => 0) 0 (-1)) 1 (-1)))), (m12, .inl (y12, 4, .inl (fun _ => 0))), (ot, .inl (cL, 1, .inr (.inl (fun _ => 0))))] := hD
        have hK : va_K (dC, dI) vwCl [(cI, .int), (cZ, .boolean), (cB, .object "ParkTower$Bay"), (y4, .int), (y5, .int), (y6, .int), (y7, .int), (y8, .int), (y9, .int), (y10, .boolean), (y11, .int), (y12, .boolean), (cL, .long)] s := hK
        refine W.widen (k := 37) (n := 2564) (by omega) (by omega) ?_
        obtain rfl : r_4 = 0 := hw_4.trans (if_pos (by decide))
        refine lv_istore (lv' := [(5, .int 0), (4, .int 0), (3, .ref ot), (2, .ref mo), (1, .ref x), (0, .ref b)]) hx hb dL_law_252 hl (by decide) rfl (fun ls hl => ?_)
        refine lv_aload_n hx hb dL_law_254 rfl (lv_at hl 3 rfl) ?_
        refine lv_aload_n hx hb dL_law_255 rfl (lv_at hl 5 rfl) ?_
        refine lv_iload hx hb dL_law_256 (lv_at hl 1 rfl) ?_
        refine lv_iconst (v := 1) hx hb dL_law_258 (by decide) ?_
        refine lv_iadd hx hb dL_law_259 ?_
        refine pt_topi 1 (by decide) ?_
        refine va_sld hx hb hX hbl hbA hS (vp_in_iff.mpr (by decide)) dL_law_260 ?_
        refine pt_topi 1 e1 ?_
        refine lv_aload_n hx hb dL_law_261 rfl (lv_at hl 5 rfl) ?_
        refine lv_iload hx hb dL_law_262 (lv_at hl 1 rfl) ?_
        refine lv_iconst (v := 2) hx hb dL_law_264 (by decide) ?_
        refine lv_iadd hx hb dL_law_265 ?_
        refine pt_topi 2 (by decide) ?_
        refine va_sld hx hb hX hbl hbA hS (vp_in_iff.mpr (by decide)) dL_law_266 ?_
        refine pt_topi v2 e2 ?_
        refine lv_if_eq (tgt := 274) hx hb dL_law_267 (by decide) (fun _ => ?_) (fun c => absurd (by assumption) c)
        refine lv_iconst (v := 0) hx hb dL_law_274 (by decide) ?_
        have hPc := hP.sub (ws' := [(mo, .inr (6, [.int 0, .int 0, .int 0, .int 0, .ref m4, .ref m5, .ref m6, .ref m7, .ref m8, .ref m9, .ref m10, .ref m11, .ref m12, .int 1, .int 0, .int 0, .ref m16, .ref m17, .ref m18, .int 0, .int 0, .int 0, .int 0, .int 0, .int 0, .int 0, .int 0, .ref m27, .int 0, .ref m29, .ref m30, .ref m31])), (m4, .inl (y4, 700, .inl (fun _ => 0))), (m5, .inl (y5, 700, .inl (fun _ => 0))), (m6, .inl (y6, 700, .inl (fun _ => 0))), (m7, .inl (y7, 96, .inl (fun _ => 0))), (m8, .inl (y8, 2, .inl (upd (upd (fun _ => 0) 0 2) 1 2))), (m9, .inl (y9, 2, .inl (fun _ => 0))), (m10, .inl (y10, 2, .inl (fun _ => 0))), (m11, .inl (y11, 2, .inl (upd (upd (fun _ => 0) 0 (-1)) 1 (-1)))), (m12, .inl (y12, 4, .inl (fun _ => 0)))]) [0, 1, 2, 3, 4, 5, 6, 7, 8, 9] rfl
        have hDc := hD.sub (ws' := [(mo, .inr (6, [.int 0, .int 0, .int 0, .int 0, .ref m4, .ref m5, .ref m6, .ref m7, .ref m8, .ref m9, .ref m10, .ref m11, .ref m12, .int 1, .int 0, .int 0, .ref m16, .ref m17, .ref m18, .int 0, .int 0, .int 0, .int 0, .int 0, .int 0, .int 0, .int 0, .ref m27, .int 0, .ref m29, .ref m30, .ref m31])), (m4, .inl (y4, 700, .inl (fun _ => 0))), (m5, .inl (y5, 700, .inl (fun _ => 0))), (m6, .inl (y6, 700, .inl (fun _ => 0))), (m7, .inl (y7, 96, .inl (fun _ => 0))), (m8, .inl (y8, 2, .inl (upd (upd (fun _ => 0) 0 2) 1 2))), (m9, .inl (y9, 2, .inl (fun _ => 0))), (m10, .inl (y10, 2, .inl (fun _ => 0))), (m11, .inl (y11, 2, .inl (upd (upd (fun _ => 0) 0 (-1)) 1 (-1)))), (m12, .inl (y12, 4, .inl (fun _ => 0)))]) [0, 1, 2, 3, 4, 5, 6, 7, 8, 9] (by decide) rfl
        have hKc := hK.sub (tys' := [(y4, .int), (y5, .int), (y6, .int), (y7, .int), (y8, .int), (y9, .int), (y10, .boolean), (y11, .int), (y12, .boolean)]) [3, 4, 5, 6, 7, 8, 9, 10, 11] rfl
        have hFc := va_free (wc := [(mo, .inr (6, [.int 0, .int 0, .int 0, .int 0, .ref m4, .ref m5, .ref m6, .ref m7, .ref m8, .ref m9, .ref m10, .ref m11, .ref m12, .int 1, .int 0, .int 0, .ref m16, .ref m17, .ref m18, .int 0, .int 0, .int 0, .int 0, .int 0, .int 0, .int 0, .int 0, .ref m27, .int 0, .ref m29, .ref m30, .ref m31])), (m4, .inl (y4, 700, .inl (fun _ => 0))), (m5, .inl (y5, 700, .inl (fun _ => 0))), (m6, .inl (y6, 700, .inl (fun _ => 0))), (m7, .inl (y7, 96, .inl (fun _ => 0))), (m8, .inl (y8, 2, .inl (upd (upd (fun _ => 0) 0 2) 1 2))), (m9, .inl (y9, 2, .inl (fun _ => 0))), (m10, .inl (y10, 2, .inl (fun _ => 0))), (m11, .inl (y11, 2, .inl (upd (upd (fun _ => 0) 0 (-1)) 1 (-1)))), (m12, .inl (y12, 4, .inl (fun _ => 0)))]) hD hS hA [0, 1, 2, 3, 4, 5, 6, 7, 8, 9] rfl
        refine va_callv (va_runV (As := [.int 1, .int 0]) (rest := []) ⟨hx, hb, hml, hown, hts⟩ (m_person10 l dC dI _ mo m4 m5 m6 m7 m8 m9 m10 m11 m12 m16 m17 m18 m27 m29 m30 m31 y4 y5 y6 y7 y8 y9 y10 y11 y12) (cwV 2 hts gk_X8_person rfl rfl rfl (by decide +kernel) ⟨Nat.le_of_ble_eq_true rfl, Nat.le_of_ble_eq_true rfl⟩) ⟨pt_blindQ, va_recv hK hP (ci := 6) (q0 := 0) rfl rfl, pt_preQ hPc hKc hDc hN⟩ rfl rfl hl.1 rfl (lv_room (Nat.le_of_ble_eq_true rfl)) dL_law_275 ⟨Nat.le_of_ble_eq_true rfl, Nat.le_of_ble_eq_true rfl⟩) hS (fun q _ h => hFc q h) hFc (fun u_5 t H1 locs ht hvm hw_5 hB hz1 hk1 hS => ?_)
        obtain ⟨hP1, hK1, hD1⟩ := hB
        rw [ht] at hP1
        have hK1 := va_K.moved hvm.symm hK1
        obtain ⟨hP, hD⟩ := va_join (wr := [(ot, .inl (cL, 1, .inr (.inl (fun _ => 0))))]) (w1 := [(mo, .inr (6, .int u_5.1 :: u_5.2))]) hP hD [0, 1, 2, 3, 4, 5, 6, 7, 8, 9] [10] rfl rfl (by decide) (by decide) hk1 hFc hP1 hD1
        have hK := hK.app hK1
        generalize H1 = H at hP hS ⊢
        have hP : va_P (dC, dI) vwCl [(ot, .inl (cL, 1, .inr (.inl (fun _ => 0)))), (mo, .inr (6, .int u_5.1 :: u_5.2))] H := hP
        have hD : va_D (fun q : Nat => s.heap.size ≤ q) [(ot, .inl (cL, 1, .inr (.inl (fun _ => 0)))), (mo, .inr (6, .int u_5.1 :: u_5.2))] := hD
        have hK : va_K (dC, dI) vwCl [(cI, .int), (cZ, .boolean), (cB, .object "ParkTower$Bay"), (y4, .int), (y5, .int), (y6, .int), (y7, .int), (y8, .int), (y9, .int), (y10, .boolean), (y11, .int), (y12, .boolean), (cL, .long)] s := hK
        refine W.widen (k := 37) (n := 2564) (by omega) (by omega) ?_
        refine lv_aload_n hx hb dL_law_278 rfl (lv_at hl 3 rfl) ?_
        refine pt_cSi (va_runV (As := []) (rest := []) ⟨hx, hb, hml, hown, hts⟩ (c_thrown l dC dI mo u_5.1 u_5.2) (cwV 0 hts gk_X8_thrown rfl rfl rfl (by decide +kernel) ⟨Nat.le_of_ble_eq_true rfl, Nat.le_of_ble_eq_true rfl⟩) ⟨pt_blind, va_recv hK hP (ci := 6) (q0 := 1) rfl rfl, pt_pre (w := [(mo, .inr (6, .int u_5.1 :: u_5.2))]) (tys := []) (hP.sub [1] rfl) (hK.sub [] rfl) hN⟩ rfl rfl hl.1 rfl (lv_room (Nat.le_of_ble_eq_true rfl)) dL_law_279 ⟨Nat.le_of_ble_eq_true rfl, Nat.le_of_ble_eq_true rfl⟩) (fun r_6 hr_6 => ?_)
        obtain rfl : r_6 = 0 := hr_6.trans hw_5
        refine lv_iload hx hb dL_law_282 (lv_at hl 0 rfl) ?_
        refine lv_icmp_eq (tgt := 289) hx hb dL_law_284 (by decide) (fun _ => ?_) (fun c => absurd (by decide) c)
        refine lv_goto (tgt := 824) hx hb dL_law_289 (by decide) ?_
        exact law_end l C0 (Nat.le_of_ble_eq_true rfl) (Nat.le_of_ble_eq_true rfl) hS ls (lv_sub hl [1, 5] rfl)
    · skip
      refine lv_aload_n hx hb dL_law_228 rfl (lv_at hl 3 rfl) ?_
      refine lv_aload_n hx hb dL_law_229 rfl (lv_at hl 4 rfl) ?_
      refine lv_iload hx hb dL_law_230 (lv_at hl 0 rfl) ?_
      refine lv_iconst (v := 1) hx hb dL_law_232 (by decide) ?_
      refine lv_iadd hx hb dL_law_233 ?_
      refine pt_topi 1 (by decide) ?_
      refine va_sld hx hb hX hbl hbA hS (vp_in_iff.mpr (by decide)) dL_law_234 ?_
      refine pt_topi v1 e1 ?_
      refine lv_aload_n hx hb dL_law_235 rfl (lv_at hl 4 rfl) ?_
      refine lv_iload hx hb dL_law_236 (lv_at hl 0 rfl) ?_
      refine lv_iconst (v := 2) hx hb dL_law_238 (by decide) ?_
      refine lv_iadd hx hb dL_law_239 ?_
      refine pt_topi 2 (by decide) ?_
      refine va_sld hx hb hX hbl hbA hS (vp_in_iff.mpr (by decide)) dL_law_240 ?_
      refine pt_topi v2 e2 ?_
      refine lv_if_eq (tgt := 248) hx hb dL_law_241 (by decide) (fun _ => ?_) (fun c => absurd (by assumption) c)
      refine lv_iconst (v := 0) hx hb dL_law_248 (by decide) ?_
      have hPc := hP.sub (ws' := [(x, .inr (5, [.ref rk, .ref bs, .ref od, .ref jb, .ref ap, .int 0, .int 1, .int 0, .int 0, .int 0])), (rk, .inr (4, [.ref hd, .ref jm])), (hd, .inl (cI, 96, .inl (fun _ => 0))), (jm, .inl (cZ, 4, .inl (fun _ => 0))), (bs, .inl (cB, 2, .inr (.inr (.inr (.inr (va_up (va_up (fun _ => none) 0 (some b0)) 1 (some b1))))))), (b0, .inr (0, [.int 2, .int 0, .int 0, .int 0, .int 0, .int (-1)])), (b1, .inr (0, [.int 2, .int 0, .int 0, .int 0, .int 0, .int (-1)])), (od, .inr (2, [.ref o1, .ref o2, .ref o3, .int 0])), (jb, .inr (1, [.ref pl, .int (-1), .int 0, .int 0, .int 0]))]) [0, 1, 2, 3, 4, 5, 6, 7, 8] rfl
      have hDc := hD.sub (ws' := [(x, .inr (5, [.ref rk, .ref bs, .ref od, .ref jb, .ref ap, .int 0, .int 1, .int 0, .int 0, .int 0])), (rk, .inr (4, [.ref hd, .ref jm])), (hd, .inl (cI, 96, .inl (fun _ => 0))), (jm, .inl (cZ, 4, .inl (fun _ => 0))), (bs, .inl (cB, 2, .inr (.inr (.inr (.inr (va_up (va_up (fun _ => none) 0 (some b0)) 1 (some b1))))))), (b0, .inr (0, [.int 2, .int 0, .int 0, .int 0, .int 0, .int (-1)])), (b1, .inr (0, [.int 2, .int 0, .int 0, .int 0, .int 0, .int (-1)])), (od, .inr (2, [.ref o1, .ref o2, .ref o3, .int 0])), (jb, .inr (1, [.ref pl, .int (-1), .int 0, .int 0, .int 0]))]) [0, 1, 2, 3, 4, 5, 6, 7, 8] (by decide) rfl
      have hKc := hK.sub (tys' := [(cI, .int), (cZ, .boolean), (cB, .object "ParkTower$Bay")]) [0, 1, 2] rfl
      have hFc := va_free (wc := [(x, .inr (5, [.ref rk, .ref bs, .ref od, .ref jb, .ref ap, .int 0, .int 1, .int 0, .int 0, .int 0])), (rk, .inr (4, [.ref hd, .ref jm])), (hd, .inl (cI, 96, .inl (fun _ => 0))), (jm, .inl (cZ, 4, .inl (fun _ => 0))), (bs, .inl (cB, 2, .inr (.inr (.inr (.inr (va_up (va_up (fun _ => none) 0 (some b0)) 1 (some b1))))))), (b0, .inr (0, [.int 2, .int 0, .int 0, .int 0, .int 0, .int (-1)])), (b1, .inr (0, [.int 2, .int 0, .int 0, .int 0, .int 0, .int (-1)])), (od, .inr (2, [.ref o1, .ref o2, .ref o3, .int 0])), (jb, .inr (1, [.ref pl, .int (-1), .int 0, .int 0, .int 0]))]) hD hS hA [0, 1, 2, 3, 4, 5, 6, 7, 8] rfl
      refine va_calli (vx_runSW (As := [.ref x, .int v1, .int 0]) (rest := []) ⟨hx, hb, hml, hown, hts⟩ (w_person l hlt dC dI _ x rk hd jm bs b0 b1 od o1 o2 o3 jb pl ap cI cZ cB v1 0 (by decide)) (vx_cwSW 3 hts gk_L_person rfl rfl rfl (by decide +kernel) ⟨Nat.le_of_ble_eq_true rfl, Nat.le_of_ble_eq_true rfl⟩) ⟨pt_blindT, pt_preT hPc hKc hDc hN hE (pt_Z.up hZ (fun q h1 h2 => hS.2.1 q h1 h2) hS.1)⟩ rfl rfl hl.1 rfl (lv_room (Nat.le_of_ble_eq_true rfl)) dL_law_249 ⟨Nat.le_of_ble_eq_true rfl, Nat.le_of_ble_eq_true rfl⟩) hS (fun q _ h => hFc q h) hFc (fun r_7 u_7 t H1 locs ht hvm hw_7 hB hz1 hk1 hS => ?_)
      obtain ⟨hP1, hK1, hD1⟩ := hB
      rw [ht] at hP1
      have hK1 := va_K.moved hvm.symm hK1
      obtain ⟨hP, hD⟩ := va_join (wr := [(mo, .inr (6, [.int 0, .int 0, .int 0, .int 0, .ref m4, .ref m5, .ref m6, .ref m7, .ref m8, .ref m9, .ref m10, .ref m11, .ref m12, .int 1, .int 0, .int 0, .ref m16, .ref m17, .ref m18, .int 0, .int 0, .int 0, .int 0, .int 0, .int 0, .int 0, .int 0, .ref m27, .int 0, .ref m29, .ref m30, .ref m31])), (m4, .inl (y4, 700, .inl (fun _ => 0))), (m5, .inl (y5, 700, .inl (fun _ => 0))), (m6, .inl (y6, 700, .inl (fun _ => 0))), (m7, .inl (y7, 96, .inl (fun _ => 0))), (m8, .inl (y8, 2, .inl (upd (upd (fun _ => 0) 0 2) 1 2))), (m9, .inl (y9, 2, .inl (fun _ => 0))), (m10, .inl (y10, 2, .inl (fun _ => 0))), (m11, .inl (y11, 2, .inl (upd (upd (fun _ => 0) 0 (-1)) 1 (-1)))), (m12, .inl (y12, 4, .inl (fun _ => 0))), (ot, .inl (cL, 1, .inr (.inl (fun _ => 0))))]) (w1 := []) hP hD [0, 1, 2, 3, 4, 5, 6, 7, 8] [9, 10, 11, 12, 13, 14, 15, 16, 17, 18, 19] rfl rfl (by decide) (by decide) hk1 hFc hP1 hD1
      have hK := hK.app hK1
      generalize H1 = H at hP hS ⊢
      have hP : va_P (dC, dI) vwCl [(mo, .inr (6, [.int 0, .int 0, .int 0, .int 0, .ref m4, .ref m5, .ref m6, .ref m7, .ref m8, .ref m9, .ref m10, .ref m11, .ref m12, .int 1, .int 0, .int 0, .ref m16, .ref m17, .ref m18, .int 0, .int 0, .int 0, .int 0, .int 0, .int 0, .int 0, .int 0, .ref m27, .int 0, .ref m29, .ref m30, .ref m31])), (m4, .inl (y4, 700, .inl (fun _ => 0))), (m5, .inl (y5, 700, .inl (fun _ => 0))), (m6, .inl (y6, 700, .inl (fun _ => 0))), (m7, .inl (y7, 96, .inl (fun _ => 0))), (m8, .inl (y8, 2, .inl (upd (upd (fun _ => 0) 0 2) 1 2))), (m9, .inl (y9, 2, .inl (fun _ => 0))), (m10, .inl (y10, 2, .inl (fun _ => 0))), (m11, .inl (y11, 2, .inl (upd (upd (fun _ => 0) 0 (-1)) 1 (-1)))), (m12, .inl (y12, 4, .inl (fun _ => 0))), (ot, .inl (cL, 1, .inr (.inl (fun _ => 0))))] H := hP
      have hD : va_D (fun q : Nat => s.heap.size ≤ q) [(mo, .inr (6, [.int 0, .int 0, .int 0, .int 0, .ref m4, .ref m5, .ref m6, .ref m7, .ref m8, .ref m9, .ref m10, .ref m11, .ref m12, .int 1, .int 0, .int 0, .ref m16, .ref m17, .ref m18, .int 0, .int 0, .int 0, .int 0, .int 0, .int 0, .int 0, .int 0, .ref m27, .int 0, .ref m29, .ref m30, .ref m31])), (m4, .inl (y4, 700, .inl (fun _ => 0))), (m5, .inl (y5, 700, .inl (fun _ => 0))), (m6, .inl (y6, 700, .inl (fun _ => 0))), (m7, .inl (y7, 96, .inl (fun _ => 0))), (m8, .inl (y8, 2, .inl (upd (upd (fun _ => 0) 0 2) 1 2))), (m9, .inl (y9, 2, .inl (fun _ => 0))), (m10, .inl (y10, 2, .inl (fun _ => 0))), (m11, .inl (y11, 2, .inl (upd (upd (fun _ => 0) 0 (-1)) 1 (-1)))), (m12, .inl (y12, 4, .inl (fun _ => 0))), (ot, .inl (cL, 1, .inr (.inl (fun _ => 0))))] := hD
      have hK : va_K (dC, dI) vwCl [(cI, .int), (cZ, .boolean), (cB, .object "ParkTower$Bay"), (y4, .int), (y5, .int), (y6, .int), (y7, .int), (y8, .int), (y9, .int), (y10, .boolean), (y11, .int), (y12, .boolean), (cL, .long)] s := hK
      refine W.widen (k := 37) (n := 2564) (by omega) (by omega) ?_
      obtain rfl : r_7 = 1 := hw_7.trans (if_neg hok)
      refine lv_istore (lv' := [(5, .int 1), (4, .int 0), (3, .ref ot), (2, .ref mo), (1, .ref x), (0, .ref b)]) hx hb dL_law_252 hl (by decide) rfl (fun ls hl => ?_)
      refine lv_aload_n hx hb dL_law_254 rfl (lv_at hl 3 rfl) ?_
      refine lv_aload_n hx hb dL_law_255 rfl (lv_at hl 5 rfl) ?_
      refine lv_iload hx hb dL_law_256 (lv_at hl 1 rfl) ?_
      refine lv_iconst (v := 1) hx hb dL_law_258 (by decide) ?_
      refine lv_iadd hx hb dL_law_259 ?_
      refine pt_topi 1 (by decide) ?_
      refine va_sld hx hb hX hbl hbA hS (vp_in_iff.mpr (by decide)) dL_law_260 ?_
      refine pt_topi v1 e1 ?_
      refine lv_aload_n hx hb dL_law_261 rfl (lv_at hl 5 rfl) ?_
      refine lv_iload hx hb dL_law_262 (lv_at hl 1 rfl) ?_
      refine lv_iconst (v := 2) hx hb dL_law_264 (by decide) ?_
      refine lv_iadd hx hb dL_law_265 ?_
      refine pt_topi 2 (by decide) ?_
      refine va_sld hx hb hX hbl hbA hS (vp_in_iff.mpr (by decide)) dL_law_266 ?_
      refine pt_topi v2 e2 ?_
      refine lv_if_eq (tgt := 274) hx hb dL_law_267 (by decide) (fun _ => ?_) (fun c => absurd (by assumption) c)
      refine lv_iconst (v := 0) hx hb dL_law_274 (by decide) ?_
      have hPc := hP.sub (ws' := [(mo, .inr (6, [.int 0, .int 0, .int 0, .int 0, .ref m4, .ref m5, .ref m6, .ref m7, .ref m8, .ref m9, .ref m10, .ref m11, .ref m12, .int 1, .int 0, .int 0, .ref m16, .ref m17, .ref m18, .int 0, .int 0, .int 0, .int 0, .int 0, .int 0, .int 0, .int 0, .ref m27, .int 0, .ref m29, .ref m30, .ref m31])), (m4, .inl (y4, 700, .inl (fun _ => 0))), (m5, .inl (y5, 700, .inl (fun _ => 0))), (m6, .inl (y6, 700, .inl (fun _ => 0))), (m7, .inl (y7, 96, .inl (fun _ => 0))), (m8, .inl (y8, 2, .inl (upd (upd (fun _ => 0) 0 2) 1 2))), (m9, .inl (y9, 2, .inl (fun _ => 0))), (m10, .inl (y10, 2, .inl (fun _ => 0))), (m11, .inl (y11, 2, .inl (upd (upd (fun _ => 0) 0 (-1)) 1 (-1)))), (m12, .inl (y12, 4, .inl (fun _ => 0)))]) [0, 1, 2, 3, 4, 5, 6, 7, 8, 9] rfl
      have hDc := hD.sub (ws' := [(mo, .inr (6, [.int 0, .int 0, .int 0, .int 0, .ref m4, .ref m5, .ref m6, .ref m7, .ref m8, .ref m9, .ref m10, .ref m11, .ref m12, .int 1, .int 0, .int 0, .ref m16, .ref m17, .ref m18, .int 0, .int 0, .int 0, .int 0, .int 0, .int 0, .int 0, .int 0, .ref m27, .int 0, .ref m29, .ref m30, .ref m31])), (m4, .inl (y4, 700, .inl (fun _ => 0))), (m5, .inl (y5, 700, .inl (fun _ => 0))), (m6, .inl (y6, 700, .inl (fun _ => 0))), (m7, .inl (y7, 96, .inl (fun _ => 0))), (m8, .inl (y8, 2, .inl (upd (upd (fun _ => 0) 0 2) 1 2))), (m9, .inl (y9, 2, .inl (fun _ => 0))), (m10, .inl (y10, 2, .inl (fun _ => 0))), (m11, .inl (y11, 2, .inl (upd (upd (fun _ => 0) 0 (-1)) 1 (-1)))), (m12, .inl (y12, 4, .inl (fun _ => 0)))]) [0, 1, 2, 3, 4, 5, 6, 7, 8, 9] (by decide) rfl
      have hKc := hK.sub (tys' := [(y4, .int), (y5, .int), (y6, .int), (y7, .int), (y8, .int), (y9, .int), (y10, .boolean), (y11, .int), (y12, .boolean)]) [3, 4, 5, 6, 7, 8, 9, 10, 11] rfl
      have hFc := va_free (wc := [(mo, .inr (6, [.int 0, .int 0, .int 0, .int 0, .ref m4, .ref m5, .ref m6, .ref m7, .ref m8, .ref m9, .ref m10, .ref m11, .ref m12, .int 1, .int 0, .int 0, .ref m16, .ref m17, .ref m18, .int 0, .int 0, .int 0, .int 0, .int 0, .int 0, .int 0, .int 0, .ref m27, .int 0, .ref m29, .ref m30, .ref m31])), (m4, .inl (y4, 700, .inl (fun _ => 0))), (m5, .inl (y5, 700, .inl (fun _ => 0))), (m6, .inl (y6, 700, .inl (fun _ => 0))), (m7, .inl (y7, 96, .inl (fun _ => 0))), (m8, .inl (y8, 2, .inl (upd (upd (fun _ => 0) 0 2) 1 2))), (m9, .inl (y9, 2, .inl (fun _ => 0))), (m10, .inl (y10, 2, .inl (fun _ => 0))), (m11, .inl (y11, 2, .inl (upd (upd (fun _ => 0) 0 (-1)) 1 (-1)))), (m12, .inl (y12, 4, .inl (fun _ => 0)))]) hD hS hA [0, 1, 2, 3, 4, 5, 6, 7, 8, 9] rfl
      refine va_callv (va_runV (As := [.int v1, .int 0]) (rest := []) ⟨hx, hb, hml, hown, hts⟩ (m_personX l dC dI _ mo m4 m5 m6 m7 m8 m9 m10 m11 m12 m16 m17 m18 m27 m29 m30 m31 y4 y5 y6 y7 y8 y9 y10 y11 y12 v1 0 hok) (cwV 2 hts gk_X8_person rfl rfl rfl (by decide +kernel) ⟨Nat.le_of_ble_eq_true rfl, Nat.le_of_ble_eq_true rfl⟩) ⟨pt_blindQ, va_recv hK hP (ci := 6) (q0 := 0) rfl rfl, pt_preQ hPc hKc hDc hN⟩ rfl rfl hl.1 rfl (lv_room (Nat.le_of_ble_eq_true rfl)) dL_law_275 ⟨Nat.le_of_ble_eq_true rfl, Nat.le_of_ble_eq_true rfl⟩) hS (fun q _ h => hFc q h) hFc (fun u_8 t H1 locs ht hvm hw_8 hB hz1 hk1 hS => ?_)
      obtain ⟨hP1, hK1, hD1⟩ := hB
      rw [ht] at hP1
      have hK1 := va_K.moved hvm.symm hK1
      obtain ⟨hP, hD⟩ := va_join (wr := [(ot, .inl (cL, 1, .inr (.inl (fun _ => 0))))]) (w1 := [(mo, .inr (6, .int u_8.1 :: u_8.2))]) hP hD [0, 1, 2, 3, 4, 5, 6, 7, 8, 9] [10] rfl rfl (by decide) (by decide) hk1 hFc hP1 hD1
      have hK := hK.app hK1
      generalize H1 = H at hP hS ⊢
      have hP : va_P (dC, dI) vwCl [(ot, .inl (cL, 1, .inr (.inl (fun _ => 0)))), (mo, .inr (6, .int u_8.1 :: u_8.2))] H := hP
      have hD : va_D (fun q : Nat => s.heap.size ≤ q) [(ot, .inl (cL, 1, .inr (.inl (fun _ => 0)))), (mo, .inr (6, .int u_8.1 :: u_8.2))] := hD
      have hK : va_K (dC, dI) vwCl [(cI, .int), (cZ, .boolean), (cB, .object "ParkTower$Bay"), (y4, .int), (y5, .int), (y6, .int), (y7, .int), (y8, .int), (y9, .int), (y10, .boolean), (y11, .int), (y12, .boolean), (cL, .long)] s := hK
      refine W.widen (k := 37) (n := 2564) (by omega) (by omega) ?_
      refine lv_aload_n hx hb dL_law_278 rfl (lv_at hl 3 rfl) ?_
      refine pt_cSi (va_runV (As := []) (rest := []) ⟨hx, hb, hml, hown, hts⟩ (c_thrown l dC dI mo u_8.1 u_8.2) (cwV 0 hts gk_X8_thrown rfl rfl rfl (by decide +kernel) ⟨Nat.le_of_ble_eq_true rfl, Nat.le_of_ble_eq_true rfl⟩) ⟨pt_blind, va_recv hK hP (ci := 6) (q0 := 1) rfl rfl, pt_pre (w := [(mo, .inr (6, .int u_8.1 :: u_8.2))]) (tys := []) (hP.sub [1] rfl) (hK.sub [] rfl) hN⟩ rfl rfl hl.1 rfl (lv_room (Nat.le_of_ble_eq_true rfl)) dL_law_279 ⟨Nat.le_of_ble_eq_true rfl, Nat.le_of_ble_eq_true rfl⟩) (fun r_9 hr_9 => ?_)
      obtain rfl : r_9 = 1 := hr_9.trans hw_8
      refine lv_iload hx hb dL_law_282 (lv_at hl 0 rfl) ?_
      refine lv_icmp_eq (tgt := 289) hx hb dL_law_284 (by decide) (fun _ => ?_) (fun c => absurd (by decide) c)
      refine lv_goto (tgt := 824) hx hb dL_law_289 (by decide) ?_
      exact law_end l C0 (Nat.le_of_ble_eq_true rfl) (Nat.le_of_ble_eq_true rfl) hS ls (lv_sub hl [1, 5] rfl)
  · by_cases hok : v1 = 0 ∨ v1 = 1
    · rcases hok with rfl | rfl
      · skip
        refine lv_aload_n hx hb dL_law_228 rfl (lv_at hl 3 rfl) ?_
        refine lv_aload_n hx hb dL_law_229 rfl (lv_at hl 4 rfl) ?_
        refine lv_iload hx hb dL_law_230 (lv_at hl 0 rfl) ?_
        refine lv_iconst (v := 1) hx hb dL_law_232 (by decide) ?_
        refine lv_iadd hx hb dL_law_233 ?_
        refine pt_topi 1 (by decide) ?_
        refine va_sld hx hb hX hbl hbA hS (vp_in_iff.mpr (by decide)) dL_law_234 ?_
        refine pt_topi 0 e1 ?_
        refine lv_aload_n hx hb dL_law_235 rfl (lv_at hl 4 rfl) ?_
        refine lv_iload hx hb dL_law_236 (lv_at hl 0 rfl) ?_
        refine lv_iconst (v := 2) hx hb dL_law_238 (by decide) ?_
        refine lv_iadd hx hb dL_law_239 ?_
        refine pt_topi 2 (by decide) ?_
        refine va_sld hx hb hX hbl hbA hS (vp_in_iff.mpr (by decide)) dL_law_240 ?_
        refine pt_topi v2 e2 ?_
        refine lv_if_eq (tgt := 248) hx hb dL_law_241 (by decide) (fun c => absurd c (by assumption)) (fun _ => ?_)
        refine lv_iconst (v := 1) hx hb dL_law_244 (by decide) ?_
        refine lv_goto (tgt := 249) hx hb dL_law_245 (by decide) ?_
        have hPc := hP.sub (ws' := [(x, .inr (5, [.ref rk, .ref bs, .ref od, .ref jb, .ref ap, .int 0, .int 1, .int 0, .int 0, .int 0])), (rk, .inr (4, [.ref hd, .ref jm])), (hd, .inl (cI, 96, .inl (fun _ => 0))), (jm, .inl (cZ, 4, .inl (fun _ => 0))), (bs, .inl (cB, 2, .inr (.inr (.inr (.inr (va_up (va_up (fun _ => none) 0 (some b0)) 1 (some b1))))))), (b0, .inr (0, [.int 2, .int 0, .int 0, .int 0, .int 0, .int (-1)])), (b1, .inr (0, [.int 2, .int 0, .int 0, .int 0, .int 0, .int (-1)])), (od, .inr (2, [.ref o1, .ref o2, .ref o3, .int 0])), (jb, .inr (1, [.ref pl, .int (-1), .int 0, .int 0, .int 0]))]) [0, 1, 2, 3, 4, 5, 6, 7, 8] rfl
        have hDc := hD.sub (ws' := [(x, .inr (5, [.ref rk, .ref bs, .ref od, .ref jb, .ref ap, .int 0, .int 1, .int 0, .int 0, .int 0])), (rk, .inr (4, [.ref hd, .ref jm])), (hd, .inl (cI, 96, .inl (fun _ => 0))), (jm, .inl (cZ, 4, .inl (fun _ => 0))), (bs, .inl (cB, 2, .inr (.inr (.inr (.inr (va_up (va_up (fun _ => none) 0 (some b0)) 1 (some b1))))))), (b0, .inr (0, [.int 2, .int 0, .int 0, .int 0, .int 0, .int (-1)])), (b1, .inr (0, [.int 2, .int 0, .int 0, .int 0, .int 0, .int (-1)])), (od, .inr (2, [.ref o1, .ref o2, .ref o3, .int 0])), (jb, .inr (1, [.ref pl, .int (-1), .int 0, .int 0, .int 0]))]) [0, 1, 2, 3, 4, 5, 6, 7, 8] (by decide) rfl
        have hKc := hK.sub (tys' := [(cI, .int), (cZ, .boolean), (cB, .object "ParkTower$Bay")]) [0, 1, 2] rfl
        have hFc := va_free (wc := [(x, .inr (5, [.ref rk, .ref bs, .ref od, .ref jb, .ref ap, .int 0, .int 1, .int 0, .int 0, .int 0])), (rk, .inr (4, [.ref hd, .ref jm])), (hd, .inl (cI, 96, .inl (fun _ => 0))), (jm, .inl (cZ, 4, .inl (fun _ => 0))), (bs, .inl (cB, 2, .inr (.inr (.inr (.inr (va_up (va_up (fun _ => none) 0 (some b0)) 1 (some b1))))))), (b0, .inr (0, [.int 2, .int 0, .int 0, .int 0, .int 0, .int (-1)])), (b1, .inr (0, [.int 2, .int 0, .int 0, .int 0, .int 0, .int (-1)])), (od, .inr (2, [.ref o1, .ref o2, .ref o3, .int 0])), (jb, .inr (1, [.ref pl, .int (-1), .int 0, .int 0, .int 0]))]) hD hS hA [0, 1, 2, 3, 4, 5, 6, 7, 8] rfl
        refine va_calli (vx_runSW (As := [.ref x, .int 0, .int 1]) (rest := []) ⟨hx, hb, hml, hown, hts⟩ (w_person l hlt dC dI _ x rk hd jm bs b0 b1 od o1 o2 o3 jb pl ap cI cZ cB 0 1 (by decide)) (vx_cwSW 3 hts gk_L_person rfl rfl rfl (by decide +kernel) ⟨Nat.le_of_ble_eq_true rfl, Nat.le_of_ble_eq_true rfl⟩) ⟨pt_blindT, pt_preT hPc hKc hDc hN hE (pt_Z.up hZ (fun q h1 h2 => hS.2.1 q h1 h2) hS.1)⟩ rfl rfl hl.1 rfl (lv_room (Nat.le_of_ble_eq_true rfl)) dL_law_249 ⟨Nat.le_of_ble_eq_true rfl, Nat.le_of_ble_eq_true rfl⟩) hS (fun q _ h => hFc q h) hFc (fun r_10 u_10 t H1 locs ht hvm hw_10 hB hz1 hk1 hS => ?_)
        obtain ⟨hP1, hK1, hD1⟩ := hB
        rw [ht] at hP1
        have hK1 := va_K.moved hvm.symm hK1
        obtain ⟨hP, hD⟩ := va_join (wr := [(mo, .inr (6, [.int 0, .int 0, .int 0, .int 0, .ref m4, .ref m5, .ref m6, .ref m7, .ref m8, .ref m9, .ref m10, .ref m11, .ref m12, .int 1, .int 0, .int 0, .ref m16, .ref m17, .ref m18, .int 0, .int 0, .int 0, .int 0, .int 0, .int 0, .int 0, .int 0, .ref m27, .int 0, .ref m29, .ref m30, .ref m31])), (m4, .inl (y4, 700, .inl (fun _ => 0))), (m5, .inl (y5, 700, .inl (fun _ => 0))), (m6, .inl (y6, 700, .inl (fun _ => 0))), (m7, .inl (y7, 96, .inl (fun _ => 0))), (m8, .inl (y8, 2, .inl (upd (upd (fun _ => 0) 0 2) 1 2))), (m9, .inl (y9, 2, .inl (fun _ => 0))), (m10, .inl (y10, 2, .inl (fun _ => 0))), (m11, .inl (y11, 2, .inl (upd (upd (fun _ => 0) 0 (-1)) 1 (-1)))), (m12, .inl (y12, 4, .inl (fun _ => 0))), (ot, .inl (cL, 1, .inr (.inl (fun _ => 0))))]) (w1 := []) hP hD [0, 1, 2, 3, 4, 5, 6, 7, 8] [9, 10, 11, 12, 13, 14, 15, 16, 17, 18, 19] rfl rfl (by decide) (by decide) hk1 hFc hP1 hD1
        have hK := hK.app hK1
        generalize H1 = H at hP hS ⊢
        have hP : va_P (dC, dI) vwCl [(mo, .inr (6, [.int 0, .int 0, .int 0, .int 0, .ref m4, .ref m5, .ref m6, .ref m7, .ref m8, .ref m9, .ref m10, .ref m11, .ref m12, .int 1, .int 0, .int 0, .ref m16, .ref m17, .ref m18, .int 0, .int 0, .int 0, .int 0, .int 0, .int 0, .int 0, .int 0, .ref m27, .int 0, .ref m29, .ref m30, .ref m31])), (m4, .inl (y4, 700, .inl (fun _ => 0))), (m5, .inl (y5, 700, .inl (fun _ => 0))), (m6, .inl (y6, 700, .inl (fun _ => 0))), (m7, .inl (y7, 96, .inl (fun _ => 0))), (m8, .inl (y8, 2, .inl (upd (upd (fun _ => 0) 0 2) 1 2))), (m9, .inl (y9, 2, .inl (fun _ => 0))), (m10, .inl (y10, 2, .inl (fun _ => 0))), (m11, .inl (y11, 2, .inl (upd (upd (fun _ => 0) 0 (-1)) 1 (-1)))), (m12, .inl (y12, 4, .inl (fun _ => 0))), (ot, .inl (cL, 1, .inr (.inl (fun _ => 0))))] H := hP
        have hD : va_D (fun q : Nat => s.heap.size ≤ q) [(mo, .inr (6, [.int 0, .int 0, .int 0, .int 0, .ref m4, .ref m5, .ref m6, .ref m7, .ref m8, .ref m9, .ref m10, .ref m11, .ref m12, .int 1, .int 0, .int 0, .ref m16, .ref m17, .ref m18, .int 0, .int 0, .int 0, .int 0, .int 0, .int 0, .int 0, .int 0, .ref m27, .int 0, .ref m29, .ref m30, .ref m31])), (m4, .inl (y4, 700, .inl (fun _ => 0))), (m5, .inl (y5, 700, .inl (fun _ => 0))), (m6, .inl (y6, 700, .inl (fun _ => 0))), (m7, .inl (y7, 96, .inl (fun _ => 0))), (m8, .inl (y8, 2, .inl (upd (upd (fun _ => 0) 0 2) 1 2))), (m9, .inl (y9, 2, .inl (fun _ => 0))), (m10, .inl (y10, 2, .inl (fun _ => 0))), (m11, .inl (y11, 2, .inl (upd (upd (fun _ => 0) 0 (-1)) 1 (-1)))), (m12, .inl (y12, 4, .inl (fun _ => 0))), (ot, .inl (cL, 1, .inr (.inl (fun _ => 0))))] := hD
        have hK : va_K (dC, dI) vwCl [(cI, .int), (cZ, .boolean), (cB, .object "ParkTower$Bay"), (y4, .int), (y5, .int), (y6, .int), (y7, .int), (y8, .int), (y9, .int), (y10, .boolean), (y11, .int), (y12, .boolean), (cL, .long)] s := hK
        refine W.widen (k := 37) (n := 2564) (by omega) (by omega) ?_
        obtain rfl : r_10 = 0 := hw_10.trans (if_pos (by decide))
        refine lv_istore (lv' := [(5, .int 0), (4, .int 0), (3, .ref ot), (2, .ref mo), (1, .ref x), (0, .ref b)]) hx hb dL_law_252 hl (by decide) rfl (fun ls hl => ?_)
        refine lv_aload_n hx hb dL_law_254 rfl (lv_at hl 3 rfl) ?_
        refine lv_aload_n hx hb dL_law_255 rfl (lv_at hl 5 rfl) ?_
        refine lv_iload hx hb dL_law_256 (lv_at hl 1 rfl) ?_
        refine lv_iconst (v := 1) hx hb dL_law_258 (by decide) ?_
        refine lv_iadd hx hb dL_law_259 ?_
        refine pt_topi 1 (by decide) ?_
        refine va_sld hx hb hX hbl hbA hS (vp_in_iff.mpr (by decide)) dL_law_260 ?_
        refine pt_topi 0 e1 ?_
        refine lv_aload_n hx hb dL_law_261 rfl (lv_at hl 5 rfl) ?_
        refine lv_iload hx hb dL_law_262 (lv_at hl 1 rfl) ?_
        refine lv_iconst (v := 2) hx hb dL_law_264 (by decide) ?_
        refine lv_iadd hx hb dL_law_265 ?_
        refine pt_topi 2 (by decide) ?_
        refine va_sld hx hb hX hbl hbA hS (vp_in_iff.mpr (by decide)) dL_law_266 ?_
        refine pt_topi v2 e2 ?_
        refine lv_if_eq (tgt := 274) hx hb dL_law_267 (by decide) (fun c => absurd c (by assumption)) (fun _ => ?_)
        refine lv_iconst (v := 1) hx hb dL_law_270 (by decide) ?_
        refine lv_goto (tgt := 275) hx hb dL_law_271 (by decide) ?_
        have hPc := hP.sub (ws' := [(mo, .inr (6, [.int 0, .int 0, .int 0, .int 0, .ref m4, .ref m5, .ref m6, .ref m7, .ref m8, .ref m9, .ref m10, .ref m11, .ref m12, .int 1, .int 0, .int 0, .ref m16, .ref m17, .ref m18, .int 0, .int 0, .int 0, .int 0, .int 0, .int 0, .int 0, .int 0, .ref m27, .int 0, .ref m29, .ref m30, .ref m31])), (m4, .inl (y4, 700, .inl (fun _ => 0))), (m5, .inl (y5, 700, .inl (fun _ => 0))), (m6, .inl (y6, 700, .inl (fun _ => 0))), (m7, .inl (y7, 96, .inl (fun _ => 0))), (m8, .inl (y8, 2, .inl (upd (upd (fun _ => 0) 0 2) 1 2))), (m9, .inl (y9, 2, .inl (fun _ => 0))), (m10, .inl (y10, 2, .inl (fun _ => 0))), (m11, .inl (y11, 2, .inl (upd (upd (fun _ => 0) 0 (-1)) 1 (-1)))), (m12, .inl (y12, 4, .inl (fun _ => 0)))]) [0, 1, 2, 3, 4, 5, 6, 7, 8, 9] rfl
        have hDc := hD.sub (ws' := [(mo, .inr (6, [.int 0, .int 0, .int 0, .int 0, .ref m4, .ref m5, .ref m6, .ref m7, .ref m8, .ref m9, .ref m10, .ref m11, .ref m12, .int 1, .int 0, .int 0, .ref m16, .ref m17, .ref m18, .int 0, .int 0, .int 0, .int 0, .int 0, .int 0, .int 0, .int 0, .ref m27, .int 0, .ref m29, .ref m30, .ref m31])), (m4, .inl (y4, 700, .inl (fun _ => 0))), (m5, .inl (y5, 700, .inl (fun _ => 0))), (m6, .inl (y6, 700, .inl (fun _ => 0))), (m7, .inl (y7, 96, .inl (fun _ => 0))), (m8, .inl (y8, 2, .inl (upd (upd (fun _ => 0) 0 2) 1 2))), (m9, .inl (y9, 2, .inl (fun _ => 0))), (m10, .inl (y10, 2, .inl (fun _ => 0))), (m11, .inl (y11, 2, .inl (upd (upd (fun _ => 0) 0 (-1)) 1 (-1)))), (m12, .inl (y12, 4, .inl (fun _ => 0)))]) [0, 1, 2, 3, 4, 5, 6, 7, 8, 9] (by decide) rfl
        have hKc := hK.sub (tys' := [(y4, .int), (y5, .int), (y6, .int), (y7, .int), (y8, .int), (y9, .int), (y10, .boolean), (y11, .int), (y12, .boolean)]) [3, 4, 5, 6, 7, 8, 9, 10, 11] rfl
        have hFc := va_free (wc := [(mo, .inr (6, [.int 0, .int 0, .int 0, .int 0, .ref m4, .ref m5, .ref m6, .ref m7, .ref m8, .ref m9, .ref m10, .ref m11, .ref m12, .int 1, .int 0, .int 0, .ref m16, .ref m17, .ref m18, .int 0, .int 0, .int 0, .int 0, .int 0, .int 0, .int 0, .int 0, .ref m27, .int 0, .ref m29, .ref m30, .ref m31])), (m4, .inl (y4, 700, .inl (fun _ => 0))), (m5, .inl (y5, 700, .inl (fun _ => 0))), (m6, .inl (y6, 700, .inl (fun _ => 0))), (m7, .inl (y7, 96, .inl (fun _ => 0))), (m8, .inl (y8, 2, .inl (upd (upd (fun _ => 0) 0 2) 1 2))), (m9, .inl (y9, 2, .inl (fun _ => 0))), (m10, .inl (y10, 2, .inl (fun _ => 0))), (m11, .inl (y11, 2, .inl (upd (upd (fun _ => 0) 0 (-1)) 1 (-1)))), (m12, .inl (y12, 4, .inl (fun _ => 0)))]) hD hS hA [0, 1, 2, 3, 4, 5, 6, 7, 8, 9] rfl
        refine va_callv (va_runV (As := [.int 0, .int 1]) (rest := []) ⟨hx, hb, hml, hown, hts⟩ (m_person01 l dC dI _ mo m4 m5 m6 m7 m8 m9 m10 m11 m12 m16 m17 m18 m27 m29 m30 m31 y4 y5 y6 y7 y8 y9 y10 y11 y12) (cwV 2 hts gk_X8_person rfl rfl rfl (by decide +kernel) ⟨Nat.le_of_ble_eq_true rfl, Nat.le_of_ble_eq_true rfl⟩) ⟨pt_blindQ, va_recv hK hP (ci := 6) (q0 := 0) rfl rfl, pt_preQ hPc hKc hDc hN⟩ rfl rfl hl.1 rfl (lv_room (Nat.le_of_ble_eq_true rfl)) dL_law_275 ⟨Nat.le_of_ble_eq_true rfl, Nat.le_of_ble_eq_true rfl⟩) hS (fun q _ h => hFc q h) hFc (fun u_11 t H1 locs ht hvm hw_11 hB hz1 hk1 hS => ?_)
        obtain ⟨hP1, hK1, hD1⟩ := hB
        rw [ht] at hP1
        have hK1 := va_K.moved hvm.symm hK1
        obtain ⟨hP, hD⟩ := va_join (wr := [(ot, .inl (cL, 1, .inr (.inl (fun _ => 0))))]) (w1 := [(mo, .inr (6, .int u_11.1 :: u_11.2))]) hP hD [0, 1, 2, 3, 4, 5, 6, 7, 8, 9] [10] rfl rfl (by decide) (by decide) hk1 hFc hP1 hD1
        have hK := hK.app hK1
        generalize H1 = H at hP hS ⊢
        have hP : va_P (dC, dI) vwCl [(ot, .inl (cL, 1, .inr (.inl (fun _ => 0)))), (mo, .inr (6, .int u_11.1 :: u_11.2))] H := hP
        have hD : va_D (fun q : Nat => s.heap.size ≤ q) [(ot, .inl (cL, 1, .inr (.inl (fun _ => 0)))), (mo, .inr (6, .int u_11.1 :: u_11.2))] := hD
        have hK : va_K (dC, dI) vwCl [(cI, .int), (cZ, .boolean), (cB, .object "ParkTower$Bay"), (y4, .int), (y5, .int), (y6, .int), (y7, .int), (y8, .int), (y9, .int), (y10, .boolean), (y11, .int), (y12, .boolean), (cL, .long)] s := hK
        refine W.widen (k := 37) (n := 2564) (by omega) (by omega) ?_
        refine lv_aload_n hx hb dL_law_278 rfl (lv_at hl 3 rfl) ?_
        refine pt_cSi (va_runV (As := []) (rest := []) ⟨hx, hb, hml, hown, hts⟩ (c_thrown l dC dI mo u_11.1 u_11.2) (cwV 0 hts gk_X8_thrown rfl rfl rfl (by decide +kernel) ⟨Nat.le_of_ble_eq_true rfl, Nat.le_of_ble_eq_true rfl⟩) ⟨pt_blind, va_recv hK hP (ci := 6) (q0 := 1) rfl rfl, pt_pre (w := [(mo, .inr (6, .int u_11.1 :: u_11.2))]) (tys := []) (hP.sub [1] rfl) (hK.sub [] rfl) hN⟩ rfl rfl hl.1 rfl (lv_room (Nat.le_of_ble_eq_true rfl)) dL_law_279 ⟨Nat.le_of_ble_eq_true rfl, Nat.le_of_ble_eq_true rfl⟩) (fun r_12 hr_12 => ?_)
        obtain rfl : r_12 = 0 := hr_12.trans hw_11
        refine lv_iload hx hb dL_law_282 (lv_at hl 0 rfl) ?_
        refine lv_icmp_eq (tgt := 289) hx hb dL_law_284 (by decide) (fun _ => ?_) (fun c => absurd (by decide) c)
        refine lv_goto (tgt := 824) hx hb dL_law_289 (by decide) ?_
        exact law_end l C0 (Nat.le_of_ble_eq_true rfl) (Nat.le_of_ble_eq_true rfl) hS ls (lv_sub hl [1, 5] rfl)
      · skip
        refine lv_aload_n hx hb dL_law_228 rfl (lv_at hl 3 rfl) ?_
        refine lv_aload_n hx hb dL_law_229 rfl (lv_at hl 4 rfl) ?_
        refine lv_iload hx hb dL_law_230 (lv_at hl 0 rfl) ?_
        refine lv_iconst (v := 1) hx hb dL_law_232 (by decide) ?_
        refine lv_iadd hx hb dL_law_233 ?_
        refine pt_topi 1 (by decide) ?_
        refine va_sld hx hb hX hbl hbA hS (vp_in_iff.mpr (by decide)) dL_law_234 ?_
        refine pt_topi 1 e1 ?_
        refine lv_aload_n hx hb dL_law_235 rfl (lv_at hl 4 rfl) ?_
        refine lv_iload hx hb dL_law_236 (lv_at hl 0 rfl) ?_
        refine lv_iconst (v := 2) hx hb dL_law_238 (by decide) ?_
        refine lv_iadd hx hb dL_law_239 ?_
        refine pt_topi 2 (by decide) ?_
        refine va_sld hx hb hX hbl hbA hS (vp_in_iff.mpr (by decide)) dL_law_240 ?_
        refine pt_topi v2 e2 ?_
        refine lv_if_eq (tgt := 248) hx hb dL_law_241 (by decide) (fun c => absurd c (by assumption)) (fun _ => ?_)
        refine lv_iconst (v := 1) hx hb dL_law_244 (by decide) ?_
        refine lv_goto (tgt := 249) hx hb dL_law_245 (by decide) ?_
        have hPc := hP.sub (ws' := [(x, .inr (5, [.ref rk, .ref bs, .ref od, .ref jb, .ref ap, .int 0, .int 1, .int 0, .int 0, .int 0])), (rk, .inr (4, [.ref hd, .ref jm])), (hd, .inl (cI, 96, .inl (fun _ => 0))), (jm, .inl (cZ, 4, .inl (fun _ => 0))), (bs, .inl (cB, 2, .inr (.inr (.inr (.inr (va_up (va_up (fun _ => none) 0 (some b0)) 1 (some b1))))))), (b0, .inr (0, [.int 2, .int 0, .int 0, .int 0, .int 0, .int (-1)])), (b1, .inr (0, [.int 2, .int 0, .int 0, .int 0, .int 0, .int (-1)])), (od, .inr (2, [.ref o1, .ref o2, .ref o3, .int 0])), (jb, .inr (1, [.ref pl, .int (-1), .int 0, .int 0, .int 0]))]) [0, 1, 2, 3, 4, 5, 6, 7, 8] rfl
        have hDc := hD.sub (ws' := [(x, .inr (5, [.ref rk, .ref bs, .ref od, .ref jb, .ref ap, .int 0, .int 1, .int 0, .int 0, .int 0])), (rk, .inr (4, [.ref hd, .ref jm])), (hd, .inl (cI, 96, .inl (fun _ => 0))), (jm, .inl (cZ, 4, .inl (fun _ => 0))), (bs, .inl (cB, 2, .inr (.inr (.inr (.inr (va_up (va_up (fun _ => none) 0 (some b0)) 1 (some b1))))))), (b0, .inr (0, [.int 2, .int 0, .int 0, .int 0, .int 0, .int (-1)])), (b1, .inr (0, [.int 2, .int 0, .int 0, .int 0, .int 0, .int (-1)])), (od, .inr (2, [.ref o1, .ref o2, .ref o3, .int 0])), (jb, .inr (1, [.ref pl, .int (-1), .int 0, .int 0, .int 0]))]) [0, 1, 2, 3, 4, 5, 6, 7, 8] (by decide) rfl
        have hKc := hK.sub (tys' := [(cI, .int), (cZ, .boolean), (cB, .object "ParkTower$Bay")]) [0, 1, 2] rfl
        have hFc := va_free (wc := [(x, .inr (5, [.ref rk, .ref bs, .ref od, .ref jb, .ref ap, .int 0, .int 1, .int 0, .int 0, .int 0])), (rk, .inr (4, [.ref hd, .ref jm])), (hd, .inl (cI, 96, .inl (fun _ => 0))), (jm, .inl (cZ, 4, .inl (fun _ => 0))), (bs, .inl (cB, 2, .inr (.inr (.inr (.inr (va_up (va_up (fun _ => none) 0 (some b0)) 1 (some b1))))))), (b0, .inr (0, [.int 2, .int 0, .int 0, .int 0, .int 0, .int (-1)])), (b1, .inr (0, [.int 2, .int 0, .int 0, .int 0, .int 0, .int (-1)])), (od, .inr (2, [.ref o1, .ref o2, .ref o3, .int 0])), (jb, .inr (1, [.ref pl, .int (-1), .int 0, .int 0, .int 0]))]) hD hS hA [0, 1, 2, 3, 4, 5, 6, 7, 8] rfl
        refine va_calli (vx_runSW (As := [.ref x, .int 1, .int 1]) (rest := []) ⟨hx, hb, hml, hown, hts⟩ (w_person l hlt dC dI _ x rk hd jm bs b0 b1 od o1 o2 o3 jb pl ap cI cZ cB 1 1 (by decide)) (vx_cwSW 3 hts gk_L_person rfl rfl rfl (by decide +kernel) ⟨Nat.le_of_ble_eq_true rfl, Nat.le_of_ble_eq_true rfl⟩) ⟨pt_blindT, pt_preT hPc hKc hDc hN hE (pt_Z.up hZ (fun q h1 h2 => hS.2.1 q h1 h2) hS.1)⟩ rfl rfl hl.1 rfl (lv_room (Nat.le_of_ble_eq_true rfl)) dL_law_249 ⟨Nat.le_of_ble_eq_true rfl, Nat.le_of_ble_eq_true rfl⟩) hS (fun q _ h => hFc q h) hFc (fun r_13 u_13 t H1 locs ht hvm hw_13 hB hz1 hk1 hS => ?_)
        obtain ⟨hP1, hK1, hD1⟩ := hB
        rw [ht] at hP1
        have hK1 := va_K.moved hvm.symm hK1
        obtain ⟨hP, hD⟩ := va_join (wr := [(mo, .inr (6, [.int 0, .int 0, .int 0, .int 0, .ref m4, .ref m5, .ref m6, .ref m7, .ref m8, .ref m9, .ref m10, .ref m11, .ref m12, .int 1, .int 0, .int 0, .ref m16, .ref m17, .ref m18, .int 0, .int 0, .int 0, .int 0, .int 0, .int 0, .int 0, .int 0, .ref m27, .int 0, .ref m29, .ref m30, .ref m31])), (m4, .inl (y4, 700, .inl (fun _ => 0))), (m5, .inl (y5, 700, .inl (fun _ => 0))), (m6, .inl (y6, 700, .inl (fun _ => 0))), (m7, .inl (y7, 96, .inl (fun _ => 0))), (m8, .inl (y8, 2, .inl (upd (upd (fun _ => 0) 0 2) 1 2))), (m9, .inl (y9, 2, .inl (fun _ => 0))), (m10, .inl (y10, 2, .inl (fun _ => 0))), (m11, .inl (y11, 2, .inl (upd (upd (fun _ => 0) 0 (-1)) 1 (-1)))), (m12, .inl (y12, 4, .inl (fun _ => 0))), (ot, .inl (cL, 1, .inr (.inl (fun _ => 0))))]) (w1 := []) hP hD [0, 1, 2, 3, 4, 5, 6, 7, 8] [9, 10, 11, 12, 13, 14, 15, 16, 17, 18, 19] rfl rfl (by decide) (by decide) hk1 hFc hP1 hD1
        have hK := hK.app hK1
        generalize H1 = H at hP hS ⊢
        have hP : va_P (dC, dI) vwCl [(mo, .inr (6, [.int 0, .int 0, .int 0, .int 0, .ref m4, .ref m5, .ref m6, .ref m7, .ref m8, .ref m9, .ref m10, .ref m11, .ref m12, .int 1, .int 0, .int 0, .ref m16, .ref m17, .ref m18, .int 0, .int 0, .int 0, .int 0, .int 0, .int 0, .int 0, .int 0, .ref m27, .int 0, .ref m29, .ref m30, .ref m31])), (m4, .inl (y4, 700, .inl (fun _ => 0))), (m5, .inl (y5, 700, .inl (fun _ => 0))), (m6, .inl (y6, 700, .inl (fun _ => 0))), (m7, .inl (y7, 96, .inl (fun _ => 0))), (m8, .inl (y8, 2, .inl (upd (upd (fun _ => 0) 0 2) 1 2))), (m9, .inl (y9, 2, .inl (fun _ => 0))), (m10, .inl (y10, 2, .inl (fun _ => 0))), (m11, .inl (y11, 2, .inl (upd (upd (fun _ => 0) 0 (-1)) 1 (-1)))), (m12, .inl (y12, 4, .inl (fun _ => 0))), (ot, .inl (cL, 1, .inr (.inl (fun _ => 0))))] H := hP
        have hD : va_D (fun q : Nat => s.heap.size ≤ q) [(mo, .inr (6, [.int 0, .int 0, .int 0, .int 0, .ref m4, .ref m5, .ref m6, .ref m7, .ref m8, .ref m9, .ref m10, .ref m11, .ref m12, .int 1, .int 0, .int 0, .ref m16, .ref m17, .ref m18, .int 0, .int 0, .int 0, .int 0, .int 0, .int 0, .int 0, .int 0, .ref m27, .int 0, .ref m29, .ref m30, .ref m31])), (m4, .inl (y4, 700, .inl (fun _ => 0))), (m5, .inl (y5, 700, .inl (fun _ => 0))), (m6, .inl (y6, 700, .inl (fun _ => 0))), (m7, .inl (y7, 96, .inl (fun _ => 0))), (m8, .inl (y8, 2, .inl (upd (upd (fun _ => 0) 0 2) 1 2))), (m9, .inl (y9, 2, .inl (fun _ => 0))), (m10, .inl (y10, 2, .inl (fun _ => 0))), (m11, .inl (y11, 2, .inl (upd (upd (fun _ => 0) 0 (-1)) 1 (-1)))), (m12, .inl (y12, 4, .inl (fun _ => 0))), (ot, .inl (cL, 1, .inr (.inl (fun _ => 0))))] := hD
        have hK : va_K (dC, dI) vwCl [(cI, .int), (cZ, .boolean), (cB, .object "ParkTower$Bay"), (y4, .int), (y5, .int), (y6, .int), (y7, .int), (y8, .int), (y9, .int), (y10, .boolean), (y11, .int), (y12, .boolean), (cL, .long)] s := hK
        refine W.widen (k := 37) (n := 2564) (by omega) (by omega) ?_
        obtain rfl : r_13 = 0 := hw_13.trans (if_pos (by decide))
        refine lv_istore (lv' := [(5, .int 0), (4, .int 0), (3, .ref ot), (2, .ref mo), (1, .ref x), (0, .ref b)]) hx hb dL_law_252 hl (by decide) rfl (fun ls hl => ?_)
        refine lv_aload_n hx hb dL_law_254 rfl (lv_at hl 3 rfl) ?_
        refine lv_aload_n hx hb dL_law_255 rfl (lv_at hl 5 rfl) ?_
        refine lv_iload hx hb dL_law_256 (lv_at hl 1 rfl) ?_
        refine lv_iconst (v := 1) hx hb dL_law_258 (by decide) ?_
        refine lv_iadd hx hb dL_law_259 ?_
        refine pt_topi 1 (by decide) ?_
        refine va_sld hx hb hX hbl hbA hS (vp_in_iff.mpr (by decide)) dL_law_260 ?_
        refine pt_topi 1 e1 ?_
        refine lv_aload_n hx hb dL_law_261 rfl (lv_at hl 5 rfl) ?_
        refine lv_iload hx hb dL_law_262 (lv_at hl 1 rfl) ?_
        refine lv_iconst (v := 2) hx hb dL_law_264 (by decide) ?_
        refine lv_iadd hx hb dL_law_265 ?_
        refine pt_topi 2 (by decide) ?_
        refine va_sld hx hb hX hbl hbA hS (vp_in_iff.mpr (by decide)) dL_law_266 ?_
        refine pt_topi v2 e2 ?_
        refine lv_if_eq (tgt := 274) hx hb dL_law_267 (by decide) (fun c => absurd c (by assumption)) (fun _ => ?_)
        refine lv_iconst (v := 1) hx hb dL_law_270 (by decide) ?_
        refine lv_goto (tgt := 275) hx hb dL_law_271 (by decide) ?_
        have hPc := hP.sub (ws' := [(mo, .inr (6, [.int 0, .int 0, .int 0, .int 0, .ref m4, .ref m5, .ref m6, .ref m7, .ref m8, .ref m9, .ref m10, .ref m11, .ref m12, .int 1, .int 0, .int 0, .ref m16, .ref m17, .ref m18, .int 0, .int 0, .int 0, .int 0, .int 0, .int 0, .int 0, .int 0, .ref m27, .int 0, .ref m29, .ref m30, .ref m31])), (m4, .inl (y4, 700, .inl (fun _ => 0))), (m5, .inl (y5, 700, .inl (fun _ => 0))), (m6, .inl (y6, 700, .inl (fun _ => 0))), (m7, .inl (y7, 96, .inl (fun _ => 0))), (m8, .inl (y8, 2, .inl (upd (upd (fun _ => 0) 0 2) 1 2))), (m9, .inl (y9, 2, .inl (fun _ => 0))), (m10, .inl (y10, 2, .inl (fun _ => 0))), (m11, .inl (y11, 2, .inl (upd (upd (fun _ => 0) 0 (-1)) 1 (-1)))), (m12, .inl (y12, 4, .inl (fun _ => 0)))]) [0, 1, 2, 3, 4, 5, 6, 7, 8, 9] rfl
        have hDc := hD.sub (ws' := [(mo, .inr (6, [.int 0, .int 0, .int 0, .int 0, .ref m4, .ref m5, .ref m6, .ref m7, .ref m8, .ref m9, .ref m10, .ref m11, .ref m12, .int 1, .int 0, .int 0, .ref m16, .ref m17, .ref m18, .int 0, .int 0, .int 0, .int 0, .int 0, .int 0, .int 0, .int 0, .ref m27, .int 0, .ref m29, .ref m30, .ref m31])), (m4, .inl (y4, 700, .inl (fun _ => 0))), (m5, .inl (y5, 700, .inl (fun _ => 0))), (m6, .inl (y6, 700, .inl (fun _ => 0))), (m7, .inl (y7, 96, .inl (fun _ => 0))), (m8, .inl (y8, 2, .inl (upd (upd (fun _ => 0) 0 2) 1 2))), (m9, .inl (y9, 2, .inl (fun _ => 0))), (m10, .inl (y10, 2, .inl (fun _ => 0))), (m11, .inl (y11, 2, .inl (upd (upd (fun _ => 0) 0 (-1)) 1 (-1)))), (m12, .inl (y12, 4, .inl (fun _ => 0)))]) [0, 1, 2, 3, 4, 5, 6, 7, 8, 9] (by decide) rfl
        have hKc := hK.sub (tys' := [(y4, .int), (y5, .int), (y6, .int), (y7, .int), (y8, .int), (y9, .int), (y10, .boolean), (y11, .int), (y12, .boolean)]) [3, 4, 5, 6, 7, 8, 9, 10, 11] rfl
        have hFc := va_free (wc := [(mo, .inr (6, [.int 0, .int 0, .int 0, .int 0, .ref m4, .ref m5, .ref m6, .ref m7, .ref m8, .ref m9, .ref m10, .ref m11, .ref m12, .int 1, .int 0, .int 0, .ref m16, .ref m17, .ref m18, .int 0, .int 0, .int 0, .int 0, .int 0, .int 0, .int 0, .int 0, .ref m27, .int 0, .ref m29, .ref m30, .ref m31])), (m4, .inl (y4, 700, .inl (fun _ => 0))), (m5, .inl (y5, 700, .inl (fun _ => 0))), (m6, .inl (y6, 700, .inl (fun _ => 0))), (m7, .inl (y7, 96, .inl (fun _ => 0))), (m8, .inl (y8, 2, .inl (upd (upd (fun _ => 0) 0 2) 1 2))), (m9, .inl (y9, 2, .inl (fun _ => 0))), (m10, .inl (y10, 2, .inl (fun _ => 0))), (m11, .inl (y11, 2, .inl (upd (upd (fun _ => 0) 0 (-1)) 1 (-1)))), (m12, .inl (y12, 4, .inl (fun _ => 0)))]) hD hS hA [0, 1, 2, 3, 4, 5, 6, 7, 8, 9] rfl
        refine va_callv (va_runV (As := [.int 1, .int 1]) (rest := []) ⟨hx, hb, hml, hown, hts⟩ (m_person11 l dC dI _ mo m4 m5 m6 m7 m8 m9 m10 m11 m12 m16 m17 m18 m27 m29 m30 m31 y4 y5 y6 y7 y8 y9 y10 y11 y12) (cwV 2 hts gk_X8_person rfl rfl rfl (by decide +kernel) ⟨Nat.le_of_ble_eq_true rfl, Nat.le_of_ble_eq_true rfl⟩) ⟨pt_blindQ, va_recv hK hP (ci := 6) (q0 := 0) rfl rfl, pt_preQ hPc hKc hDc hN⟩ rfl rfl hl.1 rfl (lv_room (Nat.le_of_ble_eq_true rfl)) dL_law_275 ⟨Nat.le_of_ble_eq_true rfl, Nat.le_of_ble_eq_true rfl⟩) hS (fun q _ h => hFc q h) hFc (fun u_14 t H1 locs ht hvm hw_14 hB hz1 hk1 hS => ?_)
        obtain ⟨hP1, hK1, hD1⟩ := hB
        rw [ht] at hP1
        have hK1 := va_K.moved hvm.symm hK1
        obtain ⟨hP, hD⟩ := va_join (wr := [(ot, .inl (cL, 1, .inr (.inl (fun _ => 0))))]) (w1 := [(mo, .inr (6, .int u_14.1 :: u_14.2))]) hP hD [0, 1, 2, 3, 4, 5, 6, 7, 8, 9] [10] rfl rfl (by decide) (by decide) hk1 hFc hP1 hD1
        have hK := hK.app hK1
        generalize H1 = H at hP hS ⊢
        have hP : va_P (dC, dI) vwCl [(ot, .inl (cL, 1, .inr (.inl (fun _ => 0)))), (mo, .inr (6, .int u_14.1 :: u_14.2))] H := hP
        have hD : va_D (fun q : Nat => s.heap.size ≤ q) [(ot, .inl (cL, 1, .inr (.inl (fun _ => 0)))), (mo, .inr (6, .int u_14.1 :: u_14.2))] := hD
        have hK : va_K (dC, dI) vwCl [(cI, .int), (cZ, .boolean), (cB, .object "ParkTower$Bay"), (y4, .int), (y5, .int), (y6, .int), (y7, .int), (y8, .int), (y9, .int), (y10, .boolean), (y11, .int), (y12, .boolean), (cL, .long)] s := hK
        refine W.widen (k := 37) (n := 2564) (by omega) (by omega) ?_
        refine lv_aload_n hx hb dL_law_278 rfl (lv_at hl 3 rfl) ?_
        refine pt_cSi (va_runV (As := []) (rest := []) ⟨hx, hb, hml, hown, hts⟩ (c_thrown l dC dI mo u_14.1 u_14.2) (cwV 0 hts gk_X8_thrown rfl rfl rfl (by decide +kernel) ⟨Nat.le_of_ble_eq_true rfl, Nat.le_of_ble_eq_true rfl⟩) ⟨pt_blind, va_recv hK hP (ci := 6) (q0 := 1) rfl rfl, pt_pre (w := [(mo, .inr (6, .int u_14.1 :: u_14.2))]) (tys := []) (hP.sub [1] rfl) (hK.sub [] rfl) hN⟩ rfl rfl hl.1 rfl (lv_room (Nat.le_of_ble_eq_true rfl)) dL_law_279 ⟨Nat.le_of_ble_eq_true rfl, Nat.le_of_ble_eq_true rfl⟩) (fun r_15 hr_15 => ?_)
        obtain rfl : r_15 = 0 := hr_15.trans hw_14
        refine lv_iload hx hb dL_law_282 (lv_at hl 0 rfl) ?_
        refine lv_icmp_eq (tgt := 289) hx hb dL_law_284 (by decide) (fun _ => ?_) (fun c => absurd (by decide) c)
        refine lv_goto (tgt := 824) hx hb dL_law_289 (by decide) ?_
        exact law_end l C0 (Nat.le_of_ble_eq_true rfl) (Nat.le_of_ble_eq_true rfl) hS ls (lv_sub hl [1, 5] rfl)
    · skip
      refine lv_aload_n hx hb dL_law_228 rfl (lv_at hl 3 rfl) ?_
      refine lv_aload_n hx hb dL_law_229 rfl (lv_at hl 4 rfl) ?_
      refine lv_iload hx hb dL_law_230 (lv_at hl 0 rfl) ?_
      refine lv_iconst (v := 1) hx hb dL_law_232 (by decide) ?_
      refine lv_iadd hx hb dL_law_233 ?_
      refine pt_topi 1 (by decide) ?_
      refine va_sld hx hb hX hbl hbA hS (vp_in_iff.mpr (by decide)) dL_law_234 ?_
      refine pt_topi v1 e1 ?_
      refine lv_aload_n hx hb dL_law_235 rfl (lv_at hl 4 rfl) ?_
      refine lv_iload hx hb dL_law_236 (lv_at hl 0 rfl) ?_
      refine lv_iconst (v := 2) hx hb dL_law_238 (by decide) ?_
      refine lv_iadd hx hb dL_law_239 ?_
      refine pt_topi 2 (by decide) ?_
      refine va_sld hx hb hX hbl hbA hS (vp_in_iff.mpr (by decide)) dL_law_240 ?_
      refine pt_topi v2 e2 ?_
      refine lv_if_eq (tgt := 248) hx hb dL_law_241 (by decide) (fun c => absurd c (by assumption)) (fun _ => ?_)
      refine lv_iconst (v := 1) hx hb dL_law_244 (by decide) ?_
      refine lv_goto (tgt := 249) hx hb dL_law_245 (by decide) ?_
      have hPc := hP.sub (ws' := [(x, .inr (5, [.ref rk, .ref bs, .ref od, .ref jb, .ref ap, .int 0, .int 1, .int 0, .int 0, .int 0])), (rk, .inr (4, [.ref hd, .ref jm])), (hd, .inl (cI, 96, .inl (fun _ => 0))), (jm, .inl (cZ, 4, .inl (fun _ => 0))), (bs, .inl (cB, 2, .inr (.inr (.inr (.inr (va_up (va_up (fun _ => none) 0 (some b0)) 1 (some b1))))))), (b0, .inr (0, [.int 2, .int 0, .int 0, .int 0, .int 0, .int (-1)])), (b1, .inr (0, [.int 2, .int 0, .int 0, .int 0, .int 0, .int (-1)])), (od, .inr (2, [.ref o1, .ref o2, .ref o3, .int 0])), (jb, .inr (1, [.ref pl, .int (-1), .int 0, .int 0, .int 0]))]) [0, 1, 2, 3, 4, 5, 6, 7, 8] rfl
      have hDc := hD.sub (ws' := [(x, .inr (5, [.ref rk, .ref bs, .ref od, .ref jb, .ref ap, .int 0, .int 1, .int 0, .int 0, .int 0])), (rk, .inr (4, [.ref hd, .ref jm])), (hd, .inl (cI, 96, .inl (fun _ => 0))), (jm, .inl (cZ, 4, .inl (fun _ => 0))), (bs, .inl (cB, 2, .inr (.inr (.inr (.inr (va_up (va_up (fun _ => none) 0 (some b0)) 1 (some b1))))))), (b0, .inr (0, [.int 2, .int 0, .int 0, .int 0, .int 0, .int (-1)])), (b1, .inr (0, [.int 2, .int 0, .int 0, .int 0, .int 0, .int (-1)])), (od, .inr (2, [.ref o1, .ref o2, .ref o3, .int 0])), (jb, .inr (1, [.ref pl, .int (-1), .int 0, .int 0, .int 0]))]) [0, 1, 2, 3, 4, 5, 6, 7, 8] (by decide) rfl
      have hKc := hK.sub (tys' := [(cI, .int), (cZ, .boolean), (cB, .object "ParkTower$Bay")]) [0, 1, 2] rfl
      have hFc := va_free (wc := [(x, .inr (5, [.ref rk, .ref bs, .ref od, .ref jb, .ref ap, .int 0, .int 1, .int 0, .int 0, .int 0])), (rk, .inr (4, [.ref hd, .ref jm])), (hd, .inl (cI, 96, .inl (fun _ => 0))), (jm, .inl (cZ, 4, .inl (fun _ => 0))), (bs, .inl (cB, 2, .inr (.inr (.inr (.inr (va_up (va_up (fun _ => none) 0 (some b0)) 1 (some b1))))))), (b0, .inr (0, [.int 2, .int 0, .int 0, .int 0, .int 0, .int (-1)])), (b1, .inr (0, [.int 2, .int 0, .int 0, .int 0, .int 0, .int (-1)])), (od, .inr (2, [.ref o1, .ref o2, .ref o3, .int 0])), (jb, .inr (1, [.ref pl, .int (-1), .int 0, .int 0, .int 0]))]) hD hS hA [0, 1, 2, 3, 4, 5, 6, 7, 8] rfl
      refine va_calli (vx_runSW (As := [.ref x, .int v1, .int 1]) (rest := []) ⟨hx, hb, hml, hown, hts⟩ (w_person l hlt dC dI _ x rk hd jm bs b0 b1 od o1 o2 o3 jb pl ap cI cZ cB v1 1 (by decide)) (vx_cwSW 3 hts gk_L_person rfl rfl rfl (by decide +kernel) ⟨Nat.le_of_ble_eq_true rfl, Nat.le_of_ble_eq_true rfl⟩) ⟨pt_blindT, pt_preT hPc hKc hDc hN hE (pt_Z.up hZ (fun q h1 h2 => hS.2.1 q h1 h2) hS.1)⟩ rfl rfl hl.1 rfl (lv_room (Nat.le_of_ble_eq_true rfl)) dL_law_249 ⟨Nat.le_of_ble_eq_true rfl, Nat.le_of_ble_eq_true rfl⟩) hS (fun q _ h => hFc q h) hFc (fun r_16 u_16 t H1 locs ht hvm hw_16 hB hz1 hk1 hS => ?_)
      obtain ⟨hP1, hK1, hD1⟩ := hB
      rw [ht] at hP1
      have hK1 := va_K.moved hvm.symm hK1
      obtain ⟨hP, hD⟩ := va_join (wr := [(mo, .inr (6, [.int 0, .int 0, .int 0, .int 0, .ref m4, .ref m5, .ref m6, .ref m7, .ref m8, .ref m9, .ref m10, .ref m11, .ref m12, .int 1, .int 0, .int 0, .ref m16, .ref m17, .ref m18, .int 0, .int 0, .int 0, .int 0, .int 0, .int 0, .int 0, .int 0, .ref m27, .int 0, .ref m29, .ref m30, .ref m31])), (m4, .inl (y4, 700, .inl (fun _ => 0))), (m5, .inl (y5, 700, .inl (fun _ => 0))), (m6, .inl (y6, 700, .inl (fun _ => 0))), (m7, .inl (y7, 96, .inl (fun _ => 0))), (m8, .inl (y8, 2, .inl (upd (upd (fun _ => 0) 0 2) 1 2))), (m9, .inl (y9, 2, .inl (fun _ => 0))), (m10, .inl (y10, 2, .inl (fun _ => 0))), (m11, .inl (y11, 2, .inl (upd (upd (fun _ => 0) 0 (-1)) 1 (-1)))), (m12, .inl (y12, 4, .inl (fun _ => 0))), (ot, .inl (cL, 1, .inr (.inl (fun _ => 0))))]) (w1 := []) hP hD [0, 1, 2, 3, 4, 5, 6, 7, 8] [9, 10, 11, 12, 13, 14, 15, 16, 17, 18, 19] rfl rfl (by decide) (by decide) hk1 hFc hP1 hD1
      have hK := hK.app hK1
      generalize H1 = H at hP hS ⊢
      have hP : va_P (dC, dI) vwCl [(mo, .inr (6, [.int 0, .int 0, .int 0, .int 0, .ref m4, .ref m5, .ref m6, .ref m7, .ref m8, .ref m9, .ref m10, .ref m11, .ref m12, .int 1, .int 0, .int 0, .ref m16, .ref m17, .ref m18, .int 0, .int 0, .int 0, .int 0, .int 0, .int 0, .int 0, .int 0, .ref m27, .int 0, .ref m29, .ref m30, .ref m31])), (m4, .inl (y4, 700, .inl (fun _ => 0))), (m5, .inl (y5, 700, .inl (fun _ => 0))), (m6, .inl (y6, 700, .inl (fun _ => 0))), (m7, .inl (y7, 96, .inl (fun _ => 0))), (m8, .inl (y8, 2, .inl (upd (upd (fun _ => 0) 0 2) 1 2))), (m9, .inl (y9, 2, .inl (fun _ => 0))), (m10, .inl (y10, 2, .inl (fun _ => 0))), (m11, .inl (y11, 2, .inl (upd (upd (fun _ => 0) 0 (-1)) 1 (-1)))), (m12, .inl (y12, 4, .inl (fun _ => 0))), (ot, .inl (cL, 1, .inr (.inl (fun _ => 0))))] H := hP
      have hD : va_D (fun q : Nat => s.heap.size ≤ q) [(mo, .inr (6, [.int 0, .int 0, .int 0, .int 0, .ref m4, .ref m5, .ref m6, .ref m7, .ref m8, .ref m9, .ref m10, .ref m11, .ref m12, .int 1, .int 0, .int 0, .ref m16, .ref m17, .ref m18, .int 0, .int 0, .int 0, .int 0, .int 0, .int 0, .int 0, .int 0, .ref m27, .int 0, .ref m29, .ref m30, .ref m31])), (m4, .inl (y4, 700, .inl (fun _ => 0))), (m5, .inl (y5, 700, .inl (fun _ => 0))), (m6, .inl (y6, 700, .inl (fun _ => 0))), (m7, .inl (y7, 96, .inl (fun _ => 0))), (m8, .inl (y8, 2, .inl (upd (upd (fun _ => 0) 0 2) 1 2))), (m9, .inl (y9, 2, .inl (fun _ => 0))), (m10, .inl (y10, 2, .inl (fun _ => 0))), (m11, .inl (y11, 2, .inl (upd (upd (fun _ => 0) 0 (-1)) 1 (-1)))), (m12, .inl (y12, 4, .inl (fun _ => 0))), (ot, .inl (cL, 1, .inr (.inl (fun _ => 0))))] := hD
      have hK : va_K (dC, dI) vwCl [(cI, .int), (cZ, .boolean), (cB, .object "ParkTower$Bay"), (y4, .int), (y5, .int), (y6, .int), (y7, .int), (y8, .int), (y9, .int), (y10, .boolean), (y11, .int), (y12, .boolean), (cL, .long)] s := hK
      refine W.widen (k := 37) (n := 2564) (by omega) (by omega) ?_
      obtain rfl : r_16 = 1 := hw_16.trans (if_neg hok)
      refine lv_istore (lv' := [(5, .int 1), (4, .int 0), (3, .ref ot), (2, .ref mo), (1, .ref x), (0, .ref b)]) hx hb dL_law_252 hl (by decide) rfl (fun ls hl => ?_)
      refine lv_aload_n hx hb dL_law_254 rfl (lv_at hl 3 rfl) ?_
      refine lv_aload_n hx hb dL_law_255 rfl (lv_at hl 5 rfl) ?_
      refine lv_iload hx hb dL_law_256 (lv_at hl 1 rfl) ?_
      refine lv_iconst (v := 1) hx hb dL_law_258 (by decide) ?_
      refine lv_iadd hx hb dL_law_259 ?_
      refine pt_topi 1 (by decide) ?_
      refine va_sld hx hb hX hbl hbA hS (vp_in_iff.mpr (by decide)) dL_law_260 ?_
      refine pt_topi v1 e1 ?_
      refine lv_aload_n hx hb dL_law_261 rfl (lv_at hl 5 rfl) ?_
      refine lv_iload hx hb dL_law_262 (lv_at hl 1 rfl) ?_
      refine lv_iconst (v := 2) hx hb dL_law_264 (by decide) ?_
      refine lv_iadd hx hb dL_law_265 ?_
      refine pt_topi 2 (by decide) ?_
      refine va_sld hx hb hX hbl hbA hS (vp_in_iff.mpr (by decide)) dL_law_266 ?_
      refine pt_topi v2 e2 ?_
      refine lv_if_eq (tgt := 274) hx hb dL_law_267 (by decide) (fun c => absurd c (by assumption)) (fun _ => ?_)
      refine lv_iconst (v := 1) hx hb dL_law_270 (by decide) ?_
      refine lv_goto (tgt := 275) hx hb dL_law_271 (by decide) ?_
      have hPc := hP.sub (ws' := [(mo, .inr (6, [.int 0, .int 0, .int 0, .int 0, .ref m4, .ref m5, .ref m6, .ref m7, .ref m8, .ref m9, .ref m10, .ref m11, .ref m12, .int 1, .int 0, .int 0, .ref m16, .ref m17, .ref m18, .int 0, .int 0, .int 0, .int 0, .int 0, .int 0, .int 0, .int 0, .ref m27, .int 0, .ref m29, .ref m30, .ref m31])), (m4, .inl (y4, 700, .inl (fun _ => 0))), (m5, .inl (y5, 700, .inl (fun _ => 0))), (m6, .inl (y6, 700, .inl (fun _ => 0))), (m7, .inl (y7, 96, .inl (fun _ => 0))), (m8, .inl (y8, 2, .inl (upd (upd (fun _ => 0) 0 2) 1 2))), (m9, .inl (y9, 2, .inl (fun _ => 0))), (m10, .inl (y10, 2, .inl (fun _ => 0))), (m11, .inl (y11, 2, .inl (upd (upd (fun _ => 0) 0 (-1)) 1 (-1)))), (m12, .inl (y12, 4, .inl (fun _ => 0)))]) [0, 1, 2, 3, 4, 5, 6, 7, 8, 9] rfl
      have hDc := hD.sub (ws' := [(mo, .inr (6, [.int 0, .int 0, .int 0, .int 0, .ref m4, .ref m5, .ref m6, .ref m7, .ref m8, .ref m9, .ref m10, .ref m11, .ref m12, .int 1, .int 0, .int 0, .ref m16, .ref m17, .ref m18, .int 0, .int 0, .int 0, .int 0, .int 0, .int 0, .int 0, .int 0, .ref m27, .int 0, .ref m29, .ref m30, .ref m31])), (m4, .inl (y4, 700, .inl (fun _ => 0))), (m5, .inl (y5, 700, .inl (fun _ => 0))), (m6, .inl (y6, 700, .inl (fun _ => 0))), (m7, .inl (y7, 96, .inl (fun _ => 0))), (m8, .inl (y8, 2, .inl (upd (upd (fun _ => 0) 0 2) 1 2))), (m9, .inl (y9, 2, .inl (fun _ => 0))), (m10, .inl (y10, 2, .inl (fun _ => 0))), (m11, .inl (y11, 2, .inl (upd (upd (fun _ => 0) 0 (-1)) 1 (-1)))), (m12, .inl (y12, 4, .inl (fun _ => 0)))]) [0, 1, 2, 3, 4, 5, 6, 7, 8, 9] (by decide) rfl
      have hKc := hK.sub (tys' := [(y4, .int), (y5, .int), (y6, .int), (y7, .int), (y8, .int), (y9, .int), (y10, .boolean), (y11, .int), (y12, .boolean)]) [3, 4, 5, 6, 7, 8, 9, 10, 11] rfl
      have hFc := va_free (wc := [(mo, .inr (6, [.int 0, .int 0, .int 0, .int 0, .ref m4, .ref m5, .ref m6, .ref m7, .ref m8, .ref m9, .ref m10, .ref m11, .ref m12, .int 1, .int 0, .int 0, .ref m16, .ref m17, .ref m18, .int 0, .int 0, .int 0, .int 0, .int 0, .int 0, .int 0, .int 0, .ref m27, .int 0, .ref m29, .ref m30, .ref m31])), (m4, .inl (y4, 700, .inl (fun _ => 0))), (m5, .inl (y5, 700, .inl (fun _ => 0))), (m6, .inl (y6, 700, .inl (fun _ => 0))), (m7, .inl (y7, 96, .inl (fun _ => 0))), (m8, .inl (y8, 2, .inl (upd (upd (fun _ => 0) 0 2) 1 2))), (m9, .inl (y9, 2, .inl (fun _ => 0))), (m10, .inl (y10, 2, .inl (fun _ => 0))), (m11, .inl (y11, 2, .inl (upd (upd (fun _ => 0) 0 (-1)) 1 (-1)))), (m12, .inl (y12, 4, .inl (fun _ => 0)))]) hD hS hA [0, 1, 2, 3, 4, 5, 6, 7, 8, 9] rfl
      refine va_callv (va_runV (As := [.int v1, .int 1]) (rest := []) ⟨hx, hb, hml, hown, hts⟩ (m_personX l dC dI _ mo m4 m5 m6 m7 m8 m9 m10 m11 m12 m16 m17 m18 m27 m29 m30 m31 y4 y5 y6 y7 y8 y9 y10 y11 y12 v1 1 hok) (cwV 2 hts gk_X8_person rfl rfl rfl (by decide +kernel) ⟨Nat.le_of_ble_eq_true rfl, Nat.le_of_ble_eq_true rfl⟩) ⟨pt_blindQ, va_recv hK hP (ci := 6) (q0 := 0) rfl rfl, pt_preQ hPc hKc hDc hN⟩ rfl rfl hl.1 rfl (lv_room (Nat.le_of_ble_eq_true rfl)) dL_law_275 ⟨Nat.le_of_ble_eq_true rfl, Nat.le_of_ble_eq_true rfl⟩) hS (fun q _ h => hFc q h) hFc (fun u_17 t H1 locs ht hvm hw_17 hB hz1 hk1 hS => ?_)
      obtain ⟨hP1, hK1, hD1⟩ := hB
      rw [ht] at hP1
      have hK1 := va_K.moved hvm.symm hK1
      obtain ⟨hP, hD⟩ := va_join (wr := [(ot, .inl (cL, 1, .inr (.inl (fun _ => 0))))]) (w1 := [(mo, .inr (6, .int u_17.1 :: u_17.2))]) hP hD [0, 1, 2, 3, 4, 5, 6, 7, 8, 9] [10] rfl rfl (by decide) (by decide) hk1 hFc hP1 hD1
      have hK := hK.app hK1
      generalize H1 = H at hP hS ⊢
      have hP : va_P (dC, dI) vwCl [(ot, .inl (cL, 1, .inr (.inl (fun _ => 0)))), (mo, .inr (6, .int u_17.1 :: u_17.2))] H := hP
      have hD : va_D (fun q : Nat => s.heap.size ≤ q) [(ot, .inl (cL, 1, .inr (.inl (fun _ => 0)))), (mo, .inr (6, .int u_17.1 :: u_17.2))] := hD
      have hK : va_K (dC, dI) vwCl [(cI, .int), (cZ, .boolean), (cB, .object "ParkTower$Bay"), (y4, .int), (y5, .int), (y6, .int), (y7, .int), (y8, .int), (y9, .int), (y10, .boolean), (y11, .int), (y12, .boolean), (cL, .long)] s := hK
      refine W.widen (k := 37) (n := 2564) (by omega) (by omega) ?_
      refine lv_aload_n hx hb dL_law_278 rfl (lv_at hl 3 rfl) ?_
      refine pt_cSi (va_runV (As := []) (rest := []) ⟨hx, hb, hml, hown, hts⟩ (c_thrown l dC dI mo u_17.1 u_17.2) (cwV 0 hts gk_X8_thrown rfl rfl rfl (by decide +kernel) ⟨Nat.le_of_ble_eq_true rfl, Nat.le_of_ble_eq_true rfl⟩) ⟨pt_blind, va_recv hK hP (ci := 6) (q0 := 1) rfl rfl, pt_pre (w := [(mo, .inr (6, .int u_17.1 :: u_17.2))]) (tys := []) (hP.sub [1] rfl) (hK.sub [] rfl) hN⟩ rfl rfl hl.1 rfl (lv_room (Nat.le_of_ble_eq_true rfl)) dL_law_279 ⟨Nat.le_of_ble_eq_true rfl, Nat.le_of_ble_eq_true rfl⟩) (fun r_18 hr_18 => ?_)
      obtain rfl : r_18 = 1 := hr_18.trans hw_17
      refine lv_iload hx hb dL_law_282 (lv_at hl 0 rfl) ?_
      refine lv_icmp_eq (tgt := 289) hx hb dL_law_284 (by decide) (fun _ => ?_) (fun c => absurd (by decide) c)
      refine lv_goto (tgt := 824) hx hb dL_law_289 (by decide) ?_
      exact law_end l C0 (Nat.le_of_ble_eq_true rfl) (Nat.le_of_ble_eq_true rfl) hS ls (lv_sub hl [1, 5] rfl)
set_option maxHeartbeats 4000000 in
set_option maxRecDepth 100000 in
theorem law_gone {p : Program} {e : Env} {s : State} {m : MethodId} {below : List Frame} {meth : Method} {c : Code} (l : Launch) (hlt : l.stackTraces = false) {b : Nat} {xs : Nat → Int32} (C0 : lw_At p s m meth c b 5 xs) (dC : Nat → ClassId) (dI : Nat → Nat → Nat) (x rk hd jm bs b0 b1 od o1 o2 o3 jb pl ap : Nat) (cI cZ cB : ClassId) (mo m4 m5 m6 m7 m8 m9 m10 m11 m12 m16 m17 m18 m27 m29 m30 m31 : Nat) (y4 y5 y6 y7 y8 y9 y10 y11 y12 : ClassId) (ot : Nat) (cL : ClassId) (H : Heap) (locs : List Loc) (hN : pt_N s) (hE : pt_E s) (hZ : pt_Z s.heap.size s s.heap) (hK : va_K (dC, dI) vwCl [(cI, .int), (cZ, .boolean), (cB, .object "ParkTower$Bay"), (y4, .int), (y5, .int), (y6, .int), (y7, .int), (y8, .int), (y9, .int), (y10, .boolean), (y11, .int), (y12, .boolean), (cL, .long)] s) (hP : va_P (dC, dI) vwCl [(x, .inr (5, [.ref rk, .ref bs, .ref od, .ref jb, .ref ap, .int 0, .int 1, .int 0, .int 0, .int 0])), (rk, .inr (4, [.ref hd, .ref jm])), (hd, .inl (cI, 96, .inl (fun _ => 0))), (jm, .inl (cZ, 4, .inl (fun _ => 0))), (bs, .inl (cB, 2, .inr (.inr (.inr (.inr (va_up (va_up (fun _ => none) 0 (some b0)) 1 (some b1))))))), (b0, .inr (0, [.int 2, .int 0, .int 0, .int 0, .int 0, .int (-1)])), (b1, .inr (0, [.int 2, .int 0, .int 0, .int 0, .int 0, .int (-1)])), (od, .inr (2, [.ref o1, .ref o2, .ref o3, .int 0])), (jb, .inr (1, [.ref pl, .int (-1), .int 0, .int 0, .int 0])), (mo, .inr (6, [.int 0, .int 0, .int 0, .int 0, .ref m4, .ref m5, .ref m6, .ref m7, .ref m8, .ref m9, .ref m10, .ref m11, .ref m12, .int 1, .int 0, .int 0, .ref m16, .ref m17, .ref m18, .int 0, .int 0, .int 0, .int 0, .int 0, .int 0, .int 0, .int 0, .ref m27, .int 0, .ref m29, .ref m30, .ref m31])), (m4, .inl (y4, 700, .inl (fun _ => 0))), (m5, .inl (y5, 700, .inl (fun _ => 0))), (m6, .inl (y6, 700, .inl (fun _ => 0))), (m7, .inl (y7, 96, .inl (fun _ => 0))), (m8, .inl (y8, 2, .inl (upd (upd (fun _ => 0) 0 2) 1 2))), (m9, .inl (y9, 2, .inl (fun _ => 0))), (m10, .inl (y10, 2, .inl (fun _ => 0))), (m11, .inl (y11, 2, .inl (upd (upd (fun _ => 0) 0 (-1)) 1 (-1)))), (m12, .inl (y12, 4, .inl (fun _ => 0))), (ot, .inl (cL, 1, .inr (.inl (fun _ => 0))))] H) (hD : va_D (fun q : Nat => s.heap.size ≤ q) [(x, .inr (5, [.ref rk, .ref bs, .ref od, .ref jb, .ref ap, .int 0, .int 1, .int 0, .int 0, .int 0])), (rk, .inr (4, [.ref hd, .ref jm])), (hd, .inl (cI, 96, .inl (fun _ => 0))), (jm, .inl (cZ, 4, .inl (fun _ => 0))), (bs, .inl (cB, 2, .inr (.inr (.inr (.inr (va_up (va_up (fun _ => none) 0 (some b0)) 1 (some b1))))))), (b0, .inr (0, [.int 2, .int 0, .int 0, .int 0, .int 0, .int (-1)])), (b1, .inr (0, [.int 2, .int 0, .int 0, .int 0, .int 0, .int (-1)])), (od, .inr (2, [.ref o1, .ref o2, .ref o3, .int 0])), (jb, .inr (1, [.ref pl, .int (-1), .int 0, .int 0, .int 0])), (mo, .inr (6, [.int 0, .int 0, .int 0, .int 0, .ref m4, .ref m5, .ref m6, .ref m7, .ref m8, .ref m9, .ref m10, .ref m11, .ref m12, .int 1, .int 0, .int 0, .ref m16, .ref m17, .ref m18, .int 0, .int 0, .int 0, .int 0, .int 0, .int 0, .int 0, .int 0, .ref m27, .int 0, .ref m29, .ref m30, .ref m31])), (m4, .inl (y4, 700, .inl (fun _ => 0))), (m5, .inl (y5, 700, .inl (fun _ => 0))), (m6, .inl (y6, 700, .inl (fun _ => 0))), (m7, .inl (y7, 96, .inl (fun _ => 0))), (m8, .inl (y8, 2, .inl (upd (upd (fun _ => 0) 0 2) 1 2))), (m9, .inl (y9, 2, .inl (fun _ => 0))), (m10, .inl (y10, 2, .inl (fun _ => 0))), (m11, .inl (y11, 2, .inl (upd (upd (fun _ => 0) 0 (-1)) 1 (-1)))), (m12, .inl (y12, 4, .inl (fun _ => 0))), (ot, .inl (cL, 1, .inr (.inl (fun _ => 0))))]) (hS : va_S (fun q : Nat => s.heap.size ≤ q) s.heap H locs) (ls : Array Slot) (hl : lv_has ls 7 [(4, .int 0), (3, .ref ot), (2, .ref mo), (1, .ref x), (0, .ref b)]) : W p l e room_1 s m #[Value.ref b] below meth c H locs 36 2558 (lw_Z below #[Value.ref b] s) (F0 m 292 ls []) := by
  obtain ⟨hx, hb, hr, hml, hown, hts, hX, hbl, hlocks, hgv⟩ := id C0
  have hbA : ¬ (fun q : Nat => s.heap.size ≤ q) b := Nat.not_le.mpr hbl
  have hA : ∀ q : Nat, s.heap.size ≤ q → (fun q : Nat => s.heap.size ≤ q) q := fun _ h => h
  obtain ⟨v1, e1⟩ : ∃ z, xs 1 = z := ⟨_, rfl⟩
  by_cases hok : v1 = 0 ∨ v1 = 1
  · rcases hok with rfl | rfl
    · skip
      refine lv_aload_n hx hb dL_law_292 rfl (lv_at hl 3 rfl) ?_
      refine lv_aload_n hx hb dL_law_293 rfl (lv_at hl 4 rfl) ?_
      refine lv_iload hx hb dL_law_294 (lv_at hl 0 rfl) ?_
      refine lv_iconst (v := 1) hx hb dL_law_296 (by decide) ?_
      refine lv_iadd hx hb dL_law_297 ?_
      refine pt_topi 1 (by decide) ?_
      refine va_sld hx hb hX hbl hbA hS (vp_in_iff.mpr (by decide)) dL_law_298 ?_
      refine pt_topi 0 e1 ?_
      refine lv_aload_n hx hb dL_law_299 rfl (lv_at hl 1 rfl) ?_
      have hPc := hP.sub (ws' := [(x, .inr (5, [.ref rk, .ref bs, .ref od, .ref jb, .ref ap, .int 0, .int 1, .int 0, .int 0, .int 0])), (rk, .inr (4, [.ref hd, .ref jm])), (hd, .inl (cI, 96, .inl (fun _ => 0))), (jm, .inl (cZ, 4, .inl (fun _ => 0))), (bs, .inl (cB, 2, .inr (.inr (.inr (.inr (va_up (va_up (fun _ => none) 0 (some b0)) 1 (some b1))))))), (b0, .inr (0, [.int 2, .int 0, .int 0, .int 0, .int 0, .int (-1)])), (b1, .inr (0, [.int 2, .int 0, .int 0, .int 0, .int 0, .int (-1)])), (od, .inr (2, [.ref o1, .ref o2, .ref o3, .int 0])), (jb, .inr (1, [.ref pl, .int (-1), .int 0, .int 0, .int 0])), (ot, .inl (cL, 1, .inr (.inl (fun _ => 0))))]) [0, 1, 2, 3, 4, 5, 6, 7, 8, 19] rfl
      have hDc := hD.sub (ws' := [(x, .inr (5, [.ref rk, .ref bs, .ref od, .ref jb, .ref ap, .int 0, .int 1, .int 0, .int 0, .int 0])), (rk, .inr (4, [.ref hd, .ref jm])), (hd, .inl (cI, 96, .inl (fun _ => 0))), (jm, .inl (cZ, 4, .inl (fun _ => 0))), (bs, .inl (cB, 2, .inr (.inr (.inr (.inr (va_up (va_up (fun _ => none) 0 (some b0)) 1 (some b1))))))), (b0, .inr (0, [.int 2, .int 0, .int 0, .int 0, .int 0, .int (-1)])), (b1, .inr (0, [.int 2, .int 0, .int 0, .int 0, .int 0, .int (-1)])), (od, .inr (2, [.ref o1, .ref o2, .ref o3, .int 0])), (jb, .inr (1, [.ref pl, .int (-1), .int 0, .int 0, .int 0])), (ot, .inl (cL, 1, .inr (.inl (fun _ => 0))))]) [0, 1, 2, 3, 4, 5, 6, 7, 8, 19] (by decide) rfl
      have hKc := hK.sub (tys' := [(cI, .int), (cZ, .boolean), (cB, .object "ParkTower$Bay"), (cL, .long)]) [0, 1, 2, 12] rfl
      have hFc := va_free (wc := [(x, .inr (5, [.ref rk, .ref bs, .ref od, .ref jb, .ref ap, .int 0, .int 1, .int 0, .int 0, .int 0])), (rk, .inr (4, [.ref hd, .ref jm])), (hd, .inl (cI, 96, .inl (fun _ => 0))), (jm, .inl (cZ, 4, .inl (fun _ => 0))), (bs, .inl (cB, 2, .inr (.inr (.inr (.inr (va_up (va_up (fun _ => none) 0 (some b0)) 1 (some b1))))))), (b0, .inr (0, [.int 2, .int 0, .int 0, .int 0, .int 0, .int (-1)])), (b1, .inr (0, [.int 2, .int 0, .int 0, .int 0, .int 0, .int (-1)])), (od, .inr (2, [.ref o1, .ref o2, .ref o3, .int 0])), (jb, .inr (1, [.ref pl, .int (-1), .int 0, .int 0, .int 0])), (ot, .inl (cL, 1, .inr (.inl (fun _ => 0))))]) hD hS hA [0, 1, 2, 3, 4, 5, 6, 7, 8, 19] rfl
      refine va_calli (vx_runSW (As := [.ref x, .int 0, .ref ot]) (rest := []) ⟨hx, hb, hml, hown, hts⟩ (w_gone l hlt dC dI _ x rk hd jm bs b0 b1 od o1 o2 o3 jb pl ap cI cZ cB ot cL (fun _ => 0) 0) (vx_cwSW 3 hts gk_L_gone rfl rfl rfl (by decide +kernel) ⟨Nat.le_of_ble_eq_true rfl, Nat.le_of_ble_eq_true rfl⟩) ⟨pt_blindT, pt_preT hPc hKc hDc hN hE (pt_Z.up hZ (fun q h1 h2 => hS.2.1 q h1 h2) hS.1)⟩ rfl rfl hl.1 rfl (lv_room (Nat.le_of_ble_eq_true rfl)) dL_law_300 ⟨Nat.le_of_ble_eq_true rfl, Nat.le_of_ble_eq_true rfl⟩) hS (fun q _ h => hFc q h) hFc (fun r_1 u_1 t H1 locs ht hvm hw_1 hB hz1 hk1 hS => ?_)
      obtain ⟨hP1, hK1, hD1⟩ := hB
      rw [ht] at hP1
      have hK1 := va_K.moved hvm.symm hK1
      obtain ⟨hP, hD⟩ := va_join (wr := [(mo, .inr (6, [.int 0, .int 0, .int 0, .int 0, .ref m4, .ref m5, .ref m6, .ref m7, .ref m8, .ref m9, .ref m10, .ref m11, .ref m12, .int 1, .int 0, .int 0, .ref m16, .ref m17, .ref m18, .int 0, .int 0, .int 0, .int 0, .int 0, .int 0, .int 0, .int 0, .ref m27, .int 0, .ref m29, .ref m30, .ref m31])), (m4, .inl (y4, 700, .inl (fun _ => 0))), (m5, .inl (y5, 700, .inl (fun _ => 0))), (m6, .inl (y6, 700, .inl (fun _ => 0))), (m7, .inl (y7, 96, .inl (fun _ => 0))), (m8, .inl (y8, 2, .inl (upd (upd (fun _ => 0) 0 2) 1 2))), (m9, .inl (y9, 2, .inl (fun _ => 0))), (m10, .inl (y10, 2, .inl (fun _ => 0))), (m11, .inl (y11, 2, .inl (upd (upd (fun _ => 0) 0 (-1)) 1 (-1)))), (m12, .inl (y12, 4, .inl (fun _ => 0)))]) (w1 := [(ot, .inl (cL, 1, .inr (.inl u_1)))]) hP hD [0, 1, 2, 3, 4, 5, 6, 7, 8, 19] [9, 10, 11, 12, 13, 14, 15, 16, 17, 18] rfl rfl (by decide) (by decide) hk1 hFc hP1 hD1
      have hK := hK.app hK1
      generalize H1 = H at hP hS ⊢
      have hP : va_P (dC, dI) vwCl [(mo, .inr (6, [.int 0, .int 0, .int 0, .int 0, .ref m4, .ref m5, .ref m6, .ref m7, .ref m8, .ref m9, .ref m10, .ref m11, .ref m12, .int 1, .int 0, .int 0, .ref m16, .ref m17, .ref m18, .int 0, .int 0, .int 0, .int 0, .int 0, .int 0, .int 0, .int 0, .ref m27, .int 0, .ref m29, .ref m30, .ref m31])), (m4, .inl (y4, 700, .inl (fun _ => 0))), (m5, .inl (y5, 700, .inl (fun _ => 0))), (m6, .inl (y6, 700, .inl (fun _ => 0))), (m7, .inl (y7, 96, .inl (fun _ => 0))), (m8, .inl (y8, 2, .inl (upd (upd (fun _ => 0) 0 2) 1 2))), (m9, .inl (y9, 2, .inl (fun _ => 0))), (m10, .inl (y10, 2, .inl (fun _ => 0))), (m11, .inl (y11, 2, .inl (upd (upd (fun _ => 0) 0 (-1)) 1 (-1)))), (m12, .inl (y12, 4, .inl (fun _ => 0))), (ot, .inl (cL, 1, .inr (.inl u_1)))] H := hP
      have hD : va_D (fun q : Nat => s.heap.size ≤ q) [(mo, .inr (6, [.int 0, .int 0, .int 0, .int 0, .ref m4, .ref m5, .ref m6, .ref m7, .ref m8, .ref m9, .ref m10, .ref m11, .ref m12, .int 1, .int 0, .int 0, .ref m16, .ref m17, .ref m18, .int 0, .int 0, .int 0, .int 0, .int 0, .int 0, .int 0, .int 0, .ref m27, .int 0, .ref m29, .ref m30, .ref m31])), (m4, .inl (y4, 700, .inl (fun _ => 0))), (m5, .inl (y5, 700, .inl (fun _ => 0))), (m6, .inl (y6, 700, .inl (fun _ => 0))), (m7, .inl (y7, 96, .inl (fun _ => 0))), (m8, .inl (y8, 2, .inl (upd (upd (fun _ => 0) 0 2) 1 2))), (m9, .inl (y9, 2, .inl (fun _ => 0))), (m10, .inl (y10, 2, .inl (fun _ => 0))), (m11, .inl (y11, 2, .inl (upd (upd (fun _ => 0) 0 (-1)) 1 (-1)))), (m12, .inl (y12, 4, .inl (fun _ => 0))), (ot, .inl (cL, 1, .inr (.inl u_1)))] := hD
      have hK : va_K (dC, dI) vwCl [(cI, .int), (cZ, .boolean), (cB, .object "ParkTower$Bay"), (y4, .int), (y5, .int), (y6, .int), (y7, .int), (y8, .int), (y9, .int), (y10, .boolean), (y11, .int), (y12, .boolean), (cL, .long)] s := hK
      refine W.widen (k := 37) (n := 2564) (by omega) (by omega) ?_
      obtain rfl : r_1 = 2 := hw_1.1.trans (if_pos (by decide))
      refine lv_istore (lv' := [(5, .int 2), (4, .int 0), (3, .ref ot), (2, .ref mo), (1, .ref x), (0, .ref b)]) hx hb dL_law_303 hl (by decide) rfl (fun ls hl => ?_)
      refine lv_aload_n hx hb dL_law_305 rfl (lv_at hl 3 rfl) ?_
      refine lv_aload_n hx hb dL_law_306 rfl (lv_at hl 5 rfl) ?_
      refine lv_iload hx hb dL_law_307 (lv_at hl 1 rfl) ?_
      refine lv_iconst (v := 1) hx hb dL_law_309 (by decide) ?_
      refine lv_iadd hx hb dL_law_310 ?_
      refine pt_topi 1 (by decide) ?_
      refine va_sld hx hb hX hbl hbA hS (vp_in_iff.mpr (by decide)) dL_law_311 ?_
      refine pt_topi 0 e1 ?_
      have hPc := hP.sub (ws' := [(mo, .inr (6, [.int 0, .int 0, .int 0, .int 0, .ref m4, .ref m5, .ref m6, .ref m7, .ref m8, .ref m9, .ref m10, .ref m11, .ref m12, .int 1, .int 0, .int 0, .ref m16, .ref m17, .ref m18, .int 0, .int 0, .int 0, .int 0, .int 0, .int 0, .int 0, .int 0, .ref m27, .int 0, .ref m29, .ref m30, .ref m31])), (m4, .inl (y4, 700, .inl (fun _ => 0))), (m5, .inl (y5, 700, .inl (fun _ => 0))), (m6, .inl (y6, 700, .inl (fun _ => 0))), (m7, .inl (y7, 96, .inl (fun _ => 0))), (m8, .inl (y8, 2, .inl (upd (upd (fun _ => 0) 0 2) 1 2))), (m9, .inl (y9, 2, .inl (fun _ => 0))), (m10, .inl (y10, 2, .inl (fun _ => 0))), (m11, .inl (y11, 2, .inl (upd (upd (fun _ => 0) 0 (-1)) 1 (-1)))), (m12, .inl (y12, 4, .inl (fun _ => 0)))]) [0, 1, 2, 3, 4, 5, 6, 7, 8, 9] rfl
      have hDc := hD.sub (ws' := [(mo, .inr (6, [.int 0, .int 0, .int 0, .int 0, .ref m4, .ref m5, .ref m6, .ref m7, .ref m8, .ref m9, .ref m10, .ref m11, .ref m12, .int 1, .int 0, .int 0, .ref m16, .ref m17, .ref m18, .int 0, .int 0, .int 0, .int 0, .int 0, .int 0, .int 0, .int 0, .ref m27, .int 0, .ref m29, .ref m30, .ref m31])), (m4, .inl (y4, 700, .inl (fun _ => 0))), (m5, .inl (y5, 700, .inl (fun _ => 0))), (m6, .inl (y6, 700, .inl (fun _ => 0))), (m7, .inl (y7, 96, .inl (fun _ => 0))), (m8, .inl (y8, 2, .inl (upd (upd (fun _ => 0) 0 2) 1 2))), (m9, .inl (y9, 2, .inl (fun _ => 0))), (m10, .inl (y10, 2, .inl (fun _ => 0))), (m11, .inl (y11, 2, .inl (upd (upd (fun _ => 0) 0 (-1)) 1 (-1)))), (m12, .inl (y12, 4, .inl (fun _ => 0)))]) [0, 1, 2, 3, 4, 5, 6, 7, 8, 9] (by decide) rfl
      have hKc := hK.sub (tys' := [(y4, .int), (y5, .int), (y6, .int), (y7, .int), (y8, .int), (y9, .int), (y10, .boolean), (y11, .int), (y12, .boolean)]) [3, 4, 5, 6, 7, 8, 9, 10, 11] rfl
      have hFc := va_free (wc := [(mo, .inr (6, [.int 0, .int 0, .int 0, .int 0, .ref m4, .ref m5, .ref m6, .ref m7, .ref m8, .ref m9, .ref m10, .ref m11, .ref m12, .int 1, .int 0, .int 0, .ref m16, .ref m17, .ref m18, .int 0, .int 0, .int 0, .int 0, .int 0, .int 0, .int 0, .int 0, .ref m27, .int 0, .ref m29, .ref m30, .ref m31])), (m4, .inl (y4, 700, .inl (fun _ => 0))), (m5, .inl (y5, 700, .inl (fun _ => 0))), (m6, .inl (y6, 700, .inl (fun _ => 0))), (m7, .inl (y7, 96, .inl (fun _ => 0))), (m8, .inl (y8, 2, .inl (upd (upd (fun _ => 0) 0 2) 1 2))), (m9, .inl (y9, 2, .inl (fun _ => 0))), (m10, .inl (y10, 2, .inl (fun _ => 0))), (m11, .inl (y11, 2, .inl (upd (upd (fun _ => 0) 0 (-1)) 1 (-1)))), (m12, .inl (y12, 4, .inl (fun _ => 0)))]) hD hS hA [0, 1, 2, 3, 4, 5, 6, 7, 8, 9] rfl
      refine va_calli (va_runV (As := [.int 0]) (rest := []) ⟨hx, hb, hml, hown, hts⟩ (m_gone0 l dC dI _ mo m4 m5 m6 m7 m8 m9 m10 m11 m12 m16 m17 m18 m27 m29 m30 m31 y4 y5 y6 y7 y8 y9 y10 y11 y12) (cwV 1 hts gk_X8_gone rfl rfl rfl (by decide +kernel) ⟨Nat.le_of_ble_eq_true rfl, Nat.le_of_ble_eq_true rfl⟩) ⟨pt_blindQ, va_recv hK hP (ci := 6) (q0 := 0) rfl rfl, pt_preQ hPc hKc hDc hN⟩ rfl rfl hl.1 rfl (lv_room (Nat.le_of_ble_eq_true rfl)) dL_law_312 ⟨Nat.le_of_ble_eq_true rfl, Nat.le_of_ble_eq_true rfl⟩) hS (fun q _ h => hFc q h) hFc (fun r_2 u_2 t H1 locs ht hvm hw_2 hB hz1 hk1 hS => ?_)
      obtain ⟨hP1, hK1, hD1⟩ := hB
      rw [ht] at hP1
      have hK1 := va_K.moved hvm.symm hK1
      obtain ⟨hP, hD⟩ := va_join (wr := [(ot, .inl (cL, 1, .inr (.inl u_1)))]) (w1 := [(mo, .inr (6, .int u_2.1 :: u_2.2))]) hP hD [0, 1, 2, 3, 4, 5, 6, 7, 8, 9] [10] rfl rfl (by decide) (by decide) hk1 hFc hP1 hD1
      have hK := hK.app hK1
      generalize H1 = H at hP hS ⊢
      have hP : va_P (dC, dI) vwCl [(ot, .inl (cL, 1, .inr (.inl u_1))), (mo, .inr (6, .int u_2.1 :: u_2.2))] H := hP
      have hD : va_D (fun q : Nat => s.heap.size ≤ q) [(ot, .inl (cL, 1, .inr (.inl u_1))), (mo, .inr (6, .int u_2.1 :: u_2.2))] := hD
      have hK : va_K (dC, dI) vwCl [(cI, .int), (cZ, .boolean), (cB, .object "ParkTower$Bay"), (y4, .int), (y5, .int), (y6, .int), (y7, .int), (y8, .int), (y9, .int), (y10, .boolean), (y11, .int), (y12, .boolean), (cL, .long)] s := hK
      refine W.widen (k := 37) (n := 2564) (by omega) (by omega) ?_
      refine lv_istore (lv' := [(6, .int r_2), (5, .int 2), (4, .int 0), (3, .ref ot), (2, .ref mo), (1, .ref x), (0, .ref b)]) hx hb dL_law_315 hl (by decide) rfl (fun ls hl => ?_)
      refine lv_aload_n hx hb dL_law_317 rfl (lv_at hl 4 rfl) ?_
      refine pt_cSi (va_runV (As := []) (rest := []) ⟨hx, hb, hml, hown, hts⟩ (c_thrown l dC dI mo u_2.1 u_2.2) (cwV 0 hts gk_X8_thrown rfl rfl rfl (by decide +kernel) ⟨Nat.le_of_ble_eq_true rfl, Nat.le_of_ble_eq_true rfl⟩) ⟨pt_blind, va_recv hK hP (ci := 6) (q0 := 1) rfl rfl, pt_pre (w := [(mo, .inr (6, .int u_2.1 :: u_2.2))]) (tys := []) (hP.sub [1] rfl) (hK.sub [] rfl) hN⟩ rfl rfl hl.1 rfl (lv_room (Nat.le_of_ble_eq_true rfl)) dL_law_318 ⟨Nat.le_of_ble_eq_true rfl, Nat.le_of_ble_eq_true rfl⟩) (fun r_3 hr_3 => ?_)
      obtain rfl : r_3 = 2 := hr_3.trans hw_2.1
      refine lv_iload hx hb dL_law_321 (lv_at hl 1 rfl) ?_
      refine lv_icmp_eq (tgt := 328) hx hb dL_law_323 (by decide) (fun _ => ?_) (fun c => absurd (by decide) c)
      refine lv_iload hx hb dL_law_328 (lv_at hl 1 rfl) ?_
      refine lv_if_ne (tgt := 345) hx hb dL_law_330 (by decide) (fun _ => ?_) (fun c => absurd c (by decide))
      refine lv_goto (tgt := 824) hx hb dL_law_345 (by decide) ?_
      exact law_end l C0 (Nat.le_of_ble_eq_true rfl) (Nat.le_of_ble_eq_true rfl) hS ls (lv_sub hl [2, 6] rfl)
    · skip
      refine lv_aload_n hx hb dL_law_292 rfl (lv_at hl 3 rfl) ?_
      refine lv_aload_n hx hb dL_law_293 rfl (lv_at hl 4 rfl) ?_
      refine lv_iload hx hb dL_law_294 (lv_at hl 0 rfl) ?_
      refine lv_iconst (v := 1) hx hb dL_law_296 (by decide) ?_
      refine lv_iadd hx hb dL_law_297 ?_
      refine pt_topi 1 (by decide) ?_
      refine va_sld hx hb hX hbl hbA hS (vp_in_iff.mpr (by decide)) dL_law_298 ?_
      refine pt_topi 1 e1 ?_
      refine lv_aload_n hx hb dL_law_299 rfl (lv_at hl 1 rfl) ?_
      have hPc := hP.sub (ws' := [(x, .inr (5, [.ref rk, .ref bs, .ref od, .ref jb, .ref ap, .int 0, .int 1, .int 0, .int 0, .int 0])), (rk, .inr (4, [.ref hd, .ref jm])), (hd, .inl (cI, 96, .inl (fun _ => 0))), (jm, .inl (cZ, 4, .inl (fun _ => 0))), (bs, .inl (cB, 2, .inr (.inr (.inr (.inr (va_up (va_up (fun _ => none) 0 (some b0)) 1 (some b1))))))), (b0, .inr (0, [.int 2, .int 0, .int 0, .int 0, .int 0, .int (-1)])), (b1, .inr (0, [.int 2, .int 0, .int 0, .int 0, .int 0, .int (-1)])), (od, .inr (2, [.ref o1, .ref o2, .ref o3, .int 0])), (jb, .inr (1, [.ref pl, .int (-1), .int 0, .int 0, .int 0])), (ot, .inl (cL, 1, .inr (.inl (fun _ => 0))))]) [0, 1, 2, 3, 4, 5, 6, 7, 8, 19] rfl
      have hDc := hD.sub (ws' := [(x, .inr (5, [.ref rk, .ref bs, .ref od, .ref jb, .ref ap, .int 0, .int 1, .int 0, .int 0, .int 0])), (rk, .inr (4, [.ref hd, .ref jm])), (hd, .inl (cI, 96, .inl (fun _ => 0))), (jm, .inl (cZ, 4, .inl (fun _ => 0))), (bs, .inl (cB, 2, .inr (.inr (.inr (.inr (va_up (va_up (fun _ => none) 0 (some b0)) 1 (some b1))))))), (b0, .inr (0, [.int 2, .int 0, .int 0, .int 0, .int 0, .int (-1)])), (b1, .inr (0, [.int 2, .int 0, .int 0, .int 0, .int 0, .int (-1)])), (od, .inr (2, [.ref o1, .ref o2, .ref o3, .int 0])), (jb, .inr (1, [.ref pl, .int (-1), .int 0, .int 0, .int 0])), (ot, .inl (cL, 1, .inr (.inl (fun _ => 0))))]) [0, 1, 2, 3, 4, 5, 6, 7, 8, 19] (by decide) rfl
      have hKc := hK.sub (tys' := [(cI, .int), (cZ, .boolean), (cB, .object "ParkTower$Bay"), (cL, .long)]) [0, 1, 2, 12] rfl
      have hFc := va_free (wc := [(x, .inr (5, [.ref rk, .ref bs, .ref od, .ref jb, .ref ap, .int 0, .int 1, .int 0, .int 0, .int 0])), (rk, .inr (4, [.ref hd, .ref jm])), (hd, .inl (cI, 96, .inl (fun _ => 0))), (jm, .inl (cZ, 4, .inl (fun _ => 0))), (bs, .inl (cB, 2, .inr (.inr (.inr (.inr (va_up (va_up (fun _ => none) 0 (some b0)) 1 (some b1))))))), (b0, .inr (0, [.int 2, .int 0, .int 0, .int 0, .int 0, .int (-1)])), (b1, .inr (0, [.int 2, .int 0, .int 0, .int 0, .int 0, .int (-1)])), (od, .inr (2, [.ref o1, .ref o2, .ref o3, .int 0])), (jb, .inr (1, [.ref pl, .int (-1), .int 0, .int 0, .int 0])), (ot, .inl (cL, 1, .inr (.inl (fun _ => 0))))]) hD hS hA [0, 1, 2, 3, 4, 5, 6, 7, 8, 19] rfl
      refine va_calli (vx_runSW (As := [.ref x, .int 1, .ref ot]) (rest := []) ⟨hx, hb, hml, hown, hts⟩ (w_gone l hlt dC dI _ x rk hd jm bs b0 b1 od o1 o2 o3 jb pl ap cI cZ cB ot cL (fun _ => 0) 1) (vx_cwSW 3 hts gk_L_gone rfl rfl rfl (by decide +kernel) ⟨Nat.le_of_ble_eq_true rfl, Nat.le_of_ble_eq_true rfl⟩) ⟨pt_blindT, pt_preT hPc hKc hDc hN hE (pt_Z.up hZ (fun q h1 h2 => hS.2.1 q h1 h2) hS.1)⟩ rfl rfl hl.1 rfl (lv_room (Nat.le_of_ble_eq_true rfl)) dL_law_300 ⟨Nat.le_of_ble_eq_true rfl, Nat.le_of_ble_eq_true rfl⟩) hS (fun q _ h => hFc q h) hFc (fun r_4 u_4 t H1 locs ht hvm hw_4 hB hz1 hk1 hS => ?_)
      obtain ⟨hP1, hK1, hD1⟩ := hB
      rw [ht] at hP1
      have hK1 := va_K.moved hvm.symm hK1
      obtain ⟨hP, hD⟩ := va_join (wr := [(mo, .inr (6, [.int 0, .int 0, .int 0, .int 0, .ref m4, .ref m5, .ref m6, .ref m7, .ref m8, .ref m9, .ref m10, .ref m11, .ref m12, .int 1, .int 0, .int 0, .ref m16, .ref m17, .ref m18, .int 0, .int 0, .int 0, .int 0, .int 0, .int 0, .int 0, .int 0, .ref m27, .int 0, .ref m29, .ref m30, .ref m31])), (m4, .inl (y4, 700, .inl (fun _ => 0))), (m5, .inl (y5, 700, .inl (fun _ => 0))), (m6, .inl (y6, 700, .inl (fun _ => 0))), (m7, .inl (y7, 96, .inl (fun _ => 0))), (m8, .inl (y8, 2, .inl (upd (upd (fun _ => 0) 0 2) 1 2))), (m9, .inl (y9, 2, .inl (fun _ => 0))), (m10, .inl (y10, 2, .inl (fun _ => 0))), (m11, .inl (y11, 2, .inl (upd (upd (fun _ => 0) 0 (-1)) 1 (-1)))), (m12, .inl (y12, 4, .inl (fun _ => 0)))]) (w1 := [(ot, .inl (cL, 1, .inr (.inl u_4)))]) hP hD [0, 1, 2, 3, 4, 5, 6, 7, 8, 19] [9, 10, 11, 12, 13, 14, 15, 16, 17, 18] rfl rfl (by decide) (by decide) hk1 hFc hP1 hD1
      have hK := hK.app hK1
      generalize H1 = H at hP hS ⊢
      have hP : va_P (dC, dI) vwCl [(mo, .inr (6, [.int 0, .int 0, .int 0, .int 0, .ref m4, .ref m5, .ref m6, .ref m7, .ref m8, .ref m9, .ref m10, .ref m11, .ref m12, .int 1, .int 0, .int 0, .ref m16, .ref m17, .ref m18, .int 0, .int 0, .int 0, .int 0, .int 0, .int 0, .int 0, .int 0, .ref m27, .int 0, .ref m29, .ref m30, .ref m31])), (m4, .inl (y4, 700, .inl (fun _ => 0))), (m5, .inl (y5, 700, .inl (fun _ => 0))), (m6, .inl (y6, 700, .inl (fun _ => 0))), (m7, .inl (y7, 96, .inl (fun _ => 0))), (m8, .inl (y8, 2, .inl (upd (upd (fun _ => 0) 0 2) 1 2))), (m9, .inl (y9, 2, .inl (fun _ => 0))), (m10, .inl (y10, 2, .inl (fun _ => 0))), (m11, .inl (y11, 2, .inl (upd (upd (fun _ => 0) 0 (-1)) 1 (-1)))), (m12, .inl (y12, 4, .inl (fun _ => 0))), (ot, .inl (cL, 1, .inr (.inl u_4)))] H := hP
      have hD : va_D (fun q : Nat => s.heap.size ≤ q) [(mo, .inr (6, [.int 0, .int 0, .int 0, .int 0, .ref m4, .ref m5, .ref m6, .ref m7, .ref m8, .ref m9, .ref m10, .ref m11, .ref m12, .int 1, .int 0, .int 0, .ref m16, .ref m17, .ref m18, .int 0, .int 0, .int 0, .int 0, .int 0, .int 0, .int 0, .int 0, .ref m27, .int 0, .ref m29, .ref m30, .ref m31])), (m4, .inl (y4, 700, .inl (fun _ => 0))), (m5, .inl (y5, 700, .inl (fun _ => 0))), (m6, .inl (y6, 700, .inl (fun _ => 0))), (m7, .inl (y7, 96, .inl (fun _ => 0))), (m8, .inl (y8, 2, .inl (upd (upd (fun _ => 0) 0 2) 1 2))), (m9, .inl (y9, 2, .inl (fun _ => 0))), (m10, .inl (y10, 2, .inl (fun _ => 0))), (m11, .inl (y11, 2, .inl (upd (upd (fun _ => 0) 0 (-1)) 1 (-1)))), (m12, .inl (y12, 4, .inl (fun _ => 0))), (ot, .inl (cL, 1, .inr (.inl u_4)))] := hD
      have hK : va_K (dC, dI) vwCl [(cI, .int), (cZ, .boolean), (cB, .object "ParkTower$Bay"), (y4, .int), (y5, .int), (y6, .int), (y7, .int), (y8, .int), (y9, .int), (y10, .boolean), (y11, .int), (y12, .boolean), (cL, .long)] s := hK
      refine W.widen (k := 37) (n := 2564) (by omega) (by omega) ?_
      obtain rfl : r_4 = 2 := hw_4.1.trans (if_pos (by decide))
      refine lv_istore (lv' := [(5, .int 2), (4, .int 0), (3, .ref ot), (2, .ref mo), (1, .ref x), (0, .ref b)]) hx hb dL_law_303 hl (by decide) rfl (fun ls hl => ?_)
      refine lv_aload_n hx hb dL_law_305 rfl (lv_at hl 3 rfl) ?_
      refine lv_aload_n hx hb dL_law_306 rfl (lv_at hl 5 rfl) ?_
      refine lv_iload hx hb dL_law_307 (lv_at hl 1 rfl) ?_
      refine lv_iconst (v := 1) hx hb dL_law_309 (by decide) ?_
      refine lv_iadd hx hb dL_law_310 ?_
      refine pt_topi 1 (by decide) ?_
      refine va_sld hx hb hX hbl hbA hS (vp_in_iff.mpr (by decide)) dL_law_311 ?_
      refine pt_topi 1 e1 ?_
      have hPc := hP.sub (ws' := [(mo, .inr (6, [.int 0, .int 0, .int 0, .int 0, .ref m4, .ref m5, .ref m6, .ref m7, .ref m8, .ref m9, .ref m10, .ref m11, .ref m12, .int 1, .int 0, .int 0, .ref m16, .ref m17, .ref m18, .int 0, .int 0, .int 0, .int 0, .int 0, .int 0, .int 0, .int 0, .ref m27, .int 0, .ref m29, .ref m30, .ref m31])), (m4, .inl (y4, 700, .inl (fun _ => 0))), (m5, .inl (y5, 700, .inl (fun _ => 0))), (m6, .inl (y6, 700, .inl (fun _ => 0))), (m7, .inl (y7, 96, .inl (fun _ => 0))), (m8, .inl (y8, 2, .inl (upd (upd (fun _ => 0) 0 2) 1 2))), (m9, .inl (y9, 2, .inl (fun _ => 0))), (m10, .inl (y10, 2, .inl (fun _ => 0))), (m11, .inl (y11, 2, .inl (upd (upd (fun _ => 0) 0 (-1)) 1 (-1)))), (m12, .inl (y12, 4, .inl (fun _ => 0)))]) [0, 1, 2, 3, 4, 5, 6, 7, 8, 9] rfl
      have hDc := hD.sub (ws' := [(mo, .inr (6, [.int 0, .int 0, .int 0, .int 0, .ref m4, .ref m5, .ref m6, .ref m7, .ref m8, .ref m9, .ref m10, .ref m11, .ref m12, .int 1, .int 0, .int 0, .ref m16, .ref m17, .ref m18, .int 0, .int 0, .int 0, .int 0, .int 0, .int 0, .int 0, .int 0, .ref m27, .int 0, .ref m29, .ref m30, .ref m31])), (m4, .inl (y4, 700, .inl (fun _ => 0))), (m5, .inl (y5, 700, .inl (fun _ => 0))), (m6, .inl (y6, 700, .inl (fun _ => 0))), (m7, .inl (y7, 96, .inl (fun _ => 0))), (m8, .inl (y8, 2, .inl (upd (upd (fun _ => 0) 0 2) 1 2))), (m9, .inl (y9, 2, .inl (fun _ => 0))), (m10, .inl (y10, 2, .inl (fun _ => 0))), (m11, .inl (y11, 2, .inl (upd (upd (fun _ => 0) 0 (-1)) 1 (-1)))), (m12, .inl (y12, 4, .inl (fun _ => 0)))]) [0, 1, 2, 3, 4, 5, 6, 7, 8, 9] (by decide) rfl
      have hKc := hK.sub (tys' := [(y4, .int), (y5, .int), (y6, .int), (y7, .int), (y8, .int), (y9, .int), (y10, .boolean), (y11, .int), (y12, .boolean)]) [3, 4, 5, 6, 7, 8, 9, 10, 11] rfl
      have hFc := va_free (wc := [(mo, .inr (6, [.int 0, .int 0, .int 0, .int 0, .ref m4, .ref m5, .ref m6, .ref m7, .ref m8, .ref m9, .ref m10, .ref m11, .ref m12, .int 1, .int 0, .int 0, .ref m16, .ref m17, .ref m18, .int 0, .int 0, .int 0, .int 0, .int 0, .int 0, .int 0, .int 0, .ref m27, .int 0, .ref m29, .ref m30, .ref m31])), (m4, .inl (y4, 700, .inl (fun _ => 0))), (m5, .inl (y5, 700, .inl (fun _ => 0))), (m6, .inl (y6, 700, .inl (fun _ => 0))), (m7, .inl (y7, 96, .inl (fun _ => 0))), (m8, .inl (y8, 2, .inl (upd (upd (fun _ => 0) 0 2) 1 2))), (m9, .inl (y9, 2, .inl (fun _ => 0))), (m10, .inl (y10, 2, .inl (fun _ => 0))), (m11, .inl (y11, 2, .inl (upd (upd (fun _ => 0) 0 (-1)) 1 (-1)))), (m12, .inl (y12, 4, .inl (fun _ => 0)))]) hD hS hA [0, 1, 2, 3, 4, 5, 6, 7, 8, 9] rfl
      refine va_calli (va_runV (As := [.int 1]) (rest := []) ⟨hx, hb, hml, hown, hts⟩ (m_gone1 l dC dI _ mo m4 m5 m6 m7 m8 m9 m10 m11 m12 m16 m17 m18 m27 m29 m30 m31 y4 y5 y6 y7 y8 y9 y10 y11 y12) (cwV 1 hts gk_X8_gone rfl rfl rfl (by decide +kernel) ⟨Nat.le_of_ble_eq_true rfl, Nat.le_of_ble_eq_true rfl⟩) ⟨pt_blindQ, va_recv hK hP (ci := 6) (q0 := 0) rfl rfl, pt_preQ hPc hKc hDc hN⟩ rfl rfl hl.1 rfl (lv_room (Nat.le_of_ble_eq_true rfl)) dL_law_312 ⟨Nat.le_of_ble_eq_true rfl, Nat.le_of_ble_eq_true rfl⟩) hS (fun q _ h => hFc q h) hFc (fun r_5 u_5 t H1 locs ht hvm hw_5 hB hz1 hk1 hS => ?_)
      obtain ⟨hP1, hK1, hD1⟩ := hB
      rw [ht] at hP1
      have hK1 := va_K.moved hvm.symm hK1
      obtain ⟨hP, hD⟩ := va_join (wr := [(ot, .inl (cL, 1, .inr (.inl u_4)))]) (w1 := [(mo, .inr (6, .int u_5.1 :: u_5.2))]) hP hD [0, 1, 2, 3, 4, 5, 6, 7, 8, 9] [10] rfl rfl (by decide) (by decide) hk1 hFc hP1 hD1
      have hK := hK.app hK1
      generalize H1 = H at hP hS ⊢
      have hP : va_P (dC, dI) vwCl [(ot, .inl (cL, 1, .inr (.inl u_4))), (mo, .inr (6, .int u_5.1 :: u_5.2))] H := hP
      have hD : va_D (fun q : Nat => s.heap.size ≤ q) [(ot, .inl (cL, 1, .inr (.inl u_4))), (mo, .inr (6, .int u_5.1 :: u_5.2))] := hD
      have hK : va_K (dC, dI) vwCl [(cI, .int), (cZ, .boolean), (cB, .object "ParkTower$Bay"), (y4, .int), (y5, .int), (y6, .int), (y7, .int), (y8, .int), (y9, .int), (y10, .boolean), (y11, .int), (y12, .boolean), (cL, .long)] s := hK
      refine W.widen (k := 37) (n := 2564) (by omega) (by omega) ?_
      refine lv_istore (lv' := [(6, .int r_5), (5, .int 2), (4, .int 0), (3, .ref ot), (2, .ref mo), (1, .ref x), (0, .ref b)]) hx hb dL_law_315 hl (by decide) rfl (fun ls hl => ?_)
      refine lv_aload_n hx hb dL_law_317 rfl (lv_at hl 4 rfl) ?_
      refine pt_cSi (va_runV (As := []) (rest := []) ⟨hx, hb, hml, hown, hts⟩ (c_thrown l dC dI mo u_5.1 u_5.2) (cwV 0 hts gk_X8_thrown rfl rfl rfl (by decide +kernel) ⟨Nat.le_of_ble_eq_true rfl, Nat.le_of_ble_eq_true rfl⟩) ⟨pt_blind, va_recv hK hP (ci := 6) (q0 := 1) rfl rfl, pt_pre (w := [(mo, .inr (6, .int u_5.1 :: u_5.2))]) (tys := []) (hP.sub [1] rfl) (hK.sub [] rfl) hN⟩ rfl rfl hl.1 rfl (lv_room (Nat.le_of_ble_eq_true rfl)) dL_law_318 ⟨Nat.le_of_ble_eq_true rfl, Nat.le_of_ble_eq_true rfl⟩) (fun r_6 hr_6 => ?_)
      obtain rfl : r_6 = 2 := hr_6.trans hw_5.1
      refine lv_iload hx hb dL_law_321 (lv_at hl 1 rfl) ?_
      refine lv_icmp_eq (tgt := 328) hx hb dL_law_323 (by decide) (fun _ => ?_) (fun c => absurd (by decide) c)
      refine lv_iload hx hb dL_law_328 (lv_at hl 1 rfl) ?_
      refine lv_if_ne (tgt := 345) hx hb dL_law_330 (by decide) (fun _ => ?_) (fun c => absurd c (by decide))
      refine lv_goto (tgt := 824) hx hb dL_law_345 (by decide) ?_
      exact law_end l C0 (Nat.le_of_ble_eq_true rfl) (Nat.le_of_ble_eq_true rfl) hS ls (lv_sub hl [2, 6] rfl)
  · skip
    refine lv_aload_n hx hb dL_law_292 rfl (lv_at hl 3 rfl) ?_
    refine lv_aload_n hx hb dL_law_293 rfl (lv_at hl 4 rfl) ?_
    refine lv_iload hx hb dL_law_294 (lv_at hl 0 rfl) ?_
    refine lv_iconst (v := 1) hx hb dL_law_296 (by decide) ?_
    refine lv_iadd hx hb dL_law_297 ?_
    refine pt_topi 1 (by decide) ?_
    refine va_sld hx hb hX hbl hbA hS (vp_in_iff.mpr (by decide)) dL_law_298 ?_
    refine pt_topi v1 e1 ?_
    refine lv_aload_n hx hb dL_law_299 rfl (lv_at hl 1 rfl) ?_
    have hPc := hP.sub (ws' := [(x, .inr (5, [.ref rk, .ref bs, .ref od, .ref jb, .ref ap, .int 0, .int 1, .int 0, .int 0, .int 0])), (rk, .inr (4, [.ref hd, .ref jm])), (hd, .inl (cI, 96, .inl (fun _ => 0))), (jm, .inl (cZ, 4, .inl (fun _ => 0))), (bs, .inl (cB, 2, .inr (.inr (.inr (.inr (va_up (va_up (fun _ => none) 0 (some b0)) 1 (some b1))))))), (b0, .inr (0, [.int 2, .int 0, .int 0, .int 0, .int 0, .int (-1)])), (b1, .inr (0, [.int 2, .int 0, .int 0, .int 0, .int 0, .int (-1)])), (od, .inr (2, [.ref o1, .ref o2, .ref o3, .int 0])), (jb, .inr (1, [.ref pl, .int (-1), .int 0, .int 0, .int 0])), (ot, .inl (cL, 1, .inr (.inl (fun _ => 0))))]) [0, 1, 2, 3, 4, 5, 6, 7, 8, 19] rfl
    have hDc := hD.sub (ws' := [(x, .inr (5, [.ref rk, .ref bs, .ref od, .ref jb, .ref ap, .int 0, .int 1, .int 0, .int 0, .int 0])), (rk, .inr (4, [.ref hd, .ref jm])), (hd, .inl (cI, 96, .inl (fun _ => 0))), (jm, .inl (cZ, 4, .inl (fun _ => 0))), (bs, .inl (cB, 2, .inr (.inr (.inr (.inr (va_up (va_up (fun _ => none) 0 (some b0)) 1 (some b1))))))), (b0, .inr (0, [.int 2, .int 0, .int 0, .int 0, .int 0, .int (-1)])), (b1, .inr (0, [.int 2, .int 0, .int 0, .int 0, .int 0, .int (-1)])), (od, .inr (2, [.ref o1, .ref o2, .ref o3, .int 0])), (jb, .inr (1, [.ref pl, .int (-1), .int 0, .int 0, .int 0])), (ot, .inl (cL, 1, .inr (.inl (fun _ => 0))))]) [0, 1, 2, 3, 4, 5, 6, 7, 8, 19] (by decide) rfl
    have hKc := hK.sub (tys' := [(cI, .int), (cZ, .boolean), (cB, .object "ParkTower$Bay"), (cL, .long)]) [0, 1, 2, 12] rfl
    have hFc := va_free (wc := [(x, .inr (5, [.ref rk, .ref bs, .ref od, .ref jb, .ref ap, .int 0, .int 1, .int 0, .int 0, .int 0])), (rk, .inr (4, [.ref hd, .ref jm])), (hd, .inl (cI, 96, .inl (fun _ => 0))), (jm, .inl (cZ, 4, .inl (fun _ => 0))), (bs, .inl (cB, 2, .inr (.inr (.inr (.inr (va_up (va_up (fun _ => none) 0 (some b0)) 1 (some b1))))))), (b0, .inr (0, [.int 2, .int 0, .int 0, .int 0, .int 0, .int (-1)])), (b1, .inr (0, [.int 2, .int 0, .int 0, .int 0, .int 0, .int (-1)])), (od, .inr (2, [.ref o1, .ref o2, .ref o3, .int 0])), (jb, .inr (1, [.ref pl, .int (-1), .int 0, .int 0, .int 0])), (ot, .inl (cL, 1, .inr (.inl (fun _ => 0))))]) hD hS hA [0, 1, 2, 3, 4, 5, 6, 7, 8, 19] rfl
    refine va_calli (vx_runSW (As := [.ref x, .int v1, .ref ot]) (rest := []) ⟨hx, hb, hml, hown, hts⟩ (w_gone l hlt dC dI _ x rk hd jm bs b0 b1 od o1 o2 o3 jb pl ap cI cZ cB ot cL (fun _ => 0) v1) (vx_cwSW 3 hts gk_L_gone rfl rfl rfl (by decide +kernel) ⟨Nat.le_of_ble_eq_true rfl, Nat.le_of_ble_eq_true rfl⟩) ⟨pt_blindT, pt_preT hPc hKc hDc hN hE (pt_Z.up hZ (fun q h1 h2 => hS.2.1 q h1 h2) hS.1)⟩ rfl rfl hl.1 rfl (lv_room (Nat.le_of_ble_eq_true rfl)) dL_law_300 ⟨Nat.le_of_ble_eq_true rfl, Nat.le_of_ble_eq_true rfl⟩) hS (fun q _ h => hFc q h) hFc (fun r_7 u_7 t H1 locs ht hvm hw_7 hB hz1 hk1 hS => ?_)
    obtain ⟨hP1, hK1, hD1⟩ := hB
    rw [ht] at hP1
    have hK1 := va_K.moved hvm.symm hK1
    obtain ⟨hP, hD⟩ := va_join (wr := [(mo, .inr (6, [.int 0, .int 0, .int 0, .int 0, .ref m4, .ref m5, .ref m6, .ref m7, .ref m8, .ref m9, .ref m10, .ref m11, .ref m12, .int 1, .int 0, .int 0, .ref m16, .ref m17, .ref m18, .int 0, .int 0, .int 0, .int 0, .int 0, .int 0, .int 0, .int 0, .ref m27, .int 0, .ref m29, .ref m30, .ref m31])), (m4, .inl (y4, 700, .inl (fun _ => 0))), (m5, .inl (y5, 700, .inl (fun _ => 0))), (m6, .inl (y6, 700, .inl (fun _ => 0))), (m7, .inl (y7, 96, .inl (fun _ => 0))), (m8, .inl (y8, 2, .inl (upd (upd (fun _ => 0) 0 2) 1 2))), (m9, .inl (y9, 2, .inl (fun _ => 0))), (m10, .inl (y10, 2, .inl (fun _ => 0))), (m11, .inl (y11, 2, .inl (upd (upd (fun _ => 0) 0 (-1)) 1 (-1)))), (m12, .inl (y12, 4, .inl (fun _ => 0)))]) (w1 := [(ot, .inl (cL, 1, .inr (.inl u_7)))]) hP hD [0, 1, 2, 3, 4, 5, 6, 7, 8, 19] [9, 10, 11, 12, 13, 14, 15, 16, 17, 18] rfl rfl (by decide) (by decide) hk1 hFc hP1 hD1
    have hK := hK.app hK1
    generalize H1 = H at hP hS ⊢
    have hP : va_P (dC, dI) vwCl [(mo, .inr (6, [.int 0, .int 0, .int 0, .int 0, .ref m4, .ref m5, .ref m6, .ref m7, .ref m8, .ref m9, .ref m10, .ref m11, .ref m12, .int 1, .int 0, .int 0, .ref m16, .ref m17, .ref m18, .int 0, .int 0, .int 0, .int 0, .int 0, .int 0, .int 0, .int 0, .ref m27, .int 0, .ref m29, .ref m30, .ref m31])), (m4, .inl (y4, 700, .inl (fun _ => 0))), (m5, .inl (y5, 700, .inl (fun _ => 0))), (m6, .inl (y6, 700, .inl (fun _ => 0))), (m7, .inl (y7, 96, .inl (fun _ => 0))), (m8, .inl (y8, 2, .inl (upd (upd (fun _ => 0) 0 2) 1 2))), (m9, .inl (y9, 2, .inl (fun _ => 0))), (m10, .inl (y10, 2, .inl (fun _ => 0))), (m11, .inl (y11, 2, .inl (upd (upd (fun _ => 0) 0 (-1)) 1 (-1)))), (m12, .inl (y12, 4, .inl (fun _ => 0))), (ot, .inl (cL, 1, .inr (.inl u_7)))] H := hP
    have hD : va_D (fun q : Nat => s.heap.size ≤ q) [(mo, .inr (6, [.int 0, .int 0, .int 0, .int 0, .ref m4, .ref m5, .ref m6, .ref m7, .ref m8, .ref m9, .ref m10, .ref m11, .ref m12, .int 1, .int 0, .int 0, .ref m16, .ref m17, .ref m18, .int 0, .int 0, .int 0, .int 0, .int 0, .int 0, .int 0, .int 0, .ref m27, .int 0, .ref m29, .ref m30, .ref m31])), (m4, .inl (y4, 700, .inl (fun _ => 0))), (m5, .inl (y5, 700, .inl (fun _ => 0))), (m6, .inl (y6, 700, .inl (fun _ => 0))), (m7, .inl (y7, 96, .inl (fun _ => 0))), (m8, .inl (y8, 2, .inl (upd (upd (fun _ => 0) 0 2) 1 2))), (m9, .inl (y9, 2, .inl (fun _ => 0))), (m10, .inl (y10, 2, .inl (fun _ => 0))), (m11, .inl (y11, 2, .inl (upd (upd (fun _ => 0) 0 (-1)) 1 (-1)))), (m12, .inl (y12, 4, .inl (fun _ => 0))), (ot, .inl (cL, 1, .inr (.inl u_7)))] := hD
    have hK : va_K (dC, dI) vwCl [(cI, .int), (cZ, .boolean), (cB, .object "ParkTower$Bay"), (y4, .int), (y5, .int), (y6, .int), (y7, .int), (y8, .int), (y9, .int), (y10, .boolean), (y11, .int), (y12, .boolean), (cL, .long)] s := hK
    refine W.widen (k := 37) (n := 2564) (by omega) (by omega) ?_
    obtain rfl : r_7 = 1 := hw_7.1.trans (if_neg hok)
    refine lv_istore (lv' := [(5, .int 1), (4, .int 0), (3, .ref ot), (2, .ref mo), (1, .ref x), (0, .ref b)]) hx hb dL_law_303 hl (by decide) rfl (fun ls hl => ?_)
    refine lv_aload_n hx hb dL_law_305 rfl (lv_at hl 3 rfl) ?_
    refine lv_aload_n hx hb dL_law_306 rfl (lv_at hl 5 rfl) ?_
    refine lv_iload hx hb dL_law_307 (lv_at hl 1 rfl) ?_
    refine lv_iconst (v := 1) hx hb dL_law_309 (by decide) ?_
    refine lv_iadd hx hb dL_law_310 ?_
    refine pt_topi 1 (by decide) ?_
    refine va_sld hx hb hX hbl hbA hS (vp_in_iff.mpr (by decide)) dL_law_311 ?_
    refine pt_topi v1 e1 ?_
    have hPc := hP.sub (ws' := [(mo, .inr (6, [.int 0, .int 0, .int 0, .int 0, .ref m4, .ref m5, .ref m6, .ref m7, .ref m8, .ref m9, .ref m10, .ref m11, .ref m12, .int 1, .int 0, .int 0, .ref m16, .ref m17, .ref m18, .int 0, .int 0, .int 0, .int 0, .int 0, .int 0, .int 0, .int 0, .ref m27, .int 0, .ref m29, .ref m30, .ref m31])), (m4, .inl (y4, 700, .inl (fun _ => 0))), (m5, .inl (y5, 700, .inl (fun _ => 0))), (m6, .inl (y6, 700, .inl (fun _ => 0))), (m7, .inl (y7, 96, .inl (fun _ => 0))), (m8, .inl (y8, 2, .inl (upd (upd (fun _ => 0) 0 2) 1 2))), (m9, .inl (y9, 2, .inl (fun _ => 0))), (m10, .inl (y10, 2, .inl (fun _ => 0))), (m11, .inl (y11, 2, .inl (upd (upd (fun _ => 0) 0 (-1)) 1 (-1)))), (m12, .inl (y12, 4, .inl (fun _ => 0)))]) [0, 1, 2, 3, 4, 5, 6, 7, 8, 9] rfl
    have hDc := hD.sub (ws' := [(mo, .inr (6, [.int 0, .int 0, .int 0, .int 0, .ref m4, .ref m5, .ref m6, .ref m7, .ref m8, .ref m9, .ref m10, .ref m11, .ref m12, .int 1, .int 0, .int 0, .ref m16, .ref m17, .ref m18, .int 0, .int 0, .int 0, .int 0, .int 0, .int 0, .int 0, .int 0, .ref m27, .int 0, .ref m29, .ref m30, .ref m31])), (m4, .inl (y4, 700, .inl (fun _ => 0))), (m5, .inl (y5, 700, .inl (fun _ => 0))), (m6, .inl (y6, 700, .inl (fun _ => 0))), (m7, .inl (y7, 96, .inl (fun _ => 0))), (m8, .inl (y8, 2, .inl (upd (upd (fun _ => 0) 0 2) 1 2))), (m9, .inl (y9, 2, .inl (fun _ => 0))), (m10, .inl (y10, 2, .inl (fun _ => 0))), (m11, .inl (y11, 2, .inl (upd (upd (fun _ => 0) 0 (-1)) 1 (-1)))), (m12, .inl (y12, 4, .inl (fun _ => 0)))]) [0, 1, 2, 3, 4, 5, 6, 7, 8, 9] (by decide) rfl
    have hKc := hK.sub (tys' := [(y4, .int), (y5, .int), (y6, .int), (y7, .int), (y8, .int), (y9, .int), (y10, .boolean), (y11, .int), (y12, .boolean)]) [3, 4, 5, 6, 7, 8, 9, 10, 11] rfl
    have hFc := va_free (wc := [(mo, .inr (6, [.int 0, .int 0, .int 0, .int 0, .ref m4, .ref m5, .ref m6, .ref m7, .ref m8, .ref m9, .ref m10, .ref m11, .ref m12, .int 1, .int 0, .int 0, .ref m16, .ref m17, .ref m18, .int 0, .int 0, .int 0, .int 0, .int 0, .int 0, .int 0, .int 0, .ref m27, .int 0, .ref m29, .ref m30, .ref m31])), (m4, .inl (y4, 700, .inl (fun _ => 0))), (m5, .inl (y5, 700, .inl (fun _ => 0))), (m6, .inl (y6, 700, .inl (fun _ => 0))), (m7, .inl (y7, 96, .inl (fun _ => 0))), (m8, .inl (y8, 2, .inl (upd (upd (fun _ => 0) 0 2) 1 2))), (m9, .inl (y9, 2, .inl (fun _ => 0))), (m10, .inl (y10, 2, .inl (fun _ => 0))), (m11, .inl (y11, 2, .inl (upd (upd (fun _ => 0) 0 (-1)) 1 (-1)))), (m12, .inl (y12, 4, .inl (fun _ => 0)))]) hD hS hA [0, 1, 2, 3, 4, 5, 6, 7, 8, 9] rfl
    refine va_calli (va_runV (As := [.int v1]) (rest := []) ⟨hx, hb, hml, hown, hts⟩ (m_goneX l dC dI _ mo m4 m5 m6 m7 m8 m9 m10 m11 m12 m16 m17 m18 m27 m29 m30 m31 y4 y5 y6 y7 y8 y9 y10 y11 y12 v1 hok) (cwV 1 hts gk_X8_gone rfl rfl rfl (by decide +kernel) ⟨Nat.le_of_ble_eq_true rfl, Nat.le_of_ble_eq_true rfl⟩) ⟨pt_blindQ, va_recv hK hP (ci := 6) (q0 := 0) rfl rfl, pt_preQ hPc hKc hDc hN⟩ rfl rfl hl.1 rfl (lv_room (Nat.le_of_ble_eq_true rfl)) dL_law_312 ⟨Nat.le_of_ble_eq_true rfl, Nat.le_of_ble_eq_true rfl⟩) hS (fun q _ h => hFc q h) hFc (fun r_8 u_8 t H1 locs ht hvm hw_8 hB hz1 hk1 hS => ?_)
    obtain ⟨hP1, hK1, hD1⟩ := hB
    rw [ht] at hP1
    have hK1 := va_K.moved hvm.symm hK1
    obtain ⟨hP, hD⟩ := va_join (wr := [(ot, .inl (cL, 1, .inr (.inl u_7)))]) (w1 := [(mo, .inr (6, .int u_8.1 :: u_8.2))]) hP hD [0, 1, 2, 3, 4, 5, 6, 7, 8, 9] [10] rfl rfl (by decide) (by decide) hk1 hFc hP1 hD1
    have hK := hK.app hK1
    generalize H1 = H at hP hS ⊢
    have hP : va_P (dC, dI) vwCl [(ot, .inl (cL, 1, .inr (.inl u_7))), (mo, .inr (6, .int u_8.1 :: u_8.2))] H := hP
    have hD : va_D (fun q : Nat => s.heap.size ≤ q) [(ot, .inl (cL, 1, .inr (.inl u_7))), (mo, .inr (6, .int u_8.1 :: u_8.2))] := hD
    have hK : va_K (dC, dI) vwCl [(cI, .int), (cZ, .boolean), (cB, .object "ParkTower$Bay"), (y4, .int), (y5, .int), (y6, .int), (y7, .int), (y8, .int), (y9, .int), (y10, .boolean), (y11, .int), (y12, .boolean), (cL, .long)] s := hK
    refine W.widen (k := 37) (n := 2564) (by omega) (by omega) ?_
    refine lv_istore (lv' := [(6, .int r_8), (5, .int 1), (4, .int 0), (3, .ref ot), (2, .ref mo), (1, .ref x), (0, .ref b)]) hx hb dL_law_315 hl (by decide) rfl (fun ls hl => ?_)
    refine lv_aload_n hx hb dL_law_317 rfl (lv_at hl 4 rfl) ?_
    refine pt_cSi (va_runV (As := []) (rest := []) ⟨hx, hb, hml, hown, hts⟩ (c_thrown l dC dI mo u_8.1 u_8.2) (cwV 0 hts gk_X8_thrown rfl rfl rfl (by decide +kernel) ⟨Nat.le_of_ble_eq_true rfl, Nat.le_of_ble_eq_true rfl⟩) ⟨pt_blind, va_recv hK hP (ci := 6) (q0 := 1) rfl rfl, pt_pre (w := [(mo, .inr (6, .int u_8.1 :: u_8.2))]) (tys := []) (hP.sub [1] rfl) (hK.sub [] rfl) hN⟩ rfl rfl hl.1 rfl (lv_room (Nat.le_of_ble_eq_true rfl)) dL_law_318 ⟨Nat.le_of_ble_eq_true rfl, Nat.le_of_ble_eq_true rfl⟩) (fun r_9 hr_9 => ?_)
    obtain rfl : r_9 = 1 := hr_9.trans hw_8.1
    refine lv_iload hx hb dL_law_321 (lv_at hl 1 rfl) ?_
    refine lv_icmp_eq (tgt := 328) hx hb dL_law_323 (by decide) (fun _ => ?_) (fun c => absurd (by decide) c)
    refine lv_iload hx hb dL_law_328 (lv_at hl 1 rfl) ?_
    refine lv_if_ne (tgt := 345) hx hb dL_law_330 (by decide) (fun _ => ?_) (fun c => absurd c (by decide))
    refine lv_goto (tgt := 824) hx hb dL_law_345 (by decide) ?_
    exact law_end l C0 (Nat.le_of_ble_eq_true rfl) (Nat.le_of_ble_eq_true rfl) hS ls (lv_sub hl [2, 6] rfl)
set_option maxHeartbeats 4000000 in
set_option maxRecDepth 100000 in
theorem law_leave {p : Program} {e : Env} {s : State} {m : MethodId} {below : List Frame} {meth : Method} {c : Code} (l : Launch) (hlt : l.stackTraces = false) {b : Nat} {xs : Nat → Int32} (C0 : lw_At p s m meth c b 5 xs) (dC : Nat → ClassId) (dI : Nat → Nat → Nat) (x rk hd jm bs b0 b1 od o1 o2 o3 jb pl ap : Nat) (cI cZ cB : ClassId) (mo m4 m5 m6 m7 m8 m9 m10 m11 m12 m16 m17 m18 m27 m29 m30 m31 : Nat) (y4 y5 y6 y7 y8 y9 y10 y11 y12 : ClassId) (ot : Nat) (cL : ClassId) (H : Heap) (locs : List Loc) (hN : pt_N s) (hE : pt_E s) (hZ : pt_Z s.heap.size s s.heap) (hK : va_K (dC, dI) vwCl [(cI, .int), (cZ, .boolean), (cB, .object "ParkTower$Bay"), (y4, .int), (y5, .int), (y6, .int), (y7, .int), (y8, .int), (y9, .int), (y10, .boolean), (y11, .int), (y12, .boolean), (cL, .long)] s) (hP : va_P (dC, dI) vwCl [(x, .inr (5, [.ref rk, .ref bs, .ref od, .ref jb, .ref ap, .int 0, .int 1, .int 0, .int 0, .int 0])), (rk, .inr (4, [.ref hd, .ref jm])), (hd, .inl (cI, 96, .inl (fun _ => 0))), (jm, .inl (cZ, 4, .inl (fun _ => 0))), (bs, .inl (cB, 2, .inr (.inr (.inr (.inr (va_up (va_up (fun _ => none) 0 (some b0)) 1 (some b1))))))), (b0, .inr (0, [.int 2, .int 0, .int 0, .int 0, .int 0, .int (-1)])), (b1, .inr (0, [.int 2, .int 0, .int 0, .int 0, .int 0, .int (-1)])), (od, .inr (2, [.ref o1, .ref o2, .ref o3, .int 0])), (jb, .inr (1, [.ref pl, .int (-1), .int 0, .int 0, .int 0])), (mo, .inr (6, [.int 0, .int 0, .int 0, .int 0, .ref m4, .ref m5, .ref m6, .ref m7, .ref m8, .ref m9, .ref m10, .ref m11, .ref m12, .int 1, .int 0, .int 0, .ref m16, .ref m17, .ref m18, .int 0, .int 0, .int 0, .int 0, .int 0, .int 0, .int 0, .int 0, .ref m27, .int 0, .ref m29, .ref m30, .ref m31])), (m4, .inl (y4, 700, .inl (fun _ => 0))), (m5, .inl (y5, 700, .inl (fun _ => 0))), (m6, .inl (y6, 700, .inl (fun _ => 0))), (m7, .inl (y7, 96, .inl (fun _ => 0))), (m8, .inl (y8, 2, .inl (upd (upd (fun _ => 0) 0 2) 1 2))), (m9, .inl (y9, 2, .inl (fun _ => 0))), (m10, .inl (y10, 2, .inl (fun _ => 0))), (m11, .inl (y11, 2, .inl (upd (upd (fun _ => 0) 0 (-1)) 1 (-1)))), (m12, .inl (y12, 4, .inl (fun _ => 0))), (ot, .inl (cL, 1, .inr (.inl (fun _ => 0))))] H) (hD : va_D (fun q : Nat => s.heap.size ≤ q) [(x, .inr (5, [.ref rk, .ref bs, .ref od, .ref jb, .ref ap, .int 0, .int 1, .int 0, .int 0, .int 0])), (rk, .inr (4, [.ref hd, .ref jm])), (hd, .inl (cI, 96, .inl (fun _ => 0))), (jm, .inl (cZ, 4, .inl (fun _ => 0))), (bs, .inl (cB, 2, .inr (.inr (.inr (.inr (va_up (va_up (fun _ => none) 0 (some b0)) 1 (some b1))))))), (b0, .inr (0, [.int 2, .int 0, .int 0, .int 0, .int 0, .int (-1)])), (b1, .inr (0, [.int 2, .int 0, .int 0, .int 0, .int 0, .int (-1)])), (od, .inr (2, [.ref o1, .ref o2, .ref o3, .int 0])), (jb, .inr (1, [.ref pl, .int (-1), .int 0, .int 0, .int 0])), (mo, .inr (6, [.int 0, .int 0, .int 0, .int 0, .ref m4, .ref m5, .ref m6, .ref m7, .ref m8, .ref m9, .ref m10, .ref m11, .ref m12, .int 1, .int 0, .int 0, .ref m16, .ref m17, .ref m18, .int 0, .int 0, .int 0, .int 0, .int 0, .int 0, .int 0, .int 0, .ref m27, .int 0, .ref m29, .ref m30, .ref m31])), (m4, .inl (y4, 700, .inl (fun _ => 0))), (m5, .inl (y5, 700, .inl (fun _ => 0))), (m6, .inl (y6, 700, .inl (fun _ => 0))), (m7, .inl (y7, 96, .inl (fun _ => 0))), (m8, .inl (y8, 2, .inl (upd (upd (fun _ => 0) 0 2) 1 2))), (m9, .inl (y9, 2, .inl (fun _ => 0))), (m10, .inl (y10, 2, .inl (fun _ => 0))), (m11, .inl (y11, 2, .inl (upd (upd (fun _ => 0) 0 (-1)) 1 (-1)))), (m12, .inl (y12, 4, .inl (fun _ => 0))), (ot, .inl (cL, 1, .inr (.inl (fun _ => 0))))]) (hS : va_S (fun q : Nat => s.heap.size ≤ q) s.heap H locs) (ls : Array Slot) (hl : lv_has ls 7 [(4, .int 0), (3, .ref ot), (2, .ref mo), (1, .ref x), (0, .ref b)]) : W p l e room_1 s m #[Value.ref b] below meth c H locs 36 2558 (lw_Z below #[Value.ref b] s) (F0 m 348 ls []) := by
  obtain ⟨hx, hb, hr, hml, hown, hts, hX, hbl, hlocks, hgv⟩ := id C0
  have hbA : ¬ (fun q : Nat => s.heap.size ≤ q) b := Nat.not_le.mpr hbl
  have hA : ∀ q : Nat, s.heap.size ≤ q → (fun q : Nat => s.heap.size ≤ q) q := fun _ h => h
  obtain ⟨v1, e1⟩ : ∃ z, xs 1 = z := ⟨_, rfl⟩
  refine lv_aload_n hx hb dL_law_348 rfl (lv_at hl 3 rfl) ?_
  refine lv_aload_n hx hb dL_law_349 rfl (lv_at hl 4 rfl) ?_
  refine lv_iload hx hb dL_law_350 (lv_at hl 0 rfl) ?_
  refine lv_iconst (v := 1) hx hb dL_law_352 (by decide) ?_
  refine lv_iadd hx hb dL_law_353 ?_
  refine pt_topi 1 (by decide) ?_
  refine va_sld hx hb hX hbl hbA hS (vp_in_iff.mpr (by decide)) dL_law_354 ?_
  refine pt_topi v1 e1 ?_
  refine lv_aload_n hx hb dL_law_355 rfl (lv_at hl 1 rfl) ?_
  have hPc := hP.sub (ws' := [(x, .inr (5, [.ref rk, .ref bs, .ref od, .ref jb, .ref ap, .int 0, .int 1, .int 0, .int 0, .int 0])), (rk, .inr (4, [.ref hd, .ref jm])), (hd, .inl (cI, 96, .inl (fun _ => 0))), (jm, .inl (cZ, 4, .inl (fun _ => 0))), (bs, .inl (cB, 2, .inr (.inr (.inr (.inr (va_up (va_up (fun _ => none) 0 (some b0)) 1 (some b1))))))), (b0, .inr (0, [.int 2, .int 0, .int 0, .int 0, .int 0, .int (-1)])), (b1, .inr (0, [.int 2, .int 0, .int 0, .int 0, .int 0, .int (-1)])), (od, .inr (2, [.ref o1, .ref o2, .ref o3, .int 0])), (jb, .inr (1, [.ref pl, .int (-1), .int 0, .int 0, .int 0])), (ot, .inl (cL, 1, .inr (.inl (fun _ => 0))))]) [0, 1, 2, 3, 4, 5, 6, 7, 8, 19] rfl
  have hDc := hD.sub (ws' := [(x, .inr (5, [.ref rk, .ref bs, .ref od, .ref jb, .ref ap, .int 0, .int 1, .int 0, .int 0, .int 0])), (rk, .inr (4, [.ref hd, .ref jm])), (hd, .inl (cI, 96, .inl (fun _ => 0))), (jm, .inl (cZ, 4, .inl (fun _ => 0))), (bs, .inl (cB, 2, .inr (.inr (.inr (.inr (va_up (va_up (fun _ => none) 0 (some b0)) 1 (some b1))))))), (b0, .inr (0, [.int 2, .int 0, .int 0, .int 0, .int 0, .int (-1)])), (b1, .inr (0, [.int 2, .int 0, .int 0, .int 0, .int 0, .int (-1)])), (od, .inr (2, [.ref o1, .ref o2, .ref o3, .int 0])), (jb, .inr (1, [.ref pl, .int (-1), .int 0, .int 0, .int 0])), (ot, .inl (cL, 1, .inr (.inl (fun _ => 0))))]) [0, 1, 2, 3, 4, 5, 6, 7, 8, 19] (by decide) rfl
  have hKc := hK.sub (tys' := [(cI, .int), (cZ, .boolean), (cB, .object "ParkTower$Bay"), (cL, .long)]) [0, 1, 2, 12] rfl
  have hFc := va_free (wc := [(x, .inr (5, [.ref rk, .ref bs, .ref od, .ref jb, .ref ap, .int 0, .int 1, .int 0, .int 0, .int 0])), (rk, .inr (4, [.ref hd, .ref jm])), (hd, .inl (cI, 96, .inl (fun _ => 0))), (jm, .inl (cZ, 4, .inl (fun _ => 0))), (bs, .inl (cB, 2, .inr (.inr (.inr (.inr (va_up (va_up (fun _ => none) 0 (some b0)) 1 (some b1))))))), (b0, .inr (0, [.int 2, .int 0, .int 0, .int 0, .int 0, .int (-1)])), (b1, .inr (0, [.int 2, .int 0, .int 0, .int 0, .int 0, .int (-1)])), (od, .inr (2, [.ref o1, .ref o2, .ref o3, .int 0])), (jb, .inr (1, [.ref pl, .int (-1), .int 0, .int 0, .int 0])), (ot, .inl (cL, 1, .inr (.inl (fun _ => 0))))]) hD hS hA [0, 1, 2, 3, 4, 5, 6, 7, 8, 19] rfl
  refine va_calli (vx_runSW (As := [.ref x, .int v1, .ref ot]) (rest := []) ⟨hx, hb, hml, hown, hts⟩ (w_leave l hlt dC dI _ x rk hd jm bs b0 b1 od o1 o2 o3 jb pl ap cI cZ cB ot cL (fun _ => 0) v1) (vx_cwSW 3 hts gk_L_leave rfl rfl rfl (by decide +kernel) ⟨Nat.le_of_ble_eq_true rfl, Nat.le_of_ble_eq_true rfl⟩) ⟨pt_blindT, pt_preT hPc hKc hDc hN hE (pt_Z.up hZ (fun q h1 h2 => hS.2.1 q h1 h2) hS.1)⟩ rfl rfl hl.1 rfl (lv_room (Nat.le_of_ble_eq_true rfl)) dL_law_356 ⟨Nat.le_of_ble_eq_true rfl, Nat.le_of_ble_eq_true rfl⟩) hS (fun q _ h => hFc q h) hFc (fun r_1 u_1 t H1 locs ht hvm hw_1 hB hz1 hk1 hS => ?_)
  obtain ⟨hP1, hK1, hD1⟩ := hB
  rw [ht] at hP1
  have hK1 := va_K.moved hvm.symm hK1
  obtain ⟨hP, hD⟩ := va_join (wr := [(mo, .inr (6, [.int 0, .int 0, .int 0, .int 0, .ref m4, .ref m5, .ref m6, .ref m7, .ref m8, .ref m9, .ref m10, .ref m11, .ref m12, .int 1, .int 0, .int 0, .ref m16, .ref m17, .ref m18, .int 0, .int 0, .int 0, .int 0, .int 0, .int 0, .int 0, .int 0, .ref m27, .int 0, .ref m29, .ref m30, .ref m31])), (m4, .inl (y4, 700, .inl (fun _ => 0))), (m5, .inl (y5, 700, .inl (fun _ => 0))), (m6, .inl (y6, 700, .inl (fun _ => 0))), (m7, .inl (y7, 96, .inl (fun _ => 0))), (m8, .inl (y8, 2, .inl (upd (upd (fun _ => 0) 0 2) 1 2))), (m9, .inl (y9, 2, .inl (fun _ => 0))), (m10, .inl (y10, 2, .inl (fun _ => 0))), (m11, .inl (y11, 2, .inl (upd (upd (fun _ => 0) 0 (-1)) 1 (-1)))), (m12, .inl (y12, 4, .inl (fun _ => 0)))]) (w1 := [(ot, .inl (cL, 1, .inr (.inl u_1)))]) hP hD [0, 1, 2, 3, 4, 5, 6, 7, 8, 19] [9, 10, 11, 12, 13, 14, 15, 16, 17, 18] rfl rfl (by decide) (by decide) hk1 hFc hP1 hD1
  have hK := hK.app hK1
  generalize H1 = H at hP hS ⊢
  have hP : va_P (dC, dI) vwCl [(mo, .inr (6, [.int 0, .int 0, .int 0, .int 0, .ref m4, .ref m5, .ref m6, .ref m7, .ref m8, .ref m9, .ref m10, .ref m11, .ref m12, .int 1, .int 0, .int 0, .ref m16, .ref m17, .ref m18, .int 0, .int 0, .int 0, .int 0, .int 0, .int 0, .int 0, .int 0, .ref m27, .int 0, .ref m29, .ref m30, .ref m31])), (m4, .inl (y4, 700, .inl (fun _ => 0))), (m5, .inl (y5, 700, .inl (fun _ => 0))), (m6, .inl (y6, 700, .inl (fun _ => 0))), (m7, .inl (y7, 96, .inl (fun _ => 0))), (m8, .inl (y8, 2, .inl (upd (upd (fun _ => 0) 0 2) 1 2))), (m9, .inl (y9, 2, .inl (fun _ => 0))), (m10, .inl (y10, 2, .inl (fun _ => 0))), (m11, .inl (y11, 2, .inl (upd (upd (fun _ => 0) 0 (-1)) 1 (-1)))), (m12, .inl (y12, 4, .inl (fun _ => 0))), (ot, .inl (cL, 1, .inr (.inl u_1)))] H := hP
  have hD : va_D (fun q : Nat => s.heap.size ≤ q) [(mo, .inr (6, [.int 0, .int 0, .int 0, .int 0, .ref m4, .ref m5, .ref m6, .ref m7, .ref m8, .ref m9, .ref m10, .ref m11, .ref m12, .int 1, .int 0, .int 0, .ref m16, .ref m17, .ref m18, .int 0, .int 0, .int 0, .int 0, .int 0, .int 0, .int 0, .int 0, .ref m27, .int 0, .ref m29, .ref m30, .ref m31])), (m4, .inl (y4, 700, .inl (fun _ => 0))), (m5, .inl (y5, 700, .inl (fun _ => 0))), (m6, .inl (y6, 700, .inl (fun _ => 0))), (m7, .inl (y7, 96, .inl (fun _ => 0))), (m8, .inl (y8, 2, .inl (upd (upd (fun _ => 0) 0 2) 1 2))), (m9, .inl (y9, 2, .inl (fun _ => 0))), (m10, .inl (y10, 2, .inl (fun _ => 0))), (m11, .inl (y11, 2, .inl (upd (upd (fun _ => 0) 0 (-1)) 1 (-1)))), (m12, .inl (y12, 4, .inl (fun _ => 0))), (ot, .inl (cL, 1, .inr (.inl u_1)))] := hD
  have hK : va_K (dC, dI) vwCl [(cI, .int), (cZ, .boolean), (cB, .object "ParkTower$Bay"), (y4, .int), (y5, .int), (y6, .int), (y7, .int), (y8, .int), (y9, .int), (y10, .boolean), (y11, .int), (y12, .boolean), (cL, .long)] s := hK
  refine W.widen (k := 37) (n := 2564) (by omega) (by omega) ?_
  obtain rfl : r_1 = 1 := hw_1.1
  refine lv_istore (lv' := [(5, .int 1), (4, .int 0), (3, .ref ot), (2, .ref mo), (1, .ref x), (0, .ref b)]) hx hb dL_law_359 hl (by decide) rfl (fun ls hl => ?_)
  refine lv_aload_n hx hb dL_law_361 rfl (lv_at hl 3 rfl) ?_
  refine lv_aload_n hx hb dL_law_362 rfl (lv_at hl 5 rfl) ?_
  refine lv_iload hx hb dL_law_363 (lv_at hl 1 rfl) ?_
  refine lv_iconst (v := 1) hx hb dL_law_365 (by decide) ?_
  refine lv_iadd hx hb dL_law_366 ?_
  refine pt_topi 1 (by decide) ?_
  refine va_sld hx hb hX hbl hbA hS (vp_in_iff.mpr (by decide)) dL_law_367 ?_
  refine pt_topi v1 e1 ?_
  have hPc := hP.sub (ws' := [(mo, .inr (6, [.int 0, .int 0, .int 0, .int 0, .ref m4, .ref m5, .ref m6, .ref m7, .ref m8, .ref m9, .ref m10, .ref m11, .ref m12, .int 1, .int 0, .int 0, .ref m16, .ref m17, .ref m18, .int 0, .int 0, .int 0, .int 0, .int 0, .int 0, .int 0, .int 0, .ref m27, .int 0, .ref m29, .ref m30, .ref m31])), (m4, .inl (y4, 700, .inl (fun _ => 0))), (m5, .inl (y5, 700, .inl (fun _ => 0))), (m6, .inl (y6, 700, .inl (fun _ => 0))), (m7, .inl (y7, 96, .inl (fun _ => 0))), (m8, .inl (y8, 2, .inl (upd (upd (fun _ => 0) 0 2) 1 2))), (m9, .inl (y9, 2, .inl (fun _ => 0))), (m10, .inl (y10, 2, .inl (fun _ => 0))), (m11, .inl (y11, 2, .inl (upd (upd (fun _ => 0) 0 (-1)) 1 (-1)))), (m12, .inl (y12, 4, .inl (fun _ => 0)))]) [0, 1, 2, 3, 4, 5, 6, 7, 8, 9] rfl
  have hDc := hD.sub (ws' := [(mo, .inr (6, [.int 0, .int 0, .int 0, .int 0, .ref m4, .ref m5, .ref m6, .ref m7, .ref m8, .ref m9, .ref m10, .ref m11, .ref m12, .int 1, .int 0, .int 0, .ref m16, .ref m17, .ref m18, .int 0, .int 0, .int 0, .int 0, .int 0, .int 0, .int 0, .int 0, .ref m27, .int 0, .ref m29, .ref m30, .ref m31])), (m4, .inl (y4, 700, .inl (fun _ => 0))), (m5, .inl (y5, 700, .inl (fun _ => 0))), (m6, .inl (y6, 700, .inl (fun _ => 0))), (m7, .inl (y7, 96, .inl (fun _ => 0))), (m8, .inl (y8, 2, .inl (upd (upd (fun _ => 0) 0 2) 1 2))), (m9, .inl (y9, 2, .inl (fun _ => 0))), (m10, .inl (y10, 2, .inl (fun _ => 0))), (m11, .inl (y11, 2, .inl (upd (upd (fun _ => 0) 0 (-1)) 1 (-1)))), (m12, .inl (y12, 4, .inl (fun _ => 0)))]) [0, 1, 2, 3, 4, 5, 6, 7, 8, 9] (by decide) rfl
  have hKc := hK.sub (tys' := [(y4, .int), (y5, .int), (y6, .int), (y7, .int), (y8, .int), (y9, .int), (y10, .boolean), (y11, .int), (y12, .boolean)]) [3, 4, 5, 6, 7, 8, 9, 10, 11] rfl
  have hFc := va_free (wc := [(mo, .inr (6, [.int 0, .int 0, .int 0, .int 0, .ref m4, .ref m5, .ref m6, .ref m7, .ref m8, .ref m9, .ref m10, .ref m11, .ref m12, .int 1, .int 0, .int 0, .ref m16, .ref m17, .ref m18, .int 0, .int 0, .int 0, .int 0, .int 0, .int 0, .int 0, .int 0, .ref m27, .int 0, .ref m29, .ref m30, .ref m31])), (m4, .inl (y4, 700, .inl (fun _ => 0))), (m5, .inl (y5, 700, .inl (fun _ => 0))), (m6, .inl (y6, 700, .inl (fun _ => 0))), (m7, .inl (y7, 96, .inl (fun _ => 0))), (m8, .inl (y8, 2, .inl (upd (upd (fun _ => 0) 0 2) 1 2))), (m9, .inl (y9, 2, .inl (fun _ => 0))), (m10, .inl (y10, 2, .inl (fun _ => 0))), (m11, .inl (y11, 2, .inl (upd (upd (fun _ => 0) 0 (-1)) 1 (-1)))), (m12, .inl (y12, 4, .inl (fun _ => 0)))]) hD hS hA [0, 1, 2, 3, 4, 5, 6, 7, 8, 9] rfl
  refine va_calli (va_runV (As := [.int v1]) (rest := []) ⟨hx, hb, hml, hown, hts⟩ (m_leave l dC dI _ mo m4 m5 m6 m7 m8 m9 m10 m11 m12 m16 m17 m18 m27 m29 m30 m31 y4 y5 y6 y7 y8 y9 y10 y11 y12 v1) (cwV 1 hts gk_X8_leave rfl rfl rfl (by decide +kernel) ⟨Nat.le_of_ble_eq_true rfl, Nat.le_of_ble_eq_true rfl⟩) ⟨pt_blindQ, va_recv hK hP (ci := 6) (q0 := 0) rfl rfl, pt_preQ hPc hKc hDc hN⟩ rfl rfl hl.1 rfl (lv_room (Nat.le_of_ble_eq_true rfl)) dL_law_368 ⟨Nat.le_of_ble_eq_true rfl, Nat.le_of_ble_eq_true rfl⟩) hS (fun q _ h => hFc q h) hFc (fun r_2 u_2 t H1 locs ht hvm hw_2 hB hz1 hk1 hS => ?_)
  obtain ⟨hP1, hK1, hD1⟩ := hB
  rw [ht] at hP1
  have hK1 := va_K.moved hvm.symm hK1
  obtain ⟨hP, hD⟩ := va_join (wr := [(ot, .inl (cL, 1, .inr (.inl u_1)))]) (w1 := [(mo, .inr (6, .int u_2.1 :: u_2.2))]) hP hD [0, 1, 2, 3, 4, 5, 6, 7, 8, 9] [10] rfl rfl (by decide) (by decide) hk1 hFc hP1 hD1
  have hK := hK.app hK1
  generalize H1 = H at hP hS ⊢
  have hP : va_P (dC, dI) vwCl [(ot, .inl (cL, 1, .inr (.inl u_1))), (mo, .inr (6, .int u_2.1 :: u_2.2))] H := hP
  have hD : va_D (fun q : Nat => s.heap.size ≤ q) [(ot, .inl (cL, 1, .inr (.inl u_1))), (mo, .inr (6, .int u_2.1 :: u_2.2))] := hD
  have hK : va_K (dC, dI) vwCl [(cI, .int), (cZ, .boolean), (cB, .object "ParkTower$Bay"), (y4, .int), (y5, .int), (y6, .int), (y7, .int), (y8, .int), (y9, .int), (y10, .boolean), (y11, .int), (y12, .boolean), (cL, .long)] s := hK
  refine W.widen (k := 37) (n := 2564) (by omega) (by omega) ?_
  refine lv_istore (lv' := [(6, .int r_2), (5, .int 1), (4, .int 0), (3, .ref ot), (2, .ref mo), (1, .ref x), (0, .ref b)]) hx hb dL_law_371 hl (by decide) rfl (fun ls hl => ?_)
  refine lv_aload_n hx hb dL_law_373 rfl (lv_at hl 4 rfl) ?_
  refine pt_cSi (va_runV (As := []) (rest := []) ⟨hx, hb, hml, hown, hts⟩ (c_thrown l dC dI mo u_2.1 u_2.2) (cwV 0 hts gk_X8_thrown rfl rfl rfl (by decide +kernel) ⟨Nat.le_of_ble_eq_true rfl, Nat.le_of_ble_eq_true rfl⟩) ⟨pt_blind, va_recv hK hP (ci := 6) (q0 := 1) rfl rfl, pt_pre (w := [(mo, .inr (6, .int u_2.1 :: u_2.2))]) (tys := []) (hP.sub [1] rfl) (hK.sub [] rfl) hN⟩ rfl rfl hl.1 rfl (lv_room (Nat.le_of_ble_eq_true rfl)) dL_law_374 ⟨Nat.le_of_ble_eq_true rfl, Nat.le_of_ble_eq_true rfl⟩) (fun r_3 hr_3 => ?_)
  obtain rfl : r_3 = 1 := hr_3.trans hw_2.1
  refine lv_iload hx hb dL_law_377 (lv_at hl 1 rfl) ?_
  refine lv_icmp_eq (tgt := 384) hx hb dL_law_379 (by decide) (fun _ => ?_) (fun c => absurd (by decide) c)
  refine lv_iload hx hb dL_law_384 (lv_at hl 1 rfl) ?_
  refine lv_if_ne (tgt := 401) hx hb dL_law_386 (by decide) (fun _ => ?_) (fun c => absurd c (by decide))
  refine lv_goto (tgt := 824) hx hb dL_law_401 (by decide) ?_
  exact law_end l C0 (Nat.le_of_ble_eq_true rfl) (Nat.le_of_ble_eq_true rfl) hS ls (lv_sub hl [2, 6] rfl)
set_option maxHeartbeats 4000000 in
set_option maxRecDepth 100000 in
theorem law_jam {p : Program} {e : Env} {s : State} {m : MethodId} {below : List Frame} {meth : Method} {c : Code} (l : Launch) (hlt : l.stackTraces = false) {b : Nat} {xs : Nat → Int32} (C0 : lw_At p s m meth c b 5 xs) (dC : Nat → ClassId) (dI : Nat → Nat → Nat) (x rk hd jm bs b0 b1 od o1 o2 o3 jb pl ap : Nat) (cI cZ cB : ClassId) (mo m4 m5 m6 m7 m8 m9 m10 m11 m12 m16 m17 m18 m27 m29 m30 m31 : Nat) (y4 y5 y6 y7 y8 y9 y10 y11 y12 : ClassId) (ot : Nat) (cL : ClassId) (H : Heap) (locs : List Loc) (hN : pt_N s) (hE : pt_E s) (hZ : pt_Z s.heap.size s s.heap) (hK : va_K (dC, dI) vwCl [(cI, .int), (cZ, .boolean), (cB, .object "ParkTower$Bay"), (y4, .int), (y5, .int), (y6, .int), (y7, .int), (y8, .int), (y9, .int), (y10, .boolean), (y11, .int), (y12, .boolean), (cL, .long)] s) (hP : va_P (dC, dI) vwCl [(x, .inr (5, [.ref rk, .ref bs, .ref od, .ref jb, .ref ap, .int 0, .int 1, .int 0, .int 0, .int 0])), (rk, .inr (4, [.ref hd, .ref jm])), (hd, .inl (cI, 96, .inl (fun _ => 0))), (jm, .inl (cZ, 4, .inl (fun _ => 0))), (bs, .inl (cB, 2, .inr (.inr (.inr (.inr (va_up (va_up (fun _ => none) 0 (some b0)) 1 (some b1))))))), (b0, .inr (0, [.int 2, .int 0, .int 0, .int 0, .int 0, .int (-1)])), (b1, .inr (0, [.int 2, .int 0, .int 0, .int 0, .int 0, .int (-1)])), (od, .inr (2, [.ref o1, .ref o2, .ref o3, .int 0])), (jb, .inr (1, [.ref pl, .int (-1), .int 0, .int 0, .int 0])), (mo, .inr (6, [.int 0, .int 0, .int 0, .int 0, .ref m4, .ref m5, .ref m6, .ref m7, .ref m8, .ref m9, .ref m10, .ref m11, .ref m12, .int 1, .int 0, .int 0, .ref m16, .ref m17, .ref m18, .int 0, .int 0, .int 0, .int 0, .int 0, .int 0, .int 0, .int 0, .ref m27, .int 0, .ref m29, .ref m30, .ref m31])), (m4, .inl (y4, 700, .inl (fun _ => 0))), (m5, .inl (y5, 700, .inl (fun _ => 0))), (m6, .inl (y6, 700, .inl (fun _ => 0))), (m7, .inl (y7, 96, .inl (fun _ => 0))), (m8, .inl (y8, 2, .inl (upd (upd (fun _ => 0) 0 2) 1 2))), (m9, .inl (y9, 2, .inl (fun _ => 0))), (m10, .inl (y10, 2, .inl (fun _ => 0))), (m11, .inl (y11, 2, .inl (upd (upd (fun _ => 0) 0 (-1)) 1 (-1)))), (m12, .inl (y12, 4, .inl (fun _ => 0))), (ot, .inl (cL, 1, .inr (.inl (fun _ => 0))))] H) (hD : va_D (fun q : Nat => s.heap.size ≤ q) [(x, .inr (5, [.ref rk, .ref bs, .ref od, .ref jb, .ref ap, .int 0, .int 1, .int 0, .int 0, .int 0])), (rk, .inr (4, [.ref hd, .ref jm])), (hd, .inl (cI, 96, .inl (fun _ => 0))), (jm, .inl (cZ, 4, .inl (fun _ => 0))), (bs, .inl (cB, 2, .inr (.inr (.inr (.inr (va_up (va_up (fun _ => none) 0 (some b0)) 1 (some b1))))))), (b0, .inr (0, [.int 2, .int 0, .int 0, .int 0, .int 0, .int (-1)])), (b1, .inr (0, [.int 2, .int 0, .int 0, .int 0, .int 0, .int (-1)])), (od, .inr (2, [.ref o1, .ref o2, .ref o3, .int 0])), (jb, .inr (1, [.ref pl, .int (-1), .int 0, .int 0, .int 0])), (mo, .inr (6, [.int 0, .int 0, .int 0, .int 0, .ref m4, .ref m5, .ref m6, .ref m7, .ref m8, .ref m9, .ref m10, .ref m11, .ref m12, .int 1, .int 0, .int 0, .ref m16, .ref m17, .ref m18, .int 0, .int 0, .int 0, .int 0, .int 0, .int 0, .int 0, .int 0, .ref m27, .int 0, .ref m29, .ref m30, .ref m31])), (m4, .inl (y4, 700, .inl (fun _ => 0))), (m5, .inl (y5, 700, .inl (fun _ => 0))), (m6, .inl (y6, 700, .inl (fun _ => 0))), (m7, .inl (y7, 96, .inl (fun _ => 0))), (m8, .inl (y8, 2, .inl (upd (upd (fun _ => 0) 0 2) 1 2))), (m9, .inl (y9, 2, .inl (fun _ => 0))), (m10, .inl (y10, 2, .inl (fun _ => 0))), (m11, .inl (y11, 2, .inl (upd (upd (fun _ => 0) 0 (-1)) 1 (-1)))), (m12, .inl (y12, 4, .inl (fun _ => 0))), (ot, .inl (cL, 1, .inr (.inl (fun _ => 0))))]) (hS : va_S (fun q : Nat => s.heap.size ≤ q) s.heap H locs) (ls : Array Slot) (hl : lv_has ls 7 [(4, .int 0), (3, .ref ot), (2, .ref mo), (1, .ref x), (0, .ref b)]) : W p l e room_1 s m #[Value.ref b] below meth c H locs 36 2558 (lw_Z below #[Value.ref b] s) (F0 m 404 ls []) := by
  obtain ⟨hx, hb, hr, hml, hown, hts, hX, hbl, hlocks, hgv⟩ := id C0
  have hbA : ¬ (fun q : Nat => s.heap.size ≤ q) b := Nat.not_le.mpr hbl
  have hA : ∀ q : Nat, s.heap.size ≤ q → (fun q : Nat => s.heap.size ≤ q) q := fun _ h => h
  obtain ⟨v1, e1⟩ : ∃ z, xs 1 = z := ⟨_, rfl⟩
  obtain ⟨v2, e2⟩ : ∃ z, xs 2 = z := ⟨_, rfl⟩
  by_cases hz : v2 = 0
  · by_cases hok : ¬ v1 < 0 ∧ v1 < 4
    · skip
      refine lv_aload_n hx hb dL_law_404 rfl (lv_at hl 3 rfl) ?_
      refine lv_aload_n hx hb dL_law_405 rfl (lv_at hl 4 rfl) ?_
      refine lv_iload hx hb dL_law_406 (lv_at hl 0 rfl) ?_
      refine lv_iconst (v := 1) hx hb dL_law_408 (by decide) ?_
      refine lv_iadd hx hb dL_law_409 ?_
      refine pt_topi 1 (by decide) ?_
      refine va_sld hx hb hX hbl hbA hS (vp_in_iff.mpr (by decide)) dL_law_410 ?_
      refine pt_topi v1 e1 ?_
      refine lv_aload_n hx hb dL_law_411 rfl (lv_at hl 4 rfl) ?_
      refine lv_iload hx hb dL_law_412 (lv_at hl 0 rfl) ?_
      refine lv_iconst (v := 2) hx hb dL_law_414 (by decide) ?_
      refine lv_iadd hx hb dL_law_415 ?_
      refine pt_topi 2 (by decide) ?_
      refine va_sld hx hb hX hbl hbA hS (vp_in_iff.mpr (by decide)) dL_law_416 ?_
      refine pt_topi v2 e2 ?_
      refine lv_if_eq (tgt := 424) hx hb dL_law_417 (by decide) (fun _ => ?_) (fun c => absurd (by assumption) c)
      refine lv_iconst (v := 0) hx hb dL_law_424 (by decide) ?_
      have hPc := hP.sub (ws' := [(x, .inr (5, [.ref rk, .ref bs, .ref od, .ref jb, .ref ap, .int 0, .int 1, .int 0, .int 0, .int 0])), (rk, .inr (4, [.ref hd, .ref jm])), (hd, .inl (cI, 96, .inl (fun _ => 0))), (jm, .inl (cZ, 4, .inl (fun _ => 0))), (bs, .inl (cB, 2, .inr (.inr (.inr (.inr (va_up (va_up (fun _ => none) 0 (some b0)) 1 (some b1))))))), (b0, .inr (0, [.int 2, .int 0, .int 0, .int 0, .int 0, .int (-1)])), (b1, .inr (0, [.int 2, .int 0, .int 0, .int 0, .int 0, .int (-1)])), (od, .inr (2, [.ref o1, .ref o2, .ref o3, .int 0])), (jb, .inr (1, [.ref pl, .int (-1), .int 0, .int 0, .int 0]))]) [0, 1, 2, 3, 4, 5, 6, 7, 8] rfl
      have hDc := hD.sub (ws' := [(x, .inr (5, [.ref rk, .ref bs, .ref od, .ref jb, .ref ap, .int 0, .int 1, .int 0, .int 0, .int 0])), (rk, .inr (4, [.ref hd, .ref jm])), (hd, .inl (cI, 96, .inl (fun _ => 0))), (jm, .inl (cZ, 4, .inl (fun _ => 0))), (bs, .inl (cB, 2, .inr (.inr (.inr (.inr (va_up (va_up (fun _ => none) 0 (some b0)) 1 (some b1))))))), (b0, .inr (0, [.int 2, .int 0, .int 0, .int 0, .int 0, .int (-1)])), (b1, .inr (0, [.int 2, .int 0, .int 0, .int 0, .int 0, .int (-1)])), (od, .inr (2, [.ref o1, .ref o2, .ref o3, .int 0])), (jb, .inr (1, [.ref pl, .int (-1), .int 0, .int 0, .int 0]))]) [0, 1, 2, 3, 4, 5, 6, 7, 8] (by decide) rfl
      have hKc := hK.sub (tys' := [(cI, .int), (cZ, .boolean), (cB, .object "ParkTower$Bay")]) [0, 1, 2] rfl
      have hFc := va_free (wc := [(x, .inr (5, [.ref rk, .ref bs, .ref od, .ref jb, .ref ap, .int 0, .int 1, .int 0, .int 0, .int 0])), (rk, .inr (4, [.ref hd, .ref jm])), (hd, .inl (cI, 96, .inl (fun _ => 0))), (jm, .inl (cZ, 4, .inl (fun _ => 0))), (bs, .inl (cB, 2, .inr (.inr (.inr (.inr (va_up (va_up (fun _ => none) 0 (some b0)) 1 (some b1))))))), (b0, .inr (0, [.int 2, .int 0, .int 0, .int 0, .int 0, .int (-1)])), (b1, .inr (0, [.int 2, .int 0, .int 0, .int 0, .int 0, .int (-1)])), (od, .inr (2, [.ref o1, .ref o2, .ref o3, .int 0])), (jb, .inr (1, [.ref pl, .int (-1), .int 0, .int 0, .int 0]))]) hD hS hA [0, 1, 2, 3, 4, 5, 6, 7, 8] rfl
      refine va_calli (vx_runSW (As := [.ref x, .int v1, .int 0]) (rest := []) ⟨hx, hb, hml, hown, hts⟩ (w_jam l hlt dC dI _ x rk hd jm bs b0 b1 od o1 o2 o3 jb pl ap cI cZ cB v1 0) (vx_cwSW 3 hts gk_L_jam rfl rfl rfl (by decide +kernel) ⟨Nat.le_of_ble_eq_true rfl, Nat.le_of_ble_eq_true rfl⟩) ⟨pt_blindT, pt_preT hPc hKc hDc hN hE (pt_Z.up hZ (fun q h1 h2 => hS.2.1 q h1 h2) hS.1)⟩ rfl rfl hl.1 rfl (lv_room (Nat.le_of_ble_eq_true rfl)) dL_law_425 ⟨Nat.le_of_ble_eq_true rfl, Nat.le_of_ble_eq_true rfl⟩) hS (fun q _ h => hFc q h) hFc (fun r_1 u_1 t H1 locs ht hvm hw_1 hB hz1 hk1 hS => ?_)
      obtain ⟨hP1, hK1, hD1⟩ := hB
      rw [ht] at hP1
      have hK1 := va_K.moved hvm.symm hK1
      obtain ⟨hP, hD⟩ := va_join (wr := [(mo, .inr (6, [.int 0, .int 0, .int 0, .int 0, .ref m4, .ref m5, .ref m6, .ref m7, .ref m8, .ref m9, .ref m10, .ref m11, .ref m12, .int 1, .int 0, .int 0, .ref m16, .ref m17, .ref m18, .int 0, .int 0, .int 0, .int 0, .int 0, .int 0, .int 0, .int 0, .ref m27, .int 0, .ref m29, .ref m30, .ref m31])), (m4, .inl (y4, 700, .inl (fun _ => 0))), (m5, .inl (y5, 700, .inl (fun _ => 0))), (m6, .inl (y6, 700, .inl (fun _ => 0))), (m7, .inl (y7, 96, .inl (fun _ => 0))), (m8, .inl (y8, 2, .inl (upd (upd (fun _ => 0) 0 2) 1 2))), (m9, .inl (y9, 2, .inl (fun _ => 0))), (m10, .inl (y10, 2, .inl (fun _ => 0))), (m11, .inl (y11, 2, .inl (upd (upd (fun _ => 0) 0 (-1)) 1 (-1)))), (m12, .inl (y12, 4, .inl (fun _ => 0))), (ot, .inl (cL, 1, .inr (.inl (fun _ => 0))))]) (w1 := []) hP hD [0, 1, 2, 3, 4, 5, 6, 7, 8] [9, 10, 11, 12, 13, 14, 15, 16, 17, 18, 19] rfl rfl (by decide) (by decide) hk1 hFc hP1 hD1
      have hK := hK.app hK1
      generalize H1 = H at hP hS ⊢
      have hP : va_P (dC, dI) vwCl [(mo, .inr (6, [.int 0, .int 0, .int 0, .int 0, .ref m4, .ref m5, .ref m6, .ref m7, .ref m8, .ref m9, .ref m10, .ref m11, .ref m12, .int 1, .int 0, .int 0, .ref m16, .ref m17, .ref m18, .int 0, .int 0, .int 0, .int 0, .int 0, .int 0, .int 0, .int 0, .ref m27, .int 0, .ref m29, .ref m30, .ref m31])), (m4, .inl (y4, 700, .inl (fun _ => 0))), (m5, .inl (y5, 700, .inl (fun _ => 0))), (m6, .inl (y6, 700, .inl (fun _ => 0))), (m7, .inl (y7, 96, .inl (fun _ => 0))), (m8, .inl (y8, 2, .inl (upd (upd (fun _ => 0) 0 2) 1 2))), (m9, .inl (y9, 2, .inl (fun _ => 0))), (m10, .inl (y10, 2, .inl (fun _ => 0))), (m11, .inl (y11, 2, .inl (upd (upd (fun _ => 0) 0 (-1)) 1 (-1)))), (m12, .inl (y12, 4, .inl (fun _ => 0))), (ot, .inl (cL, 1, .inr (.inl (fun _ => 0))))] H := hP
      have hD : va_D (fun q : Nat => s.heap.size ≤ q) [(mo, .inr (6, [.int 0, .int 0, .int 0, .int 0, .ref m4, .ref m5, .ref m6, .ref m7, .ref m8, .ref m9, .ref m10, .ref m11, .ref m12, .int 1, .int 0, .int 0, .ref m16, .ref m17, .ref m18, .int 0, .int 0, .int 0, .int 0, .int 0, .int 0, .int 0, .int 0, .ref m27, .int 0, .ref m29, .ref m30, .ref m31])), (m4, .inl (y4, 700, .inl (fun _ => 0))), (m5, .inl (y5, 700, .inl (fun _ => 0))), (m6, .inl (y6, 700, .inl (fun _ => 0))), (m7, .inl (y7, 96, .inl (fun _ => 0))), (m8, .inl (y8, 2, .inl (upd (upd (fun _ => 0) 0 2) 1 2))), (m9, .inl (y9, 2, .inl (fun _ => 0))), (m10, .inl (y10, 2, .inl (fun _ => 0))), (m11, .inl (y11, 2, .inl (upd (upd (fun _ => 0) 0 (-1)) 1 (-1)))), (m12, .inl (y12, 4, .inl (fun _ => 0))), (ot, .inl (cL, 1, .inr (.inl (fun _ => 0))))] := hD
      have hK : va_K (dC, dI) vwCl [(cI, .int), (cZ, .boolean), (cB, .object "ParkTower$Bay"), (y4, .int), (y5, .int), (y6, .int), (y7, .int), (y8, .int), (y9, .int), (y10, .boolean), (y11, .int), (y12, .boolean), (cL, .long)] s := hK
      refine W.widen (k := 37) (n := 2564) (by omega) (by omega) ?_
      obtain rfl : r_1 = 0 := hw_1.trans (if_pos hok)
      refine lv_istore (lv' := [(5, .int 0), (4, .int 0), (3, .ref ot), (2, .ref mo), (1, .ref x), (0, .ref b)]) hx hb dL_law_428 hl (by decide) rfl (fun ls hl => ?_)
      refine lv_aload_n hx hb dL_law_430 rfl (lv_at hl 3 rfl) ?_
      refine lv_aload_n hx hb dL_law_431 rfl (lv_at hl 5 rfl) ?_
      refine lv_iload hx hb dL_law_432 (lv_at hl 1 rfl) ?_
      refine lv_iconst (v := 1) hx hb dL_law_434 (by decide) ?_
      refine lv_iadd hx hb dL_law_435 ?_
      refine pt_topi 1 (by decide) ?_
      refine va_sld hx hb hX hbl hbA hS (vp_in_iff.mpr (by decide)) dL_law_436 ?_
      refine pt_topi v1 e1 ?_
      refine lv_aload_n hx hb dL_law_437 rfl (lv_at hl 5 rfl) ?_
      refine lv_iload hx hb dL_law_438 (lv_at hl 1 rfl) ?_
      refine lv_iconst (v := 2) hx hb dL_law_440 (by decide) ?_
      refine lv_iadd hx hb dL_law_441 ?_
      refine pt_topi 2 (by decide) ?_
      refine va_sld hx hb hX hbl hbA hS (vp_in_iff.mpr (by decide)) dL_law_442 ?_
      refine pt_topi v2 e2 ?_
      refine lv_if_eq (tgt := 450) hx hb dL_law_443 (by decide) (fun _ => ?_) (fun c => absurd (by assumption) c)
      refine lv_iconst (v := 0) hx hb dL_law_450 (by decide) ?_
      have hPc := hP.sub (ws' := [(mo, .inr (6, [.int 0, .int 0, .int 0, .int 0, .ref m4, .ref m5, .ref m6, .ref m7, .ref m8, .ref m9, .ref m10, .ref m11, .ref m12, .int 1, .int 0, .int 0, .ref m16, .ref m17, .ref m18, .int 0, .int 0, .int 0, .int 0, .int 0, .int 0, .int 0, .int 0, .ref m27, .int 0, .ref m29, .ref m30, .ref m31])), (m4, .inl (y4, 700, .inl (fun _ => 0))), (m5, .inl (y5, 700, .inl (fun _ => 0))), (m6, .inl (y6, 700, .inl (fun _ => 0))), (m7, .inl (y7, 96, .inl (fun _ => 0))), (m8, .inl (y8, 2, .inl (upd (upd (fun _ => 0) 0 2) 1 2))), (m9, .inl (y9, 2, .inl (fun _ => 0))), (m10, .inl (y10, 2, .inl (fun _ => 0))), (m11, .inl (y11, 2, .inl (upd (upd (fun _ => 0) 0 (-1)) 1 (-1)))), (m12, .inl (y12, 4, .inl (fun _ => 0)))]) [0, 1, 2, 3, 4, 5, 6, 7, 8, 9] rfl
      have hDc := hD.sub (ws' := [(mo, .inr (6, [.int 0, .int 0, .int 0, .int 0, .ref m4, .ref m5, .ref m6, .ref m7, .ref m8, .ref m9, .ref m10, .ref m11, .ref m12, .int 1, .int 0, .int 0, .ref m16, .ref m17, .ref m18, .int 0, .int 0, .int 0, .int 0, .int 0, .int 0, .int 0, .int 0, .ref m27, .int 0, .ref m29, .ref m30, .ref m31])), (m4, .inl (y4, 700, .inl (fun _ => 0))), (m5, .inl (y5, 700, .inl (fun _ => 0))), (m6, .inl (y6, 700, .inl (fun _ => 0))), (m7, .inl (y7, 96, .inl (fun _ => 0))), (m8, .inl (y8, 2, .inl (upd (upd (fun _ => 0) 0 2) 1 2))), (m9, .inl (y9, 2, .inl (fun _ => 0))), (m10, .inl (y10, 2, .inl (fun _ => 0))), (m11, .inl (y11, 2, .inl (upd (upd (fun _ => 0) 0 (-1)) 1 (-1)))), (m12, .inl (y12, 4, .inl (fun _ => 0)))]) [0, 1, 2, 3, 4, 5, 6, 7, 8, 9] (by decide) rfl
      have hKc := hK.sub (tys' := [(y4, .int), (y5, .int), (y6, .int), (y7, .int), (y8, .int), (y9, .int), (y10, .boolean), (y11, .int), (y12, .boolean)]) [3, 4, 5, 6, 7, 8, 9, 10, 11] rfl
      have hFc := va_free (wc := [(mo, .inr (6, [.int 0, .int 0, .int 0, .int 0, .ref m4, .ref m5, .ref m6, .ref m7, .ref m8, .ref m9, .ref m10, .ref m11, .ref m12, .int 1, .int 0, .int 0, .ref m16, .ref m17, .ref m18, .int 0, .int 0, .int 0, .int 0, .int 0, .int 0, .int 0, .int 0, .ref m27, .int 0, .ref m29, .ref m30, .ref m31])), (m4, .inl (y4, 700, .inl (fun _ => 0))), (m5, .inl (y5, 700, .inl (fun _ => 0))), (m6, .inl (y6, 700, .inl (fun _ => 0))), (m7, .inl (y7, 96, .inl (fun _ => 0))), (m8, .inl (y8, 2, .inl (upd (upd (fun _ => 0) 0 2) 1 2))), (m9, .inl (y9, 2, .inl (fun _ => 0))), (m10, .inl (y10, 2, .inl (fun _ => 0))), (m11, .inl (y11, 2, .inl (upd (upd (fun _ => 0) 0 (-1)) 1 (-1)))), (m12, .inl (y12, 4, .inl (fun _ => 0)))]) hD hS hA [0, 1, 2, 3, 4, 5, 6, 7, 8, 9] rfl
      refine va_callv (va_runV (As := [.int v1, .int 0]) (rest := []) ⟨hx, hb, hml, hown, hts⟩ (m_jam l dC dI _ mo m4 m5 m6 m7 m8 m9 m10 m11 m12 m16 m17 m18 m27 m29 m30 m31 y4 y5 y6 y7 y8 y9 y10 y11 y12 v1 0 ⟨hok.1, pt_34.mp hok.2⟩ (pt_vin hok.1 hok.2 rfl)) (cwV 2 hts gk_X8_jam rfl rfl rfl (by decide +kernel) ⟨Nat.le_of_ble_eq_true rfl, Nat.le_of_ble_eq_true rfl⟩) ⟨pt_blindQ, va_recv hK hP (ci := 6) (q0 := 0) rfl rfl, pt_preQ hPc hKc hDc hN⟩ rfl rfl hl.1 rfl (lv_room (Nat.le_of_ble_eq_true rfl)) dL_law_451 ⟨Nat.le_of_ble_eq_true rfl, Nat.le_of_ble_eq_true rfl⟩) hS (fun q _ h => hFc q h) hFc (fun u_2 t H1 locs ht hvm hw_2 hB hz1 hk1 hS => ?_)
      obtain ⟨hP1, hK1, hD1⟩ := hB
      rw [ht] at hP1
      have hK1 := va_K.moved hvm.symm hK1
      obtain ⟨hP, hD⟩ := va_join (wr := [(ot, .inl (cL, 1, .inr (.inl (fun _ => 0))))]) (w1 := [(mo, .inr (6, .int u_2.1 :: u_2.2))]) hP hD [0, 1, 2, 3, 4, 5, 6, 7, 8, 9] [10] rfl rfl (by decide) (by decide) hk1 hFc hP1 hD1
      have hK := hK.app hK1
      generalize H1 = H at hP hS ⊢
      have hP : va_P (dC, dI) vwCl [(ot, .inl (cL, 1, .inr (.inl (fun _ => 0)))), (mo, .inr (6, .int u_2.1 :: u_2.2))] H := hP
      have hD : va_D (fun q : Nat => s.heap.size ≤ q) [(ot, .inl (cL, 1, .inr (.inl (fun _ => 0)))), (mo, .inr (6, .int u_2.1 :: u_2.2))] := hD
      have hK : va_K (dC, dI) vwCl [(cI, .int), (cZ, .boolean), (cB, .object "ParkTower$Bay"), (y4, .int), (y5, .int), (y6, .int), (y7, .int), (y8, .int), (y9, .int), (y10, .boolean), (y11, .int), (y12, .boolean), (cL, .long)] s := hK
      refine W.widen (k := 37) (n := 2564) (by omega) (by omega) ?_
      refine lv_aload_n hx hb dL_law_454 rfl (lv_at hl 3 rfl) ?_
      refine pt_cSi (va_runV (As := []) (rest := []) ⟨hx, hb, hml, hown, hts⟩ (c_thrown l dC dI mo u_2.1 u_2.2) (cwV 0 hts gk_X8_thrown rfl rfl rfl (by decide +kernel) ⟨Nat.le_of_ble_eq_true rfl, Nat.le_of_ble_eq_true rfl⟩) ⟨pt_blind, va_recv hK hP (ci := 6) (q0 := 1) rfl rfl, pt_pre (w := [(mo, .inr (6, .int u_2.1 :: u_2.2))]) (tys := []) (hP.sub [1] rfl) (hK.sub [] rfl) hN⟩ rfl rfl hl.1 rfl (lv_room (Nat.le_of_ble_eq_true rfl)) dL_law_455 ⟨Nat.le_of_ble_eq_true rfl, Nat.le_of_ble_eq_true rfl⟩) (fun r_3 hr_3 => ?_)
      obtain rfl : r_3 = 0 := hr_3.trans hw_2
      refine lv_iload hx hb dL_law_458 (lv_at hl 0 rfl) ?_
      refine lv_icmp_eq (tgt := 465) hx hb dL_law_460 (by decide) (fun _ => ?_) (fun c => absurd (by decide) c)
      refine lv_goto (tgt := 824) hx hb dL_law_465 (by decide) ?_
      exact law_end l C0 (Nat.le_of_ble_eq_true rfl) (Nat.le_of_ble_eq_true rfl) hS ls (lv_sub hl [1, 5] rfl)
    · skip
      refine lv_aload_n hx hb dL_law_404 rfl (lv_at hl 3 rfl) ?_
      refine lv_aload_n hx hb dL_law_405 rfl (lv_at hl 4 rfl) ?_
      refine lv_iload hx hb dL_law_406 (lv_at hl 0 rfl) ?_
      refine lv_iconst (v := 1) hx hb dL_law_408 (by decide) ?_
      refine lv_iadd hx hb dL_law_409 ?_
      refine pt_topi 1 (by decide) ?_
      refine va_sld hx hb hX hbl hbA hS (vp_in_iff.mpr (by decide)) dL_law_410 ?_
      refine pt_topi v1 e1 ?_
      refine lv_aload_n hx hb dL_law_411 rfl (lv_at hl 4 rfl) ?_
      refine lv_iload hx hb dL_law_412 (lv_at hl 0 rfl) ?_
      refine lv_iconst (v := 2) hx hb dL_law_414 (by decide) ?_
      refine lv_iadd hx hb dL_law_415 ?_
      refine pt_topi 2 (by decide) ?_
      refine va_sld hx hb hX hbl hbA hS (vp_in_iff.mpr (by decide)) dL_law_416 ?_
      refine pt_topi v2 e2 ?_
      refine lv_if_eq (tgt := 424) hx hb dL_law_417 (by decide) (fun _ => ?_) (fun c => absurd (by assumption) c)
      refine lv_iconst (v := 0) hx hb dL_law_424 (by decide) ?_
      have hPc := hP.sub (ws' := [(x, .inr (5, [.ref rk, .ref bs, .ref od, .ref jb, .ref ap, .int 0, .int 1, .int 0, .int 0, .int 0])), (rk, .inr (4, [.ref hd, .ref jm])), (hd, .inl (cI, 96, .inl (fun _ => 0))), (jm, .inl (cZ, 4, .inl (fun _ => 0))), (bs, .inl (cB, 2, .inr (.inr (.inr (.inr (va_up (va_up (fun _ => none) 0 (some b0)) 1 (some b1))))))), (b0, .inr (0, [.int 2, .int 0, .int 0, .int 0, .int 0, .int (-1)])), (b1, .inr (0, [.int 2, .int 0, .int 0, .int 0, .int 0, .int (-1)])), (od, .inr (2, [.ref o1, .ref o2, .ref o3, .int 0])), (jb, .inr (1, [.ref pl, .int (-1), .int 0, .int 0, .int 0]))]) [0, 1, 2, 3, 4, 5, 6, 7, 8] rfl
      have hDc := hD.sub (ws' := [(x, .inr (5, [.ref rk, .ref bs, .ref od, .ref jb, .ref ap, .int 0, .int 1, .int 0, .int 0, .int 0])), (rk, .inr (4, [.ref hd, .ref jm])), (hd, .inl (cI, 96, .inl (fun _ => 0))), (jm, .inl (cZ, 4, .inl (fun _ => 0))), (bs, .inl (cB, 2, .inr (.inr (.inr (.inr (va_up (va_up (fun _ => none) 0 (some b0)) 1 (some b1))))))), (b0, .inr (0, [.int 2, .int 0, .int 0, .int 0, .int 0, .int (-1)])), (b1, .inr (0, [.int 2, .int 0, .int 0, .int 0, .int 0, .int (-1)])), (od, .inr (2, [.ref o1, .ref o2, .ref o3, .int 0])), (jb, .inr (1, [.ref pl, .int (-1), .int 0, .int 0, .int 0]))]) [0, 1, 2, 3, 4, 5, 6, 7, 8] (by decide) rfl
      have hKc := hK.sub (tys' := [(cI, .int), (cZ, .boolean), (cB, .object "ParkTower$Bay")]) [0, 1, 2] rfl
      have hFc := va_free (wc := [(x, .inr (5, [.ref rk, .ref bs, .ref od, .ref jb, .ref ap, .int 0, .int 1, .int 0, .int 0, .int 0])), (rk, .inr (4, [.ref hd, .ref jm])), (hd, .inl (cI, 96, .inl (fun _ => 0))), (jm, .inl (cZ, 4, .inl (fun _ => 0))), (bs, .inl (cB, 2, .inr (.inr (.inr (.inr (va_up (va_up (fun _ => none) 0 (some b0)) 1 (some b1))))))), (b0, .inr (0, [.int 2, .int 0, .int 0, .int 0, .int 0, .int (-1)])), (b1, .inr (0, [.int 2, .int 0, .int 0, .int 0, .int 0, .int (-1)])), (od, .inr (2, [.ref o1, .ref o2, .ref o3, .int 0])), (jb, .inr (1, [.ref pl, .int (-1), .int 0, .int 0, .int 0]))]) hD hS hA [0, 1, 2, 3, 4, 5, 6, 7, 8] rfl
      refine va_calli (vx_runSW (As := [.ref x, .int v1, .int 0]) (rest := []) ⟨hx, hb, hml, hown, hts⟩ (w_jam l hlt dC dI _ x rk hd jm bs b0 b1 od o1 o2 o3 jb pl ap cI cZ cB v1 0) (vx_cwSW 3 hts gk_L_jam rfl rfl rfl (by decide +kernel) ⟨Nat.le_of_ble_eq_true rfl, Nat.le_of_ble_eq_true rfl⟩) ⟨pt_blindT, pt_preT hPc hKc hDc hN hE (pt_Z.up hZ (fun q h1 h2 => hS.2.1 q h1 h2) hS.1)⟩ rfl rfl hl.1 rfl (lv_room (Nat.le_of_ble_eq_true rfl)) dL_law_425 ⟨Nat.le_of_ble_eq_true rfl, Nat.le_of_ble_eq_true rfl⟩) hS (fun q _ h => hFc q h) hFc (fun r_4 u_4 t H1 locs ht hvm hw_4 hB hz1 hk1 hS => ?_)
      obtain ⟨hP1, hK1, hD1⟩ := hB
      rw [ht] at hP1
      have hK1 := va_K.moved hvm.symm hK1
      obtain ⟨hP, hD⟩ := va_join (wr := [(mo, .inr (6, [.int 0, .int 0, .int 0, .int 0, .ref m4, .ref m5, .ref m6, .ref m7, .ref m8, .ref m9, .ref m10, .ref m11, .ref m12, .int 1, .int 0, .int 0, .ref m16, .ref m17, .ref m18, .int 0, .int 0, .int 0, .int 0, .int 0, .int 0, .int 0, .int 0, .ref m27, .int 0, .ref m29, .ref m30, .ref m31])), (m4, .inl (y4, 700, .inl (fun _ => 0))), (m5, .inl (y5, 700, .inl (fun _ => 0))), (m6, .inl (y6, 700, .inl (fun _ => 0))), (m7, .inl (y7, 96, .inl (fun _ => 0))), (m8, .inl (y8, 2, .inl (upd (upd (fun _ => 0) 0 2) 1 2))), (m9, .inl (y9, 2, .inl (fun _ => 0))), (m10, .inl (y10, 2, .inl (fun _ => 0))), (m11, .inl (y11, 2, .inl (upd (upd (fun _ => 0) 0 (-1)) 1 (-1)))), (m12, .inl (y12, 4, .inl (fun _ => 0))), (ot, .inl (cL, 1, .inr (.inl (fun _ => 0))))]) (w1 := []) hP hD [0, 1, 2, 3, 4, 5, 6, 7, 8] [9, 10, 11, 12, 13, 14, 15, 16, 17, 18, 19] rfl rfl (by decide) (by decide) hk1 hFc hP1 hD1
      have hK := hK.app hK1
      generalize H1 = H at hP hS ⊢
      have hP : va_P (dC, dI) vwCl [(mo, .inr (6, [.int 0, .int 0, .int 0, .int 0, .ref m4, .ref m5, .ref m6, .ref m7, .ref m8, .ref m9, .ref m10, .ref m11, .ref m12, .int 1, .int 0, .int 0, .ref m16, .ref m17, .ref m18, .int 0, .int 0, .int 0, .int 0, .int 0, .int 0, .int 0, .int 0, .ref m27, .int 0, .ref m29, .ref m30, .ref m31])), (m4, .inl (y4, 700, .inl (fun _ => 0))), (m5, .inl (y5, 700, .inl (fun _ => 0))), (m6, .inl (y6, 700, .inl (fun _ => 0))), (m7, .inl (y7, 96, .inl (fun _ => 0))), (m8, .inl (y8, 2, .inl (upd (upd (fun _ => 0) 0 2) 1 2))), (m9, .inl (y9, 2, .inl (fun _ => 0))), (m10, .inl (y10, 2, .inl (fun _ => 0))), (m11, .inl (y11, 2, .inl (upd (upd (fun _ => 0) 0 (-1)) 1 (-1)))), (m12, .inl (y12, 4, .inl (fun _ => 0))), (ot, .inl (cL, 1, .inr (.inl (fun _ => 0))))] H := hP
      have hD : va_D (fun q : Nat => s.heap.size ≤ q) [(mo, .inr (6, [.int 0, .int 0, .int 0, .int 0, .ref m4, .ref m5, .ref m6, .ref m7, .ref m8, .ref m9, .ref m10, .ref m11, .ref m12, .int 1, .int 0, .int 0, .ref m16, .ref m17, .ref m18, .int 0, .int 0, .int 0, .int 0, .int 0, .int 0, .int 0, .int 0, .ref m27, .int 0, .ref m29, .ref m30, .ref m31])), (m4, .inl (y4, 700, .inl (fun _ => 0))), (m5, .inl (y5, 700, .inl (fun _ => 0))), (m6, .inl (y6, 700, .inl (fun _ => 0))), (m7, .inl (y7, 96, .inl (fun _ => 0))), (m8, .inl (y8, 2, .inl (upd (upd (fun _ => 0) 0 2) 1 2))), (m9, .inl (y9, 2, .inl (fun _ => 0))), (m10, .inl (y10, 2, .inl (fun _ => 0))), (m11, .inl (y11, 2, .inl (upd (upd (fun _ => 0) 0 (-1)) 1 (-1)))), (m12, .inl (y12, 4, .inl (fun _ => 0))), (ot, .inl (cL, 1, .inr (.inl (fun _ => 0))))] := hD
      have hK : va_K (dC, dI) vwCl [(cI, .int), (cZ, .boolean), (cB, .object "ParkTower$Bay"), (y4, .int), (y5, .int), (y6, .int), (y7, .int), (y8, .int), (y9, .int), (y10, .boolean), (y11, .int), (y12, .boolean), (cL, .long)] s := hK
      refine W.widen (k := 37) (n := 2564) (by omega) (by omega) ?_
      obtain rfl : r_4 = 1 := hw_4.trans (if_neg hok)
      refine lv_istore (lv' := [(5, .int 1), (4, .int 0), (3, .ref ot), (2, .ref mo), (1, .ref x), (0, .ref b)]) hx hb dL_law_428 hl (by decide) rfl (fun ls hl => ?_)
      refine lv_aload_n hx hb dL_law_430 rfl (lv_at hl 3 rfl) ?_
      refine lv_aload_n hx hb dL_law_431 rfl (lv_at hl 5 rfl) ?_
      refine lv_iload hx hb dL_law_432 (lv_at hl 1 rfl) ?_
      refine lv_iconst (v := 1) hx hb dL_law_434 (by decide) ?_
      refine lv_iadd hx hb dL_law_435 ?_
      refine pt_topi 1 (by decide) ?_
      refine va_sld hx hb hX hbl hbA hS (vp_in_iff.mpr (by decide)) dL_law_436 ?_
      refine pt_topi v1 e1 ?_
      refine lv_aload_n hx hb dL_law_437 rfl (lv_at hl 5 rfl) ?_
      refine lv_iload hx hb dL_law_438 (lv_at hl 1 rfl) ?_
      refine lv_iconst (v := 2) hx hb dL_law_440 (by decide) ?_
      refine lv_iadd hx hb dL_law_441 ?_
      refine pt_topi 2 (by decide) ?_
      refine va_sld hx hb hX hbl hbA hS (vp_in_iff.mpr (by decide)) dL_law_442 ?_
      refine pt_topi v2 e2 ?_
      refine lv_if_eq (tgt := 450) hx hb dL_law_443 (by decide) (fun _ => ?_) (fun c => absurd (by assumption) c)
      refine lv_iconst (v := 0) hx hb dL_law_450 (by decide) ?_
      have hPc := hP.sub (ws' := [(mo, .inr (6, [.int 0, .int 0, .int 0, .int 0, .ref m4, .ref m5, .ref m6, .ref m7, .ref m8, .ref m9, .ref m10, .ref m11, .ref m12, .int 1, .int 0, .int 0, .ref m16, .ref m17, .ref m18, .int 0, .int 0, .int 0, .int 0, .int 0, .int 0, .int 0, .int 0, .ref m27, .int 0, .ref m29, .ref m30, .ref m31])), (m4, .inl (y4, 700, .inl (fun _ => 0))), (m5, .inl (y5, 700, .inl (fun _ => 0))), (m6, .inl (y6, 700, .inl (fun _ => 0))), (m7, .inl (y7, 96, .inl (fun _ => 0))), (m8, .inl (y8, 2, .inl (upd (upd (fun _ => 0) 0 2) 1 2))), (m9, .inl (y9, 2, .inl (fun _ => 0))), (m10, .inl (y10, 2, .inl (fun _ => 0))), (m11, .inl (y11, 2, .inl (upd (upd (fun _ => 0) 0 (-1)) 1 (-1)))), (m12, .inl (y12, 4, .inl (fun _ => 0)))]) [0, 1, 2, 3, 4, 5, 6, 7, 8, 9] rfl
      have hDc := hD.sub (ws' := [(mo, .inr (6, [.int 0, .int 0, .int 0, .int 0, .ref m4, .ref m5, .ref m6, .ref m7, .ref m8, .ref m9, .ref m10, .ref m11, .ref m12, .int 1, .int 0, .int 0, .ref m16, .ref m17, .ref m18, .int 0, .int 0, .int 0, .int 0, .int 0, .int 0, .int 0, .int 0, .ref m27, .int 0, .ref m29, .ref m30, .ref m31])), (m4, .inl (y4, 700, .inl (fun _ => 0))), (m5, .inl (y5, 700, .inl (fun _ => 0))), (m6, .inl (y6, 700, .inl (fun _ => 0))), (m7, .inl (y7, 96, .inl (fun _ => 0))), (m8, .inl (y8, 2, .inl (upd (upd (fun _ => 0) 0 2) 1 2))), (m9, .inl (y9, 2, .inl (fun _ => 0))), (m10, .inl (y10, 2, .inl (fun _ => 0))), (m11, .inl (y11, 2, .inl (upd (upd (fun _ => 0) 0 (-1)) 1 (-1)))), (m12, .inl (y12, 4, .inl (fun _ => 0)))]) [0, 1, 2, 3, 4, 5, 6, 7, 8, 9] (by decide) rfl
      have hKc := hK.sub (tys' := [(y4, .int), (y5, .int), (y6, .int), (y7, .int), (y8, .int), (y9, .int), (y10, .boolean), (y11, .int), (y12, .boolean)]) [3, 4, 5, 6, 7, 8, 9, 10, 11] rfl
      have hFc := va_free (wc := [(mo, .inr (6, [.int 0, .int 0, .int 0, .int 0, .ref m4, .ref m5, .ref m6, .ref m7, .ref m8, .ref m9, .ref m10, .ref m11, .ref m12, .int 1, .int 0, .int 0, .ref m16, .ref m17, .ref m18, .int 0, .int 0, .int 0, .int 0, .int 0, .int 0, .int 0, .int 0, .ref m27, .int 0, .ref m29, .ref m30, .ref m31])), (m4, .inl (y4, 700, .inl (fun _ => 0))), (m5, .inl (y5, 700, .inl (fun _ => 0))), (m6, .inl (y6, 700, .inl (fun _ => 0))), (m7, .inl (y7, 96, .inl (fun _ => 0))), (m8, .inl (y8, 2, .inl (upd (upd (fun _ => 0) 0 2) 1 2))), (m9, .inl (y9, 2, .inl (fun _ => 0))), (m10, .inl (y10, 2, .inl (fun _ => 0))), (m11, .inl (y11, 2, .inl (upd (upd (fun _ => 0) 0 (-1)) 1 (-1)))), (m12, .inl (y12, 4, .inl (fun _ => 0)))]) hD hS hA [0, 1, 2, 3, 4, 5, 6, 7, 8, 9] rfl
      refine va_callv (va_runV (As := [.int v1, .int 0]) (rest := []) ⟨hx, hb, hml, hown, hts⟩ (m_jamX l dC dI _ mo m4 m5 m6 m7 m8 m9 m10 m11 m12 m16 m17 m18 m27 m29 m30 m31 y4 y5 y6 y7 y8 y9 y10 y11 y12 v1 0 (fun q => hok ⟨q.1, pt_34.mpr q.2⟩)) (cwV 2 hts gk_X8_jam rfl rfl rfl (by decide +kernel) ⟨Nat.le_of_ble_eq_true rfl, Nat.le_of_ble_eq_true rfl⟩) ⟨pt_blindQ, va_recv hK hP (ci := 6) (q0 := 0) rfl rfl, pt_preQ hPc hKc hDc hN⟩ rfl rfl hl.1 rfl (lv_room (Nat.le_of_ble_eq_true rfl)) dL_law_451 ⟨Nat.le_of_ble_eq_true rfl, Nat.le_of_ble_eq_true rfl⟩) hS (fun q _ h => hFc q h) hFc (fun u_5 t H1 locs ht hvm hw_5 hB hz1 hk1 hS => ?_)
      obtain ⟨hP1, hK1, hD1⟩ := hB
      rw [ht] at hP1
      have hK1 := va_K.moved hvm.symm hK1
      obtain ⟨hP, hD⟩ := va_join (wr := [(ot, .inl (cL, 1, .inr (.inl (fun _ => 0))))]) (w1 := [(mo, .inr (6, .int u_5.1 :: u_5.2))]) hP hD [0, 1, 2, 3, 4, 5, 6, 7, 8, 9] [10] rfl rfl (by decide) (by decide) hk1 hFc hP1 hD1
      have hK := hK.app hK1
      generalize H1 = H at hP hS ⊢
      have hP : va_P (dC, dI) vwCl [(ot, .inl (cL, 1, .inr (.inl (fun _ => 0)))), (mo, .inr (6, .int u_5.1 :: u_5.2))] H := hP
      have hD : va_D (fun q : Nat => s.heap.size ≤ q) [(ot, .inl (cL, 1, .inr (.inl (fun _ => 0)))), (mo, .inr (6, .int u_5.1 :: u_5.2))] := hD
      have hK : va_K (dC, dI) vwCl [(cI, .int), (cZ, .boolean), (cB, .object "ParkTower$Bay"), (y4, .int), (y5, .int), (y6, .int), (y7, .int), (y8, .int), (y9, .int), (y10, .boolean), (y11, .int), (y12, .boolean), (cL, .long)] s := hK
      refine W.widen (k := 37) (n := 2564) (by omega) (by omega) ?_
      refine lv_aload_n hx hb dL_law_454 rfl (lv_at hl 3 rfl) ?_
      refine pt_cSi (va_runV (As := []) (rest := []) ⟨hx, hb, hml, hown, hts⟩ (c_thrown l dC dI mo u_5.1 u_5.2) (cwV 0 hts gk_X8_thrown rfl rfl rfl (by decide +kernel) ⟨Nat.le_of_ble_eq_true rfl, Nat.le_of_ble_eq_true rfl⟩) ⟨pt_blind, va_recv hK hP (ci := 6) (q0 := 1) rfl rfl, pt_pre (w := [(mo, .inr (6, .int u_5.1 :: u_5.2))]) (tys := []) (hP.sub [1] rfl) (hK.sub [] rfl) hN⟩ rfl rfl hl.1 rfl (lv_room (Nat.le_of_ble_eq_true rfl)) dL_law_455 ⟨Nat.le_of_ble_eq_true rfl, Nat.le_of_ble_eq_true rfl⟩) (fun r_6 hr_6 => ?_)
      obtain rfl : r_6 = 1 := hr_6.trans hw_5
      refine lv_iload hx hb dL_law_458 (lv_at hl 0 rfl) ?_
      refine lv_icmp_eq (tgt := 465) hx hb dL_law_460 (by decide) (fun _ => ?_) (fun c => absurd (by decide) c)
      refine lv_goto (tgt := 824) hx hb dL_law_465 (by decide) ?_
      exact law_end l C0 (Nat.le_of_ble_eq_true rfl) (Nat.le_of_ble_eq_true rfl) hS ls (lv_sub hl [1, 5] rfl)
  · by_cases hok : ¬ v1 < 0 ∧ v1 < 4
    · skip
      refine lv_aload_n hx hb dL_law_404 rfl (lv_at hl 3 rfl) ?_
      refine lv_aload_n hx hb dL_law_405 rfl (lv_at hl 4 rfl) ?_
      refine lv_iload hx hb dL_law_406 (lv_at hl 0 rfl) ?_
      refine lv_iconst (v := 1) hx hb dL_law_408 (by decide) ?_
      refine lv_iadd hx hb dL_law_409 ?_
      refine pt_topi 1 (by decide) ?_
      refine va_sld hx hb hX hbl hbA hS (vp_in_iff.mpr (by decide)) dL_law_410 ?_
      refine pt_topi v1 e1 ?_
      refine lv_aload_n hx hb dL_law_411 rfl (lv_at hl 4 rfl) ?_
      refine lv_iload hx hb dL_law_412 (lv_at hl 0 rfl) ?_
      refine lv_iconst (v := 2) hx hb dL_law_414 (by decide) ?_
      refine lv_iadd hx hb dL_law_415 ?_
      refine pt_topi 2 (by decide) ?_
      refine va_sld hx hb hX hbl hbA hS (vp_in_iff.mpr (by decide)) dL_law_416 ?_
      refine pt_topi v2 e2 ?_
      refine lv_if_eq (tgt := 424) hx hb dL_law_417 (by decide) (fun c => absurd c (by assumption)) (fun _ => ?_)
      refine lv_iconst (v := 1) hx hb dL_law_420 (by decide) ?_
      refine lv_goto (tgt := 425) hx hb dL_law_421 (by decide) ?_
      have hPc := hP.sub (ws' := [(x, .inr (5, [.ref rk, .ref bs, .ref od, .ref jb, .ref ap, .int 0, .int 1, .int 0, .int 0, .int 0])), (rk, .inr (4, [.ref hd, .ref jm])), (hd, .inl (cI, 96, .inl (fun _ => 0))), (jm, .inl (cZ, 4, .inl (fun _ => 0))), (bs, .inl (cB, 2, .inr (.inr (.inr (.inr (va_up (va_up (fun _ => none) 0 (some b0)) 1 (some b1))))))), (b0, .inr (0, [.int 2, .int 0, .int 0, .int 0, .int 0, .int (-1)])), (b1, .inr (0, [.int 2, .int 0, .int 0, .int 0, .int 0, .int (-1)])), (od, .inr (2, [.ref o1, .ref o2, .ref o3, .int 0])), (jb, .inr (1, [.ref pl, .int (-1), .int 0, .int 0, .int 0]))]) [0, 1, 2, 3, 4, 5, 6, 7, 8] rfl
      have hDc := hD.sub (ws' := [(x, .inr (5, [.ref rk, .ref bs, .ref od, .ref jb, .ref ap, .int 0, .int 1, .int 0, .int 0, .int 0])), (rk, .inr (4, [.ref hd, .ref jm])), (hd, .inl (cI, 96, .inl (fun _ => 0))), (jm, .inl (cZ, 4, .inl (fun _ => 0))), (bs, .inl (cB, 2, .inr (.inr (.inr (.inr (va_up (va_up (fun _ => none) 0 (some b0)) 1 (some b1))))))), (b0, .inr (0, [.int 2, .int 0, .int 0, .int 0, .int 0, .int (-1)])), (b1, .inr (0, [.int 2, .int 0, .int 0, .int 0, .int 0, .int (-1)])), (od, .inr (2, [.ref o1, .ref o2, .ref o3, .int 0])), (jb, .inr (1, [.ref pl, .int (-1), .int 0, .int 0, .int 0]))]) [0, 1, 2, 3, 4, 5, 6, 7, 8] (by decide) rfl
      have hKc := hK.sub (tys' := [(cI, .int), (cZ, .boolean), (cB, .object "ParkTower$Bay")]) [0, 1, 2] rfl
      have hFc := va_free (wc := [(x, .inr (5, [.ref rk, .ref bs, .ref od, .ref jb, .ref ap, .int 0, .int 1, .int 0, .int 0, .int 0])), (rk, .inr (4, [.ref hd, .ref jm])), (hd, .inl (cI, 96, .inl (fun _ => 0))), (jm, .inl (cZ, 4, .inl (fun _ => 0))), (bs, .inl (cB, 2, .inr (.inr (.inr (.inr (va_up (va_up (fun _ => none) 0 (some b0)) 1 (some b1))))))), (b0, .inr (0, [.int 2, .int 0, .int 0, .int 0, .int 0, .int (-1)])), (b1, .inr (0, [.int 2, .int 0, .int 0, .int 0, .int 0, .int (-1)])), (od, .inr (2, [.ref o1, .ref o2, .ref o3, .int 0])), (jb, .inr (1, [.ref pl, .int (-1), .int 0, .int 0, .int 0]))]) hD hS hA [0, 1, 2, 3, 4, 5, 6, 7, 8] rfl
      refine va_calli (vx_runSW (As := [.ref x, .int v1, .int 1]) (rest := []) ⟨hx, hb, hml, hown, hts⟩ (w_jam l hlt dC dI _ x rk hd jm bs b0 b1 od o1 o2 o3 jb pl ap cI cZ cB v1 1) (vx_cwSW 3 hts gk_L_jam rfl rfl rfl (by decide +kernel) ⟨Nat.le_of_ble_eq_true rfl, Nat.le_of_ble_eq_true rfl⟩) ⟨pt_blindT, pt_preT hPc hKc hDc hN hE (pt_Z.up hZ (fun q h1 h2 => hS.2.1 q h1 h2) hS.1)⟩ rfl rfl hl.1 rfl (lv_room (Nat.le_of_ble_eq_true rfl)) dL_law_425 ⟨Nat.le_of_ble_eq_true rfl, Nat.le_of_ble_eq_true rfl⟩) hS (fun q _ h => hFc q h) hFc (fun r_7 u_7 t H1 locs ht hvm hw_7 hB hz1 hk1 hS => ?_)
      obtain ⟨hP1, hK1, hD1⟩ := hB
      rw [ht] at hP1
      have hK1 := va_K.moved hvm.symm hK1
      obtain ⟨hP, hD⟩ := va_join (wr := [(mo, .inr (6, [.int 0, .int 0, .int 0, .int 0, .ref m4, .ref m5, .ref m6, .ref m7, .ref m8, .ref m9, .ref m10, .ref m11, .ref m12, .int 1, .int 0, .int 0, .ref m16, .ref m17, .ref m18, .int 0, .int 0, .int 0, .int 0, .int 0, .int 0, .int 0, .int 0, .ref m27, .int 0, .ref m29, .ref m30, .ref m31])), (m4, .inl (y4, 700, .inl (fun _ => 0))), (m5, .inl (y5, 700, .inl (fun _ => 0))), (m6, .inl (y6, 700, .inl (fun _ => 0))), (m7, .inl (y7, 96, .inl (fun _ => 0))), (m8, .inl (y8, 2, .inl (upd (upd (fun _ => 0) 0 2) 1 2))), (m9, .inl (y9, 2, .inl (fun _ => 0))), (m10, .inl (y10, 2, .inl (fun _ => 0))), (m11, .inl (y11, 2, .inl (upd (upd (fun _ => 0) 0 (-1)) 1 (-1)))), (m12, .inl (y12, 4, .inl (fun _ => 0))), (ot, .inl (cL, 1, .inr (.inl (fun _ => 0))))]) (w1 := []) hP hD [0, 1, 2, 3, 4, 5, 6, 7, 8] [9, 10, 11, 12, 13, 14, 15, 16, 17, 18, 19] rfl rfl (by decide) (by decide) hk1 hFc hP1 hD1
      have hK := hK.app hK1
      generalize H1 = H at hP hS ⊢
      have hP : va_P (dC, dI) vwCl [(mo, .inr (6, [.int 0, .int 0, .int 0, .int 0, .ref m4, .ref m5, .ref m6, .ref m7, .ref m8, .ref m9, .ref m10, .ref m11, .ref m12, .int 1, .int 0, .int 0, .ref m16, .ref m17, .ref m18, .int 0, .int 0, .int 0, .int 0, .int 0, .int 0, .int 0, .int 0, .ref m27, .int 0, .ref m29, .ref m30, .ref m31])), (m4, .inl (y4, 700, .inl (fun _ => 0))), (m5, .inl (y5, 700, .inl (fun _ => 0))), (m6, .inl (y6, 700, .inl (fun _ => 0))), (m7, .inl (y7, 96, .inl (fun _ => 0))), (m8, .inl (y8, 2, .inl (upd (upd (fun _ => 0) 0 2) 1 2))), (m9, .inl (y9, 2, .inl (fun _ => 0))), (m10, .inl (y10, 2, .inl (fun _ => 0))), (m11, .inl (y11, 2, .inl (upd (upd (fun _ => 0) 0 (-1)) 1 (-1)))), (m12, .inl (y12, 4, .inl (fun _ => 0))), (ot, .inl (cL, 1, .inr (.inl (fun _ => 0))))] H := hP
      have hD : va_D (fun q : Nat => s.heap.size ≤ q) [(mo, .inr (6, [.int 0, .int 0, .int 0, .int 0, .ref m4, .ref m5, .ref m6, .ref m7, .ref m8, .ref m9, .ref m10, .ref m11, .ref m12, .int 1, .int 0, .int 0, .ref m16, .ref m17, .ref m18, .int 0, .int 0, .int 0, .int 0, .int 0, .int 0, .int 0, .int 0, .ref m27, .int 0, .ref m29, .ref m30, .ref m31])), (m4, .inl (y4, 700, .inl (fun _ => 0))), (m5, .inl (y5, 700, .inl (fun _ => 0))), (m6, .inl (y6, 700, .inl (fun _ => 0))), (m7, .inl (y7, 96, .inl (fun _ => 0))), (m8, .inl (y8, 2, .inl (upd (upd (fun _ => 0) 0 2) 1 2))), (m9, .inl (y9, 2, .inl (fun _ => 0))), (m10, .inl (y10, 2, .inl (fun _ => 0))), (m11, .inl (y11, 2, .inl (upd (upd (fun _ => 0) 0 (-1)) 1 (-1)))), (m12, .inl (y12, 4, .inl (fun _ => 0))), (ot, .inl (cL, 1, .inr (.inl (fun _ => 0))))] := hD
      have hK : va_K (dC, dI) vwCl [(cI, .int), (cZ, .boolean), (cB, .object "ParkTower$Bay"), (y4, .int), (y5, .int), (y6, .int), (y7, .int), (y8, .int), (y9, .int), (y10, .boolean), (y11, .int), (y12, .boolean), (cL, .long)] s := hK
      refine W.widen (k := 37) (n := 2564) (by omega) (by omega) ?_
      obtain rfl : r_7 = 0 := hw_7.trans (if_pos hok)
      refine lv_istore (lv' := [(5, .int 0), (4, .int 0), (3, .ref ot), (2, .ref mo), (1, .ref x), (0, .ref b)]) hx hb dL_law_428 hl (by decide) rfl (fun ls hl => ?_)
      refine lv_aload_n hx hb dL_law_430 rfl (lv_at hl 3 rfl) ?_
      refine lv_aload_n hx hb dL_law_431 rfl (lv_at hl 5 rfl) ?_
      refine lv_iload hx hb dL_law_432 (lv_at hl 1 rfl) ?_
      refine lv_iconst (v := 1) hx hb dL_law_434 (by decide) ?_
      refine lv_iadd hx hb dL_law_435 ?_
      refine pt_topi 1 (by decide) ?_
      refine va_sld hx hb hX hbl hbA hS (vp_in_iff.mpr (by decide)) dL_law_436 ?_
      refine pt_topi v1 e1 ?_
      refine lv_aload_n hx hb dL_law_437 rfl (lv_at hl 5 rfl) ?_
      refine lv_iload hx hb dL_law_438 (lv_at hl 1 rfl) ?_
      refine lv_iconst (v := 2) hx hb dL_law_440 (by decide) ?_
      refine lv_iadd hx hb dL_law_441 ?_
      refine pt_topi 2 (by decide) ?_
      refine va_sld hx hb hX hbl hbA hS (vp_in_iff.mpr (by decide)) dL_law_442 ?_
      refine pt_topi v2 e2 ?_
      refine lv_if_eq (tgt := 450) hx hb dL_law_443 (by decide) (fun c => absurd c (by assumption)) (fun _ => ?_)
      refine lv_iconst (v := 1) hx hb dL_law_446 (by decide) ?_
      refine lv_goto (tgt := 451) hx hb dL_law_447 (by decide) ?_
      have hPc := hP.sub (ws' := [(mo, .inr (6, [.int 0, .int 0, .int 0, .int 0, .ref m4, .ref m5, .ref m6, .ref m7, .ref m8, .ref m9, .ref m10, .ref m11, .ref m12, .int 1, .int 0, .int 0, .ref m16, .ref m17, .ref m18, .int 0, .int 0, .int 0, .int 0, .int 0, .int 0, .int 0, .int 0, .ref m27, .int 0, .ref m29, .ref m30, .ref m31])), (m4, .inl (y4, 700, .inl (fun _ => 0))), (m5, .inl (y5, 700, .inl (fun _ => 0))), (m6, .inl (y6, 700, .inl (fun _ => 0))), (m7, .inl (y7, 96, .inl (fun _ => 0))), (m8, .inl (y8, 2, .inl (upd (upd (fun _ => 0) 0 2) 1 2))), (m9, .inl (y9, 2, .inl (fun _ => 0))), (m10, .inl (y10, 2, .inl (fun _ => 0))), (m11, .inl (y11, 2, .inl (upd (upd (fun _ => 0) 0 (-1)) 1 (-1)))), (m12, .inl (y12, 4, .inl (fun _ => 0)))]) [0, 1, 2, 3, 4, 5, 6, 7, 8, 9] rfl
      have hDc := hD.sub (ws' := [(mo, .inr (6, [.int 0, .int 0, .int 0, .int 0, .ref m4, .ref m5, .ref m6, .ref m7, .ref m8, .ref m9, .ref m10, .ref m11, .ref m12, .int 1, .int 0, .int 0, .ref m16, .ref m17, .ref m18, .int 0, .int 0, .int 0, .int 0, .int 0, .int 0, .int 0, .int 0, .ref m27, .int 0, .ref m29, .ref m30, .ref m31])), (m4, .inl (y4, 700, .inl (fun _ => 0))), (m5, .inl (y5, 700, .inl (fun _ => 0))), (m6, .inl (y6, 700, .inl (fun _ => 0))), (m7, .inl (y7, 96, .inl (fun _ => 0))), (m8, .inl (y8, 2, .inl (upd (upd (fun _ => 0) 0 2) 1 2))), (m9, .inl (y9, 2, .inl (fun _ => 0))), (m10, .inl (y10, 2, .inl (fun _ => 0))), (m11, .inl (y11, 2, .inl (upd (upd (fun _ => 0) 0 (-1)) 1 (-1)))), (m12, .inl (y12, 4, .inl (fun _ => 0)))]) [0, 1, 2, 3, 4, 5, 6, 7, 8, 9] (by decide) rfl
      have hKc := hK.sub (tys' := [(y4, .int), (y5, .int), (y6, .int), (y7, .int), (y8, .int), (y9, .int), (y10, .boolean), (y11, .int), (y12, .boolean)]) [3, 4, 5, 6, 7, 8, 9, 10, 11] rfl
      have hFc := va_free (wc := [(mo, .inr (6, [.int 0, .int 0, .int 0, .int 0, .ref m4, .ref m5, .ref m6, .ref m7, .ref m8, .ref m9, .ref m10, .ref m11, .ref m12, .int 1, .int 0, .int 0, .ref m16, .ref m17, .ref m18, .int 0, .int 0, .int 0, .int 0, .int 0, .int 0, .int 0, .int 0, .ref m27, .int 0, .ref m29, .ref m30, .ref m31])), (m4, .inl (y4, 700, .inl (fun _ => 0))), (m5, .inl (y5, 700, .inl (fun _ => 0))), (m6, .inl (y6, 700, .inl (fun _ => 0))), (m7, .inl (y7, 96, .inl (fun _ => 0))), (m8, .inl (y8, 2, .inl (upd (upd (fun _ => 0) 0 2) 1 2))), (m9, .inl (y9, 2, .inl (fun _ => 0))), (m10, .inl (y10, 2, .inl (fun _ => 0))), (m11, .inl (y11, 2, .inl (upd (upd (fun _ => 0) 0 (-1)) 1 (-1)))), (m12, .inl (y12, 4, .inl (fun _ => 0)))]) hD hS hA [0, 1, 2, 3, 4, 5, 6, 7, 8, 9] rfl
      refine va_callv (va_runV (As := [.int v1, .int 1]) (rest := []) ⟨hx, hb, hml, hown, hts⟩ (m_jam l dC dI _ mo m4 m5 m6 m7 m8 m9 m10 m11 m12 m16 m17 m18 m27 m29 m30 m31 y4 y5 y6 y7 y8 y9 y10 y11 y12 v1 1 ⟨hok.1, pt_34.mp hok.2⟩ (pt_vin hok.1 hok.2 rfl)) (cwV 2 hts gk_X8_jam rfl rfl rfl (by decide +kernel) ⟨Nat.le_of_ble_eq_true rfl, Nat.le_of_ble_eq_true rfl⟩) ⟨pt_blindQ, va_recv hK hP (ci := 6) (q0 := 0) rfl rfl, pt_preQ hPc hKc hDc hN⟩ rfl rfl hl.1 rfl (lv_room (Nat.le_of_ble_eq_true rfl)) dL_law_451 ⟨Nat.le_of_ble_eq_true rfl, Nat.le_of_ble_eq_true rfl⟩) hS (fun q _ h => hFc q h) hFc (fun u_8 t H1 locs ht hvm hw_8 hB hz1 hk1 hS => ?_)
      obtain ⟨hP1, hK1, hD1⟩ := hB
      rw [ht] at hP1
      have hK1 := va_K.moved hvm.symm hK1
      obtain ⟨hP, hD⟩ := va_join (wr := [(ot, .inl (cL, 1, .inr (.inl (fun _ => 0))))]) (w1 := [(mo, .inr (6, .int u_8.1 :: u_8.2))]) hP hD [0, 1, 2, 3, 4, 5, 6, 7, 8, 9] [10] rfl rfl (by decide) (by decide) hk1 hFc hP1 hD1
      have hK := hK.app hK1
      generalize H1 = H at hP hS ⊢
      have hP : va_P (dC, dI) vwCl [(ot, .inl (cL, 1, .inr (.inl (fun _ => 0)))), (mo, .inr (6, .int u_8.1 :: u_8.2))] H := hP
      have hD : va_D (fun q : Nat => s.heap.size ≤ q) [(ot, .inl (cL, 1, .inr (.inl (fun _ => 0)))), (mo, .inr (6, .int u_8.1 :: u_8.2))] := hD
      have hK : va_K (dC, dI) vwCl [(cI, .int), (cZ, .boolean), (cB, .object "ParkTower$Bay"), (y4, .int), (y5, .int), (y6, .int), (y7, .int), (y8, .int), (y9, .int), (y10, .boolean), (y11, .int), (y12, .boolean), (cL, .long)] s := hK
      refine W.widen (k := 37) (n := 2564) (by omega) (by omega) ?_
      refine lv_aload_n hx hb dL_law_454 rfl (lv_at hl 3 rfl) ?_
      refine pt_cSi (va_runV (As := []) (rest := []) ⟨hx, hb, hml, hown, hts⟩ (c_thrown l dC dI mo u_8.1 u_8.2) (cwV 0 hts gk_X8_thrown rfl rfl rfl (by decide +kernel) ⟨Nat.le_of_ble_eq_true rfl, Nat.le_of_ble_eq_true rfl⟩) ⟨pt_blind, va_recv hK hP (ci := 6) (q0 := 1) rfl rfl, pt_pre (w := [(mo, .inr (6, .int u_8.1 :: u_8.2))]) (tys := []) (hP.sub [1] rfl) (hK.sub [] rfl) hN⟩ rfl rfl hl.1 rfl (lv_room (Nat.le_of_ble_eq_true rfl)) dL_law_455 ⟨Nat.le_of_ble_eq_true rfl, Nat.le_of_ble_eq_true rfl⟩) (fun r_9 hr_9 => ?_)
      obtain rfl : r_9 = 0 := hr_9.trans hw_8
      refine lv_iload hx hb dL_law_458 (lv_at hl 0 rfl) ?_
      refine lv_icmp_eq (tgt := 465) hx hb dL_law_460 (by decide) (fun _ => ?_) (fun c => absurd (by decide) c)
      refine lv_goto (tgt := 824) hx hb dL_law_465 (by decide) ?_
      exact law_end l C0 (Nat.le_of_ble_eq_true rfl) (Nat.le_of_ble_eq_true rfl) hS ls (lv_sub hl [1, 5] rfl)
    · skip
      refine lv_aload_n hx hb dL_law_404 rfl (lv_at hl 3 rfl) ?_
      refine lv_aload_n hx hb dL_law_405 rfl (lv_at hl 4 rfl) ?_
      refine lv_iload hx hb dL_law_406 (lv_at hl 0 rfl) ?_
      refine lv_iconst (v := 1) hx hb dL_law_408 (by decide) ?_
      refine lv_iadd hx hb dL_law_409 ?_
      refine pt_topi 1 (by decide) ?_
      refine va_sld hx hb hX hbl hbA hS (vp_in_iff.mpr (by decide)) dL_law_410 ?_
      refine pt_topi v1 e1 ?_
      refine lv_aload_n hx hb dL_law_411 rfl (lv_at hl 4 rfl) ?_
      refine lv_iload hx hb dL_law_412 (lv_at hl 0 rfl) ?_
      refine lv_iconst (v := 2) hx hb dL_law_414 (by decide) ?_
      refine lv_iadd hx hb dL_law_415 ?_
      refine pt_topi 2 (by decide) ?_
      refine va_sld hx hb hX hbl hbA hS (vp_in_iff.mpr (by decide)) dL_law_416 ?_
      refine pt_topi v2 e2 ?_
      refine lv_if_eq (tgt := 424) hx hb dL_law_417 (by decide) (fun c => absurd c (by assumption)) (fun _ => ?_)
      refine lv_iconst (v := 1) hx hb dL_law_420 (by decide) ?_
      refine lv_goto (tgt := 425) hx hb dL_law_421 (by decide) ?_
      have hPc := hP.sub (ws' := [(x, .inr (5, [.ref rk, .ref bs, .ref od, .ref jb, .ref ap, .int 0, .int 1, .int 0, .int 0, .int 0])), (rk, .inr (4, [.ref hd, .ref jm])), (hd, .inl (cI, 96, .inl (fun _ => 0))), (jm, .inl (cZ, 4, .inl (fun _ => 0))), (bs, .inl (cB, 2, .inr (.inr (.inr (.inr (va_up (va_up (fun _ => none) 0 (some b0)) 1 (some b1))))))), (b0, .inr (0, [.int 2, .int 0, .int 0, .int 0, .int 0, .int (-1)])), (b1, .inr (0, [.int 2, .int 0, .int 0, .int 0, .int 0, .int (-1)])), (od, .inr (2, [.ref o1, .ref o2, .ref o3, .int 0])), (jb, .inr (1, [.ref pl, .int (-1), .int 0, .int 0, .int 0]))]) [0, 1, 2, 3, 4, 5, 6, 7, 8] rfl
      have hDc := hD.sub (ws' := [(x, .inr (5, [.ref rk, .ref bs, .ref od, .ref jb, .ref ap, .int 0, .int 1, .int 0, .int 0, .int 0])), (rk, .inr (4, [.ref hd, .ref jm])), (hd, .inl (cI, 96, .inl (fun _ => 0))), (jm, .inl (cZ, 4, .inl (fun _ => 0))), (bs, .inl (cB, 2, .inr (.inr (.inr (.inr (va_up (va_up (fun _ => none) 0 (some b0)) 1 (some b1))))))), (b0, .inr (0, [.int 2, .int 0, .int 0, .int 0, .int 0, .int (-1)])), (b1, .inr (0, [.int 2, .int 0, .int 0, .int 0, .int 0, .int (-1)])), (od, .inr (2, [.ref o1, .ref o2, .ref o3, .int 0])), (jb, .inr (1, [.ref pl, .int (-1), .int 0, .int 0, .int 0]))]) [0, 1, 2, 3, 4, 5, 6, 7, 8] (by decide) rfl
      have hKc := hK.sub (tys' := [(cI, .int), (cZ, .boolean), (cB, .object "ParkTower$Bay")]) [0, 1, 2] rfl
      have hFc := va_free (wc := [(x, .inr (5, [.ref rk, .ref bs, .ref od, .ref jb, .ref ap, .int 0, .int 1, .int 0, .int 0, .int 0])), (rk, .inr (4, [.ref hd, .ref jm])), (hd, .inl (cI, 96, .inl (fun _ => 0))), (jm, .inl (cZ, 4, .inl (fun _ => 0))), (bs, .inl (cB, 2, .inr (.inr (.inr (.inr (va_up (va_up (fun _ => none) 0 (some b0)) 1 (some b1))))))), (b0, .inr (0, [.int 2, .int 0, .int 0, .int 0, .int 0, .int (-1)])), (b1, .inr (0, [.int 2, .int 0, .int 0, .int 0, .int 0, .int (-1)])), (od, .inr (2, [.ref o1, .ref o2, .ref o3, .int 0])), (jb, .inr (1, [.ref pl, .int (-1), .int 0, .int 0, .int 0]))]) hD hS hA [0, 1, 2, 3, 4, 5, 6, 7, 8] rfl
      refine va_calli (vx_runSW (As := [.ref x, .int v1, .int 1]) (rest := []) ⟨hx, hb, hml, hown, hts⟩ (w_jam l hlt dC dI _ x rk hd jm bs b0 b1 od o1 o2 o3 jb pl ap cI cZ cB v1 1) (vx_cwSW 3 hts gk_L_jam rfl rfl rfl (by decide +kernel) ⟨Nat.le_of_ble_eq_true rfl, Nat.le_of_ble_eq_true rfl⟩) ⟨pt_blindT, pt_preT hPc hKc hDc hN hE (pt_Z.up hZ (fun q h1 h2 => hS.2.1 q h1 h2) hS.1)⟩ rfl rfl hl.1 rfl (lv_room (Nat.le_of_ble_eq_true rfl)) dL_law_425 ⟨Nat.le_of_ble_eq_true rfl, Nat.le_of_ble_eq_true rfl⟩) hS (fun q _ h => hFc q h) hFc (fun r_10 u_10 t H1 locs ht hvm hw_10 hB hz1 hk1 hS => ?_)
      obtain ⟨hP1, hK1, hD1⟩ := hB
      rw [ht] at hP1
      have hK1 := va_K.moved hvm.symm hK1
      obtain ⟨hP, hD⟩ := va_join (wr := [(mo, .inr (6, [.int 0, .int 0, .int 0, .int 0, .ref m4, .ref m5, .ref m6, .ref m7, .ref m8, .ref m9, .ref m10, .ref m11, .ref m12, .int 1, .int 0, .int 0, .ref m16, .ref m17, .ref m18, .int 0, .int 0, .int 0, .int 0, .int 0, .int 0, .int 0, .int 0, .ref m27, .int 0, .ref m29, .ref m30, .ref m31])), (m4, .inl (y4, 700, .inl (fun _ => 0))), (m5, .inl (y5, 700, .inl (fun _ => 0))), (m6, .inl (y6, 700, .inl (fun _ => 0))), (m7, .inl (y7, 96, .inl (fun _ => 0))), (m8, .inl (y8, 2, .inl (upd (upd (fun _ => 0) 0 2) 1 2))), (m9, .inl (y9, 2, .inl (fun _ => 0))), (m10, .inl (y10, 2, .inl (fun _ => 0))), (m11, .inl (y11, 2, .inl (upd (upd (fun _ => 0) 0 (-1)) 1 (-1)))), (m12, .inl (y12, 4, .inl (fun _ => 0))), (ot, .inl (cL, 1, .inr (.inl (fun _ => 0))))]) (w1 := []) hP hD [0, 1, 2, 3, 4, 5, 6, 7, 8] [9, 10, 11, 12, 13, 14, 15, 16, 17, 18, 19] rfl rfl (by decide) (by decide) hk1 hFc hP1 hD1
      have hK := hK.app hK1
      generalize H1 = H at hP hS ⊢
      have hP : va_P (dC, dI) vwCl [(mo, .inr (6, [.int 0, .int 0, .int 0, .int 0, .ref m4, .ref m5, .ref m6, .ref m7, .ref m8, .ref m9, .ref m10, .ref m11, .ref m12, .int 1, .int 0, .int 0, .ref m16, .ref m17, .ref m18, .int 0, .int 0, .int 0, .int 0, .int 0, .int 0, .int 0, .int 0, .ref m27, .int 0, .ref m29, .ref m30, .ref m31])), (m4, .inl (y4, 700, .inl (fun _ => 0))), (m5, .inl (y5, 700, .inl (fun _ => 0))), (m6, .inl (y6, 700, .inl (fun _ => 0))), (m7, .inl (y7, 96, .inl (fun _ => 0))), (m8, .inl (y8, 2, .inl (upd (upd (fun _ => 0) 0 2) 1 2))), (m9, .inl (y9, 2, .inl (fun _ => 0))), (m10, .inl (y10, 2, .inl (fun _ => 0))), (m11, .inl (y11, 2, .inl (upd (upd (fun _ => 0) 0 (-1)) 1 (-1)))), (m12, .inl (y12, 4, .inl (fun _ => 0))), (ot, .inl (cL, 1, .inr (.inl (fun _ => 0))))] H := hP
      have hD : va_D (fun q : Nat => s.heap.size ≤ q) [(mo, .inr (6, [.int 0, .int 0, .int 0, .int 0, .ref m4, .ref m5, .ref m6, .ref m7, .ref m8, .ref m9, .ref m10, .ref m11, .ref m12, .int 1, .int 0, .int 0, .ref m16, .ref m17, .ref m18, .int 0, .int 0, .int 0, .int 0, .int 0, .int 0, .int 0, .int 0, .ref m27, .int 0, .ref m29, .ref m30, .ref m31])), (m4, .inl (y4, 700, .inl (fun _ => 0))), (m5, .inl (y5, 700, .inl (fun _ => 0))), (m6, .inl (y6, 700, .inl (fun _ => 0))), (m7, .inl (y7, 96, .inl (fun _ => 0))), (m8, .inl (y8, 2, .inl (upd (upd (fun _ => 0) 0 2) 1 2))), (m9, .inl (y9, 2, .inl (fun _ => 0))), (m10, .inl (y10, 2, .inl (fun _ => 0))), (m11, .inl (y11, 2, .inl (upd (upd (fun _ => 0) 0 (-1)) 1 (-1)))), (m12, .inl (y12, 4, .inl (fun _ => 0))), (ot, .inl (cL, 1, .inr (.inl (fun _ => 0))))] := hD
      have hK : va_K (dC, dI) vwCl [(cI, .int), (cZ, .boolean), (cB, .object "ParkTower$Bay"), (y4, .int), (y5, .int), (y6, .int), (y7, .int), (y8, .int), (y9, .int), (y10, .boolean), (y11, .int), (y12, .boolean), (cL, .long)] s := hK
      refine W.widen (k := 37) (n := 2564) (by omega) (by omega) ?_
      obtain rfl : r_10 = 1 := hw_10.trans (if_neg hok)
      refine lv_istore (lv' := [(5, .int 1), (4, .int 0), (3, .ref ot), (2, .ref mo), (1, .ref x), (0, .ref b)]) hx hb dL_law_428 hl (by decide) rfl (fun ls hl => ?_)
      refine lv_aload_n hx hb dL_law_430 rfl (lv_at hl 3 rfl) ?_
      refine lv_aload_n hx hb dL_law_431 rfl (lv_at hl 5 rfl) ?_
      refine lv_iload hx hb dL_law_432 (lv_at hl 1 rfl) ?_
      refine lv_iconst (v := 1) hx hb dL_law_434 (by decide) ?_
      refine lv_iadd hx hb dL_law_435 ?_
      refine pt_topi 1 (by decide) ?_
      refine va_sld hx hb hX hbl hbA hS (vp_in_iff.mpr (by decide)) dL_law_436 ?_
      refine pt_topi v1 e1 ?_
      refine lv_aload_n hx hb dL_law_437 rfl (lv_at hl 5 rfl) ?_
      refine lv_iload hx hb dL_law_438 (lv_at hl 1 rfl) ?_
      refine lv_iconst (v := 2) hx hb dL_law_440 (by decide) ?_
      refine lv_iadd hx hb dL_law_441 ?_
      refine pt_topi 2 (by decide) ?_
      refine va_sld hx hb hX hbl hbA hS (vp_in_iff.mpr (by decide)) dL_law_442 ?_
      refine pt_topi v2 e2 ?_
      refine lv_if_eq (tgt := 450) hx hb dL_law_443 (by decide) (fun c => absurd c (by assumption)) (fun _ => ?_)
      refine lv_iconst (v := 1) hx hb dL_law_446 (by decide) ?_
      refine lv_goto (tgt := 451) hx hb dL_law_447 (by decide) ?_
      have hPc := hP.sub (ws' := [(mo, .inr (6, [.int 0, .int 0, .int 0, .int 0, .ref m4, .ref m5, .ref m6, .ref m7, .ref m8, .ref m9, .ref m10, .ref m11, .ref m12, .int 1, .int 0, .int 0, .ref m16, .ref m17, .ref m18, .int 0, .int 0, .int 0, .int 0, .int 0, .int 0, .int 0, .int 0, .ref m27, .int 0, .ref m29, .ref m30, .ref m31])), (m4, .inl (y4, 700, .inl (fun _ => 0))), (m5, .inl (y5, 700, .inl (fun _ => 0))), (m6, .inl (y6, 700, .inl (fun _ => 0))), (m7, .inl (y7, 96, .inl (fun _ => 0))), (m8, .inl (y8, 2, .inl (upd (upd (fun _ => 0) 0 2) 1 2))), (m9, .inl (y9, 2, .inl (fun _ => 0))), (m10, .inl (y10, 2, .inl (fun _ => 0))), (m11, .inl (y11, 2, .inl (upd (upd (fun _ => 0) 0 (-1)) 1 (-1)))), (m12, .inl (y12, 4, .inl (fun _ => 0)))]) [0, 1, 2, 3, 4, 5, 6, 7, 8, 9] rfl
      have hDc := hD.sub (ws' := [(mo, .inr (6, [.int 0, .int 0, .int 0, .int 0, .ref m4, .ref m5, .ref m6, .ref m7, .ref m8, .ref m9, .ref m10, .ref m11, .ref m12, .int 1, .int 0, .int 0, .ref m16, .ref m17, .ref m18, .int 0, .int 0, .int 0, .int 0, .int 0, .int 0, .int 0, .int 0, .ref m27, .int 0, .ref m29, .ref m30, .ref m31])), (m4, .inl (y4, 700, .inl (fun _ => 0))), (m5, .inl (y5, 700, .inl (fun _ => 0))), (m6, .inl (y6, 700, .inl (fun _ => 0))), (m7, .inl (y7, 96, .inl (fun _ => 0))), (m8, .inl (y8, 2, .inl (upd (upd (fun _ => 0) 0 2) 1 2))), (m9, .inl (y9, 2, .inl (fun _ => 0))), (m10, .inl (y10, 2, .inl (fun _ => 0))), (m11, .inl (y11, 2, .inl (upd (upd (fun _ => 0) 0 (-1)) 1 (-1)))), (m12, .inl (y12, 4, .inl (fun _ => 0)))]) [0, 1, 2, 3, 4, 5, 6, 7, 8, 9] (by decide) rfl
      have hKc := hK.sub (tys' := [(y4, .int), (y5, .int), (y6, .int), (y7, .int), (y8, .int), (y9, .int), (y10, .boolean), (y11, .int), (y12, .boolean)]) [3, 4, 5, 6, 7, 8, 9, 10, 11] rfl
      have hFc := va_free (wc := [(mo, .inr (6, [.int 0, .int 0, .int 0, .int 0, .ref m4, .ref m5, .ref m6, .ref m7, .ref m8, .ref m9, .ref m10, .ref m11, .ref m12, .int 1, .int 0, .int 0, .ref m16, .ref m17, .ref m18, .int 0, .int 0, .int 0, .int 0, .int 0, .int 0, .int 0, .int 0, .ref m27, .int 0, .ref m29, .ref m30, .ref m31])), (m4, .inl (y4, 700, .inl (fun _ => 0))), (m5, .inl (y5, 700, .inl (fun _ => 0))), (m6, .inl (y6, 700, .inl (fun _ => 0))), (m7, .inl (y7, 96, .inl (fun _ => 0))), (m8, .inl (y8, 2, .inl (upd (upd (fun _ => 0) 0 2) 1 2))), (m9, .inl (y9, 2, .inl (fun _ => 0))), (m10, .inl (y10, 2, .inl (fun _ => 0))), (m11, .inl (y11, 2, .inl (upd (upd (fun _ => 0) 0 (-1)) 1 (-1)))), (m12, .inl (y12, 4, .inl (fun _ => 0)))]) hD hS hA [0, 1, 2, 3, 4, 5, 6, 7, 8, 9] rfl
      refine va_callv (va_runV (As := [.int v1, .int 1]) (rest := []) ⟨hx, hb, hml, hown, hts⟩ (m_jamX l dC dI _ mo m4 m5 m6 m7 m8 m9 m10 m11 m12 m16 m17 m18 m27 m29 m30 m31 y4 y5 y6 y7 y8 y9 y10 y11 y12 v1 1 (fun q => hok ⟨q.1, pt_34.mpr q.2⟩)) (cwV 2 hts gk_X8_jam rfl rfl rfl (by decide +kernel) ⟨Nat.le_of_ble_eq_true rfl, Nat.le_of_ble_eq_true rfl⟩) ⟨pt_blindQ, va_recv hK hP (ci := 6) (q0 := 0) rfl rfl, pt_preQ hPc hKc hDc hN⟩ rfl rfl hl.1 rfl (lv_room (Nat.le_of_ble_eq_true rfl)) dL_law_451 ⟨Nat.le_of_ble_eq_true rfl, Nat.le_of_ble_eq_true rfl⟩) hS (fun q _ h => hFc q h) hFc (fun u_11 t H1 locs ht hvm hw_11 hB hz1 hk1 hS => ?_)
      obtain ⟨hP1, hK1, hD1⟩ := hB
      rw [ht] at hP1
      have hK1 := va_K.moved hvm.symm hK1
      obtain ⟨hP, hD⟩ := va_join (wr := [(ot, .inl (cL, 1, .inr (.inl (fun _ => 0))))]) (w1 := [(mo, .inr (6, .int u_11.1 :: u_11.2))]) hP hD [0, 1, 2, 3, 4, 5, 6, 7, 8, 9] [10] rfl rfl (by decide) (by decide) hk1 hFc hP1 hD1
      have hK := hK.app hK1
      generalize H1 = H at hP hS ⊢
      have hP : va_P (dC, dI) vwCl [(ot, .inl (cL, 1, .inr (.inl (fun _ => 0)))), (mo, .inr (6, .int u_11.1 :: u_11.2))] H := hP
      have hD : va_D (fun q : Nat => s.heap.size ≤ q) [(ot, .inl (cL, 1, .inr (.inl (fun _ => 0)))), (mo, .inr (6, .int u_11.1 :: u_11.2))] := hD
      have hK : va_K (dC, dI) vwCl [(cI, .int), (cZ, .boolean), (cB, .object "ParkTower$Bay"), (y4, .int), (y5, .int), (y6, .int), (y7, .int), (y8, .int), (y9, .int), (y10, .boolean), (y11, .int), (y12, .boolean), (cL, .long)] s := hK
      refine W.widen (k := 37) (n := 2564) (by omega) (by omega) ?_
      refine lv_aload_n hx hb dL_law_454 rfl (lv_at hl 3 rfl) ?_
      refine pt_cSi (va_runV (As := []) (rest := []) ⟨hx, hb, hml, hown, hts⟩ (c_thrown l dC dI mo u_11.1 u_11.2) (cwV 0 hts gk_X8_thrown rfl rfl rfl (by decide +kernel) ⟨Nat.le_of_ble_eq_true rfl, Nat.le_of_ble_eq_true rfl⟩) ⟨pt_blind, va_recv hK hP (ci := 6) (q0 := 1) rfl rfl, pt_pre (w := [(mo, .inr (6, .int u_11.1 :: u_11.2))]) (tys := []) (hP.sub [1] rfl) (hK.sub [] rfl) hN⟩ rfl rfl hl.1 rfl (lv_room (Nat.le_of_ble_eq_true rfl)) dL_law_455 ⟨Nat.le_of_ble_eq_true rfl, Nat.le_of_ble_eq_true rfl⟩) (fun r_12 hr_12 => ?_)
      obtain rfl : r_12 = 1 := hr_12.trans hw_11
      refine lv_iload hx hb dL_law_458 (lv_at hl 0 rfl) ?_
      refine lv_icmp_eq (tgt := 465) hx hb dL_law_460 (by decide) (fun _ => ?_) (fun c => absurd (by decide) c)
      refine lv_goto (tgt := 824) hx hb dL_law_465 (by decide) ?_
      exact law_end l C0 (Nat.le_of_ble_eq_true rfl) (Nat.le_of_ble_eq_true rfl) hS ls (lv_sub hl [1, 5] rfl)
set_option maxHeartbeats 4000000 in
set_option maxRecDepth 100000 in
theorem law_power {p : Program} {e : Env} {s : State} {m : MethodId} {below : List Frame} {meth : Method} {c : Code} (l : Launch) (hlt : l.stackTraces = false) {b : Nat} {xs : Nat → Int32} (C0 : lw_At p s m meth c b 5 xs) (dC : Nat → ClassId) (dI : Nat → Nat → Nat) (x rk hd jm bs b0 b1 od o1 o2 o3 jb pl ap : Nat) (cI cZ cB : ClassId) (mo m4 m5 m6 m7 m8 m9 m10 m11 m12 m16 m17 m18 m27 m29 m30 m31 : Nat) (y4 y5 y6 y7 y8 y9 y10 y11 y12 : ClassId) (ot : Nat) (cL : ClassId) (H : Heap) (locs : List Loc) (hN : pt_N s) (hE : pt_E s) (hZ : pt_Z s.heap.size s s.heap) (hK : va_K (dC, dI) vwCl [(cI, .int), (cZ, .boolean), (cB, .object "ParkTower$Bay"), (y4, .int), (y5, .int), (y6, .int), (y7, .int), (y8, .int), (y9, .int), (y10, .boolean), (y11, .int), (y12, .boolean), (cL, .long)] s) (hP : va_P (dC, dI) vwCl [(x, .inr (5, [.ref rk, .ref bs, .ref od, .ref jb, .ref ap, .int 0, .int 1, .int 0, .int 0, .int 0])), (rk, .inr (4, [.ref hd, .ref jm])), (hd, .inl (cI, 96, .inl (fun _ => 0))), (jm, .inl (cZ, 4, .inl (fun _ => 0))), (bs, .inl (cB, 2, .inr (.inr (.inr (.inr (va_up (va_up (fun _ => none) 0 (some b0)) 1 (some b1))))))), (b0, .inr (0, [.int 2, .int 0, .int 0, .int 0, .int 0, .int (-1)])), (b1, .inr (0, [.int 2, .int 0, .int 0, .int 0, .int 0, .int (-1)])), (od, .inr (2, [.ref o1, .ref o2, .ref o3, .int 0])), (jb, .inr (1, [.ref pl, .int (-1), .int 0, .int 0, .int 0])), (mo, .inr (6, [.int 0, .int 0, .int 0, .int 0, .ref m4, .ref m5, .ref m6, .ref m7, .ref m8, .ref m9, .ref m10, .ref m11, .ref m12, .int 1, .int 0, .int 0, .ref m16, .ref m17, .ref m18, .int 0, .int 0, .int 0, .int 0, .int 0, .int 0, .int 0, .int 0, .ref m27, .int 0, .ref m29, .ref m30, .ref m31])), (m4, .inl (y4, 700, .inl (fun _ => 0))), (m5, .inl (y5, 700, .inl (fun _ => 0))), (m6, .inl (y6, 700, .inl (fun _ => 0))), (m7, .inl (y7, 96, .inl (fun _ => 0))), (m8, .inl (y8, 2, .inl (upd (upd (fun _ => 0) 0 2) 1 2))), (m9, .inl (y9, 2, .inl (fun _ => 0))), (m10, .inl (y10, 2, .inl (fun _ => 0))), (m11, .inl (y11, 2, .inl (upd (upd (fun _ => 0) 0 (-1)) 1 (-1)))), (m12, .inl (y12, 4, .inl (fun _ => 0))), (ot, .inl (cL, 1, .inr (.inl (fun _ => 0))))] H) (hD : va_D (fun q : Nat => s.heap.size ≤ q) [(x, .inr (5, [.ref rk, .ref bs, .ref od, .ref jb, .ref ap, .int 0, .int 1, .int 0, .int 0, .int 0])), (rk, .inr (4, [.ref hd, .ref jm])), (hd, .inl (cI, 96, .inl (fun _ => 0))), (jm, .inl (cZ, 4, .inl (fun _ => 0))), (bs, .inl (cB, 2, .inr (.inr (.inr (.inr (va_up (va_up (fun _ => none) 0 (some b0)) 1 (some b1))))))), (b0, .inr (0, [.int 2, .int 0, .int 0, .int 0, .int 0, .int (-1)])), (b1, .inr (0, [.int 2, .int 0, .int 0, .int 0, .int 0, .int (-1)])), (od, .inr (2, [.ref o1, .ref o2, .ref o3, .int 0])), (jb, .inr (1, [.ref pl, .int (-1), .int 0, .int 0, .int 0])), (mo, .inr (6, [.int 0, .int 0, .int 0, .int 0, .ref m4, .ref m5, .ref m6, .ref m7, .ref m8, .ref m9, .ref m10, .ref m11, .ref m12, .int 1, .int 0, .int 0, .ref m16, .ref m17, .ref m18, .int 0, .int 0, .int 0, .int 0, .int 0, .int 0, .int 0, .int 0, .ref m27, .int 0, .ref m29, .ref m30, .ref m31])), (m4, .inl (y4, 700, .inl (fun _ => 0))), (m5, .inl (y5, 700, .inl (fun _ => 0))), (m6, .inl (y6, 700, .inl (fun _ => 0))), (m7, .inl (y7, 96, .inl (fun _ => 0))), (m8, .inl (y8, 2, .inl (upd (upd (fun _ => 0) 0 2) 1 2))), (m9, .inl (y9, 2, .inl (fun _ => 0))), (m10, .inl (y10, 2, .inl (fun _ => 0))), (m11, .inl (y11, 2, .inl (upd (upd (fun _ => 0) 0 (-1)) 1 (-1)))), (m12, .inl (y12, 4, .inl (fun _ => 0))), (ot, .inl (cL, 1, .inr (.inl (fun _ => 0))))]) (hS : va_S (fun q : Nat => s.heap.size ≤ q) s.heap H locs) (ls : Array Slot) (hl : lv_has ls 7 [(4, .int 0), (3, .ref ot), (2, .ref mo), (1, .ref x), (0, .ref b)]) : W p l e room_1 s m #[Value.ref b] below meth c H locs 36 2558 (lw_Z below #[Value.ref b] s) (F0 m 468 ls []) := by
  obtain ⟨hx, hb, hr, hml, hown, hts, hX, hbl, hlocks, hgv⟩ := id C0
  have hbA : ¬ (fun q : Nat => s.heap.size ≤ q) b := Nat.not_le.mpr hbl
  have hA : ∀ q : Nat, s.heap.size ≤ q → (fun q : Nat => s.heap.size ≤ q) q := fun _ h => h
  obtain ⟨v1, e1⟩ : ∃ z, xs 1 = z := ⟨_, rfl⟩
  by_cases hz : v1 = 0
  · skip
    refine lv_aload_n hx hb dL_law_468 rfl (lv_at hl 3 rfl) ?_
    refine lv_aload_n hx hb dL_law_469 rfl (lv_at hl 4 rfl) ?_
    refine lv_iload hx hb dL_law_470 (lv_at hl 0 rfl) ?_
    refine lv_iconst (v := 1) hx hb dL_law_472 (by decide) ?_
    refine lv_iadd hx hb dL_law_473 ?_
    refine pt_topi 1 (by decide) ?_
    refine va_sld hx hb hX hbl hbA hS (vp_in_iff.mpr (by decide)) dL_law_474 ?_
    refine pt_topi v1 e1 ?_
    refine lv_if_eq (tgt := 482) hx hb dL_law_475 (by decide) (fun _ => ?_) (fun c => absurd (by assumption) c)
    refine lv_iconst (v := 0) hx hb dL_law_482 (by decide) ?_
    have hPc := hP.sub (ws' := [(x, .inr (5, [.ref rk, .ref bs, .ref od, .ref jb, .ref ap, .int 0, .int 1, .int 0, .int 0, .int 0])), (rk, .inr (4, [.ref hd, .ref jm])), (hd, .inl (cI, 96, .inl (fun _ => 0))), (jm, .inl (cZ, 4, .inl (fun _ => 0))), (bs, .inl (cB, 2, .inr (.inr (.inr (.inr (va_up (va_up (fun _ => none) 0 (some b0)) 1 (some b1))))))), (b0, .inr (0, [.int 2, .int 0, .int 0, .int 0, .int 0, .int (-1)])), (b1, .inr (0, [.int 2, .int 0, .int 0, .int 0, .int 0, .int (-1)])), (od, .inr (2, [.ref o1, .ref o2, .ref o3, .int 0])), (jb, .inr (1, [.ref pl, .int (-1), .int 0, .int 0, .int 0]))]) [0, 1, 2, 3, 4, 5, 6, 7, 8] rfl
    have hDc := hD.sub (ws' := [(x, .inr (5, [.ref rk, .ref bs, .ref od, .ref jb, .ref ap, .int 0, .int 1, .int 0, .int 0, .int 0])), (rk, .inr (4, [.ref hd, .ref jm])), (hd, .inl (cI, 96, .inl (fun _ => 0))), (jm, .inl (cZ, 4, .inl (fun _ => 0))), (bs, .inl (cB, 2, .inr (.inr (.inr (.inr (va_up (va_up (fun _ => none) 0 (some b0)) 1 (some b1))))))), (b0, .inr (0, [.int 2, .int 0, .int 0, .int 0, .int 0, .int (-1)])), (b1, .inr (0, [.int 2, .int 0, .int 0, .int 0, .int 0, .int (-1)])), (od, .inr (2, [.ref o1, .ref o2, .ref o3, .int 0])), (jb, .inr (1, [.ref pl, .int (-1), .int 0, .int 0, .int 0]))]) [0, 1, 2, 3, 4, 5, 6, 7, 8] (by decide) rfl
    have hKc := hK.sub (tys' := [(cI, .int), (cZ, .boolean), (cB, .object "ParkTower$Bay")]) [0, 1, 2] rfl
    have hFc := va_free (wc := [(x, .inr (5, [.ref rk, .ref bs, .ref od, .ref jb, .ref ap, .int 0, .int 1, .int 0, .int 0, .int 0])), (rk, .inr (4, [.ref hd, .ref jm])), (hd, .inl (cI, 96, .inl (fun _ => 0))), (jm, .inl (cZ, 4, .inl (fun _ => 0))), (bs, .inl (cB, 2, .inr (.inr (.inr (.inr (va_up (va_up (fun _ => none) 0 (some b0)) 1 (some b1))))))), (b0, .inr (0, [.int 2, .int 0, .int 0, .int 0, .int 0, .int (-1)])), (b1, .inr (0, [.int 2, .int 0, .int 0, .int 0, .int 0, .int (-1)])), (od, .inr (2, [.ref o1, .ref o2, .ref o3, .int 0])), (jb, .inr (1, [.ref pl, .int (-1), .int 0, .int 0, .int 0]))]) hD hS hA [0, 1, 2, 3, 4, 5, 6, 7, 8] rfl
    refine va_calli (vx_runSW (As := [.ref x, .int 0]) (rest := []) ⟨hx, hb, hml, hown, hts⟩ (w_power l hlt dC dI _ x rk hd jm bs b0 b1 od o1 o2 o3 jb pl ap cI cZ cB 0 (by decide)) (vx_cwSW 2 hts gk_L_power rfl rfl rfl (by decide +kernel) ⟨Nat.le_of_ble_eq_true rfl, Nat.le_of_ble_eq_true rfl⟩) ⟨pt_blindT, pt_preT hPc hKc hDc hN hE (pt_Z.up hZ (fun q h1 h2 => hS.2.1 q h1 h2) hS.1)⟩ rfl rfl hl.1 rfl (lv_room (Nat.le_of_ble_eq_true rfl)) dL_law_483 ⟨Nat.le_of_ble_eq_true rfl, Nat.le_of_ble_eq_true rfl⟩) hS (fun q _ h => hFc q h) hFc (fun r_1 u_1 t H1 locs ht hvm hw_1 hB hz1 hk1 hS => ?_)
    obtain ⟨hP1, hK1, hD1⟩ := hB
    rw [ht] at hP1
    have hK1 := va_K.moved hvm.symm hK1
    obtain ⟨hP, hD⟩ := va_join (wr := [(mo, .inr (6, [.int 0, .int 0, .int 0, .int 0, .ref m4, .ref m5, .ref m6, .ref m7, .ref m8, .ref m9, .ref m10, .ref m11, .ref m12, .int 1, .int 0, .int 0, .ref m16, .ref m17, .ref m18, .int 0, .int 0, .int 0, .int 0, .int 0, .int 0, .int 0, .int 0, .ref m27, .int 0, .ref m29, .ref m30, .ref m31])), (m4, .inl (y4, 700, .inl (fun _ => 0))), (m5, .inl (y5, 700, .inl (fun _ => 0))), (m6, .inl (y6, 700, .inl (fun _ => 0))), (m7, .inl (y7, 96, .inl (fun _ => 0))), (m8, .inl (y8, 2, .inl (upd (upd (fun _ => 0) 0 2) 1 2))), (m9, .inl (y9, 2, .inl (fun _ => 0))), (m10, .inl (y10, 2, .inl (fun _ => 0))), (m11, .inl (y11, 2, .inl (upd (upd (fun _ => 0) 0 (-1)) 1 (-1)))), (m12, .inl (y12, 4, .inl (fun _ => 0))), (ot, .inl (cL, 1, .inr (.inl (fun _ => 0))))]) (w1 := []) hP hD [0, 1, 2, 3, 4, 5, 6, 7, 8] [9, 10, 11, 12, 13, 14, 15, 16, 17, 18, 19] rfl rfl (by decide) (by decide) hk1 hFc hP1 hD1
    have hK := hK.app hK1
    generalize H1 = H at hP hS ⊢
    have hP : va_P (dC, dI) vwCl [(mo, .inr (6, [.int 0, .int 0, .int 0, .int 0, .ref m4, .ref m5, .ref m6, .ref m7, .ref m8, .ref m9, .ref m10, .ref m11, .ref m12, .int 1, .int 0, .int 0, .ref m16, .ref m17, .ref m18, .int 0, .int 0, .int 0, .int 0, .int 0, .int 0, .int 0, .int 0, .ref m27, .int 0, .ref m29, .ref m30, .ref m31])), (m4, .inl (y4, 700, .inl (fun _ => 0))), (m5, .inl (y5, 700, .inl (fun _ => 0))), (m6, .inl (y6, 700, .inl (fun _ => 0))), (m7, .inl (y7, 96, .inl (fun _ => 0))), (m8, .inl (y8, 2, .inl (upd (upd (fun _ => 0) 0 2) 1 2))), (m9, .inl (y9, 2, .inl (fun _ => 0))), (m10, .inl (y10, 2, .inl (fun _ => 0))), (m11, .inl (y11, 2, .inl (upd (upd (fun _ => 0) 0 (-1)) 1 (-1)))), (m12, .inl (y12, 4, .inl (fun _ => 0))), (ot, .inl (cL, 1, .inr (.inl (fun _ => 0))))] H := hP
    have hD : va_D (fun q : Nat => s.heap.size ≤ q) [(mo, .inr (6, [.int 0, .int 0, .int 0, .int 0, .ref m4, .ref m5, .ref m6, .ref m7, .ref m8, .ref m9, .ref m10, .ref m11, .ref m12, .int 1, .int 0, .int 0, .ref m16, .ref m17, .ref m18, .int 0, .int 0, .int 0, .int 0, .int 0, .int 0, .int 0, .int 0, .ref m27, .int 0, .ref m29, .ref m30, .ref m31])), (m4, .inl (y4, 700, .inl (fun _ => 0))), (m5, .inl (y5, 700, .inl (fun _ => 0))), (m6, .inl (y6, 700, .inl (fun _ => 0))), (m7, .inl (y7, 96, .inl (fun _ => 0))), (m8, .inl (y8, 2, .inl (upd (upd (fun _ => 0) 0 2) 1 2))), (m9, .inl (y9, 2, .inl (fun _ => 0))), (m10, .inl (y10, 2, .inl (fun _ => 0))), (m11, .inl (y11, 2, .inl (upd (upd (fun _ => 0) 0 (-1)) 1 (-1)))), (m12, .inl (y12, 4, .inl (fun _ => 0))), (ot, .inl (cL, 1, .inr (.inl (fun _ => 0))))] := hD
    have hK : va_K (dC, dI) vwCl [(cI, .int), (cZ, .boolean), (cB, .object "ParkTower$Bay"), (y4, .int), (y5, .int), (y6, .int), (y7, .int), (y8, .int), (y9, .int), (y10, .boolean), (y11, .int), (y12, .boolean), (cL, .long)] s := hK
    refine W.widen (k := 37) (n := 2564) (by omega) (by omega) ?_
    obtain rfl : r_1 = 0 := hw_1.trans (by decide)
    refine lv_istore (lv' := [(5, .int 0), (4, .int 0), (3, .ref ot), (2, .ref mo), (1, .ref x), (0, .ref b)]) hx hb dL_law_486 hl (by decide) rfl (fun ls hl => ?_)
    refine lv_aload_n hx hb dL_law_488 rfl (lv_at hl 3 rfl) ?_
    refine lv_aload_n hx hb dL_law_489 rfl (lv_at hl 5 rfl) ?_
    refine lv_iload hx hb dL_law_490 (lv_at hl 1 rfl) ?_
    refine lv_iconst (v := 1) hx hb dL_law_492 (by decide) ?_
    refine lv_iadd hx hb dL_law_493 ?_
    refine pt_topi 1 (by decide) ?_
    refine va_sld hx hb hX hbl hbA hS (vp_in_iff.mpr (by decide)) dL_law_494 ?_
    refine pt_topi v1 e1 ?_
    refine lv_if_eq (tgt := 502) hx hb dL_law_495 (by decide) (fun _ => ?_) (fun c => absurd (by assumption) c)
    refine lv_iconst (v := 0) hx hb dL_law_502 (by decide) ?_
    have hPc := hP.sub (ws' := [(mo, .inr (6, [.int 0, .int 0, .int 0, .int 0, .ref m4, .ref m5, .ref m6, .ref m7, .ref m8, .ref m9, .ref m10, .ref m11, .ref m12, .int 1, .int 0, .int 0, .ref m16, .ref m17, .ref m18, .int 0, .int 0, .int 0, .int 0, .int 0, .int 0, .int 0, .int 0, .ref m27, .int 0, .ref m29, .ref m30, .ref m31])), (m4, .inl (y4, 700, .inl (fun _ => 0))), (m5, .inl (y5, 700, .inl (fun _ => 0))), (m6, .inl (y6, 700, .inl (fun _ => 0))), (m7, .inl (y7, 96, .inl (fun _ => 0))), (m8, .inl (y8, 2, .inl (upd (upd (fun _ => 0) 0 2) 1 2))), (m9, .inl (y9, 2, .inl (fun _ => 0))), (m10, .inl (y10, 2, .inl (fun _ => 0))), (m11, .inl (y11, 2, .inl (upd (upd (fun _ => 0) 0 (-1)) 1 (-1)))), (m12, .inl (y12, 4, .inl (fun _ => 0)))]) [0, 1, 2, 3, 4, 5, 6, 7, 8, 9] rfl
    have hDc := hD.sub (ws' := [(mo, .inr (6, [.int 0, .int 0, .int 0, .int 0, .ref m4, .ref m5, .ref m6, .ref m7, .ref m8, .ref m9, .ref m10, .ref m11, .ref m12, .int 1, .int 0, .int 0, .ref m16, .ref m17, .ref m18, .int 0, .int 0, .int 0, .int 0, .int 0, .int 0, .int 0, .int 0, .ref m27, .int 0, .ref m29, .ref m30, .ref m31])), (m4, .inl (y4, 700, .inl (fun _ => 0))), (m5, .inl (y5, 700, .inl (fun _ => 0))), (m6, .inl (y6, 700, .inl (fun _ => 0))), (m7, .inl (y7, 96, .inl (fun _ => 0))), (m8, .inl (y8, 2, .inl (upd (upd (fun _ => 0) 0 2) 1 2))), (m9, .inl (y9, 2, .inl (fun _ => 0))), (m10, .inl (y10, 2, .inl (fun _ => 0))), (m11, .inl (y11, 2, .inl (upd (upd (fun _ => 0) 0 (-1)) 1 (-1)))), (m12, .inl (y12, 4, .inl (fun _ => 0)))]) [0, 1, 2, 3, 4, 5, 6, 7, 8, 9] (by decide) rfl
    have hKc := hK.sub (tys' := [(y4, .int), (y5, .int), (y6, .int), (y7, .int), (y8, .int), (y9, .int), (y10, .boolean), (y11, .int), (y12, .boolean)]) [3, 4, 5, 6, 7, 8, 9, 10, 11] rfl
    have hFc := va_free (wc := [(mo, .inr (6, [.int 0, .int 0, .int 0, .int 0, .ref m4, .ref m5, .ref m6, .ref m7, .ref m8, .ref m9, .ref m10, .ref m11, .ref m12, .int 1, .int 0, .int 0, .ref m16, .ref m17, .ref m18, .int 0, .int 0, .int 0, .int 0, .int 0, .int 0, .int 0, .int 0, .ref m27, .int 0, .ref m29, .ref m30, .ref m31])), (m4, .inl (y4, 700, .inl (fun _ => 0))), (m5, .inl (y5, 700, .inl (fun _ => 0))), (m6, .inl (y6, 700, .inl (fun _ => 0))), (m7, .inl (y7, 96, .inl (fun _ => 0))), (m8, .inl (y8, 2, .inl (upd (upd (fun _ => 0) 0 2) 1 2))), (m9, .inl (y9, 2, .inl (fun _ => 0))), (m10, .inl (y10, 2, .inl (fun _ => 0))), (m11, .inl (y11, 2, .inl (upd (upd (fun _ => 0) 0 (-1)) 1 (-1)))), (m12, .inl (y12, 4, .inl (fun _ => 0)))]) hD hS hA [0, 1, 2, 3, 4, 5, 6, 7, 8, 9] rfl
    refine va_callv (va_runV (As := [.int 0]) (rest := []) ⟨hx, hb, hml, hown, hts⟩ (m_power0 l dC dI _ mo m4 m5 m6 m7 m8 m9 m10 m11 m12 m16 m17 m18 m27 m29 m30 m31 y4 y5 y6 y7 y8 y9 y10 y11 y12) (cwV 1 hts gk_X8_power rfl rfl rfl (by decide +kernel) ⟨Nat.le_of_ble_eq_true rfl, Nat.le_of_ble_eq_true rfl⟩) ⟨pt_blindQ, va_recv hK hP (ci := 6) (q0 := 0) rfl rfl, pt_preQ hPc hKc hDc hN⟩ rfl rfl hl.1 rfl (lv_room (Nat.le_of_ble_eq_true rfl)) dL_law_503 ⟨Nat.le_of_ble_eq_true rfl, Nat.le_of_ble_eq_true rfl⟩) hS (fun q _ h => hFc q h) hFc (fun u_2 t H1 locs ht hvm hw_2 hB hz1 hk1 hS => ?_)
    obtain ⟨hP1, hK1, hD1⟩ := hB
    rw [ht] at hP1
    have hK1 := va_K.moved hvm.symm hK1
    obtain ⟨hP, hD⟩ := va_join (wr := [(ot, .inl (cL, 1, .inr (.inl (fun _ => 0))))]) (w1 := [(mo, .inr (6, .int u_2.1 :: u_2.2))]) hP hD [0, 1, 2, 3, 4, 5, 6, 7, 8, 9] [10] rfl rfl (by decide) (by decide) hk1 hFc hP1 hD1
    have hK := hK.app hK1
    generalize H1 = H at hP hS ⊢
    have hP : va_P (dC, dI) vwCl [(ot, .inl (cL, 1, .inr (.inl (fun _ => 0)))), (mo, .inr (6, .int u_2.1 :: u_2.2))] H := hP
    have hD : va_D (fun q : Nat => s.heap.size ≤ q) [(ot, .inl (cL, 1, .inr (.inl (fun _ => 0)))), (mo, .inr (6, .int u_2.1 :: u_2.2))] := hD
    have hK : va_K (dC, dI) vwCl [(cI, .int), (cZ, .boolean), (cB, .object "ParkTower$Bay"), (y4, .int), (y5, .int), (y6, .int), (y7, .int), (y8, .int), (y9, .int), (y10, .boolean), (y11, .int), (y12, .boolean), (cL, .long)] s := hK
    refine W.widen (k := 37) (n := 2564) (by omega) (by omega) ?_
    refine lv_aload_n hx hb dL_law_506 rfl (lv_at hl 3 rfl) ?_
    refine pt_cSi (va_runV (As := []) (rest := []) ⟨hx, hb, hml, hown, hts⟩ (c_thrown l dC dI mo u_2.1 u_2.2) (cwV 0 hts gk_X8_thrown rfl rfl rfl (by decide +kernel) ⟨Nat.le_of_ble_eq_true rfl, Nat.le_of_ble_eq_true rfl⟩) ⟨pt_blind, va_recv hK hP (ci := 6) (q0 := 1) rfl rfl, pt_pre (w := [(mo, .inr (6, .int u_2.1 :: u_2.2))]) (tys := []) (hP.sub [1] rfl) (hK.sub [] rfl) hN⟩ rfl rfl hl.1 rfl (lv_room (Nat.le_of_ble_eq_true rfl)) dL_law_507 ⟨Nat.le_of_ble_eq_true rfl, Nat.le_of_ble_eq_true rfl⟩) (fun r_3 hr_3 => ?_)
    obtain rfl : r_3 = 0 := hr_3.trans hw_2
    refine lv_iload hx hb dL_law_510 (lv_at hl 0 rfl) ?_
    refine lv_icmp_eq (tgt := 517) hx hb dL_law_512 (by decide) (fun _ => ?_) (fun c => absurd (by decide) c)
    refine lv_goto (tgt := 824) hx hb dL_law_517 (by decide) ?_
    exact law_end l C0 (Nat.le_of_ble_eq_true rfl) (Nat.le_of_ble_eq_true rfl) hS ls (lv_sub hl [1, 5] rfl)
  · skip
    refine lv_aload_n hx hb dL_law_468 rfl (lv_at hl 3 rfl) ?_
    refine lv_aload_n hx hb dL_law_469 rfl (lv_at hl 4 rfl) ?_
    refine lv_iload hx hb dL_law_470 (lv_at hl 0 rfl) ?_
    refine lv_iconst (v := 1) hx hb dL_law_472 (by decide) ?_
    refine lv_iadd hx hb dL_law_473 ?_
    refine pt_topi 1 (by decide) ?_
    refine va_sld hx hb hX hbl hbA hS (vp_in_iff.mpr (by decide)) dL_law_474 ?_
    refine pt_topi v1 e1 ?_
    refine lv_if_eq (tgt := 482) hx hb dL_law_475 (by decide) (fun c => absurd c (by assumption)) (fun _ => ?_)
    refine lv_iconst (v := 1) hx hb dL_law_478 (by decide) ?_
    refine lv_goto (tgt := 483) hx hb dL_law_479 (by decide) ?_
    have hPc := hP.sub (ws' := [(x, .inr (5, [.ref rk, .ref bs, .ref od, .ref jb, .ref ap, .int 0, .int 1, .int 0, .int 0, .int 0])), (rk, .inr (4, [.ref hd, .ref jm])), (hd, .inl (cI, 96, .inl (fun _ => 0))), (jm, .inl (cZ, 4, .inl (fun _ => 0))), (bs, .inl (cB, 2, .inr (.inr (.inr (.inr (va_up (va_up (fun _ => none) 0 (some b0)) 1 (some b1))))))), (b0, .inr (0, [.int 2, .int 0, .int 0, .int 0, .int 0, .int (-1)])), (b1, .inr (0, [.int 2, .int 0, .int 0, .int 0, .int 0, .int (-1)])), (od, .inr (2, [.ref o1, .ref o2, .ref o3, .int 0])), (jb, .inr (1, [.ref pl, .int (-1), .int 0, .int 0, .int 0]))]) [0, 1, 2, 3, 4, 5, 6, 7, 8] rfl
    have hDc := hD.sub (ws' := [(x, .inr (5, [.ref rk, .ref bs, .ref od, .ref jb, .ref ap, .int 0, .int 1, .int 0, .int 0, .int 0])), (rk, .inr (4, [.ref hd, .ref jm])), (hd, .inl (cI, 96, .inl (fun _ => 0))), (jm, .inl (cZ, 4, .inl (fun _ => 0))), (bs, .inl (cB, 2, .inr (.inr (.inr (.inr (va_up (va_up (fun _ => none) 0 (some b0)) 1 (some b1))))))), (b0, .inr (0, [.int 2, .int 0, .int 0, .int 0, .int 0, .int (-1)])), (b1, .inr (0, [.int 2, .int 0, .int 0, .int 0, .int 0, .int (-1)])), (od, .inr (2, [.ref o1, .ref o2, .ref o3, .int 0])), (jb, .inr (1, [.ref pl, .int (-1), .int 0, .int 0, .int 0]))]) [0, 1, 2, 3, 4, 5, 6, 7, 8] (by decide) rfl
    have hKc := hK.sub (tys' := [(cI, .int), (cZ, .boolean), (cB, .object "ParkTower$Bay")]) [0, 1, 2] rfl
    have hFc := va_free (wc := [(x, .inr (5, [.ref rk, .ref bs, .ref od, .ref jb, .ref ap, .int 0, .int 1, .int 0, .int 0, .int 0])), (rk, .inr (4, [.ref hd, .ref jm])), (hd, .inl (cI, 96, .inl (fun _ => 0))), (jm, .inl (cZ, 4, .inl (fun _ => 0))), (bs, .inl (cB, 2, .inr (.inr (.inr (.inr (va_up (va_up (fun _ => none) 0 (some b0)) 1 (some b1))))))), (b0, .inr (0, [.int 2, .int 0, .int 0, .int 0, .int 0, .int (-1)])), (b1, .inr (0, [.int 2, .int 0, .int 0, .int 0, .int 0, .int (-1)])), (od, .inr (2, [.ref o1, .ref o2, .ref o3, .int 0])), (jb, .inr (1, [.ref pl, .int (-1), .int 0, .int 0, .int 0]))]) hD hS hA [0, 1, 2, 3, 4, 5, 6, 7, 8] rfl
    refine va_calli (vx_runSW (As := [.ref x, .int 1]) (rest := []) ⟨hx, hb, hml, hown, hts⟩ (w_power l hlt dC dI _ x rk hd jm bs b0 b1 od o1 o2 o3 jb pl ap cI cZ cB 1 (by decide)) (vx_cwSW 2 hts gk_L_power rfl rfl rfl (by decide +kernel) ⟨Nat.le_of_ble_eq_true rfl, Nat.le_of_ble_eq_true rfl⟩) ⟨pt_blindT, pt_preT hPc hKc hDc hN hE (pt_Z.up hZ (fun q h1 h2 => hS.2.1 q h1 h2) hS.1)⟩ rfl rfl hl.1 rfl (lv_room (Nat.le_of_ble_eq_true rfl)) dL_law_483 ⟨Nat.le_of_ble_eq_true rfl, Nat.le_of_ble_eq_true rfl⟩) hS (fun q _ h => hFc q h) hFc (fun r_4 u_4 t H1 locs ht hvm hw_4 hB hz1 hk1 hS => ?_)
    obtain ⟨hP1, hK1, hD1⟩ := hB
    rw [ht] at hP1
    have hK1 := va_K.moved hvm.symm hK1
    obtain ⟨hP, hD⟩ := va_join (wr := [(mo, .inr (6, [.int 0, .int 0, .int 0, .int 0, .ref m4, .ref m5, .ref m6, .ref m7, .ref m8, .ref m9, .ref m10, .ref m11, .ref m12, .int 1, .int 0, .int 0, .ref m16, .ref m17, .ref m18, .int 0, .int 0, .int 0, .int 0, .int 0, .int 0, .int 0, .int 0, .ref m27, .int 0, .ref m29, .ref m30, .ref m31])), (m4, .inl (y4, 700, .inl (fun _ => 0))), (m5, .inl (y5, 700, .inl (fun _ => 0))), (m6, .inl (y6, 700, .inl (fun _ => 0))), (m7, .inl (y7, 96, .inl (fun _ => 0))), (m8, .inl (y8, 2, .inl (upd (upd (fun _ => 0) 0 2) 1 2))), (m9, .inl (y9, 2, .inl (fun _ => 0))), (m10, .inl (y10, 2, .inl (fun _ => 0))), (m11, .inl (y11, 2, .inl (upd (upd (fun _ => 0) 0 (-1)) 1 (-1)))), (m12, .inl (y12, 4, .inl (fun _ => 0))), (ot, .inl (cL, 1, .inr (.inl (fun _ => 0))))]) (w1 := []) hP hD [0, 1, 2, 3, 4, 5, 6, 7, 8] [9, 10, 11, 12, 13, 14, 15, 16, 17, 18, 19] rfl rfl (by decide) (by decide) hk1 hFc hP1 hD1
    have hK := hK.app hK1
    generalize H1 = H at hP hS ⊢
    have hP : va_P (dC, dI) vwCl [(mo, .inr (6, [.int 0, .int 0, .int 0, .int 0, .ref m4, .ref m5, .ref m6, .ref m7, .ref m8, .ref m9, .ref m10, .ref m11, .ref m12, .int 1, .int 0, .int 0, .ref m16, .ref m17, .ref m18, .int 0, .int 0, .int 0, .int 0, .int 0, .int 0, .int 0, .int 0, .ref m27, .int 0, .ref m29, .ref m30, .ref m31])), (m4, .inl (y4, 700, .inl (fun _ => 0))), (m5, .inl (y5, 700, .inl (fun _ => 0))), (m6, .inl (y6, 700, .inl (fun _ => 0))), (m7, .inl (y7, 96, .inl (fun _ => 0))), (m8, .inl (y8, 2, .inl (upd (upd (fun _ => 0) 0 2) 1 2))), (m9, .inl (y9, 2, .inl (fun _ => 0))), (m10, .inl (y10, 2, .inl (fun _ => 0))), (m11, .inl (y11, 2, .inl (upd (upd (fun _ => 0) 0 (-1)) 1 (-1)))), (m12, .inl (y12, 4, .inl (fun _ => 0))), (ot, .inl (cL, 1, .inr (.inl (fun _ => 0))))] H := hP
    have hD : va_D (fun q : Nat => s.heap.size ≤ q) [(mo, .inr (6, [.int 0, .int 0, .int 0, .int 0, .ref m4, .ref m5, .ref m6, .ref m7, .ref m8, .ref m9, .ref m10, .ref m11, .ref m12, .int 1, .int 0, .int 0, .ref m16, .ref m17, .ref m18, .int 0, .int 0, .int 0, .int 0, .int 0, .int 0, .int 0, .int 0, .ref m27, .int 0, .ref m29, .ref m30, .ref m31])), (m4, .inl (y4, 700, .inl (fun _ => 0))), (m5, .inl (y5, 700, .inl (fun _ => 0))), (m6, .inl (y6, 700, .inl (fun _ => 0))), (m7, .inl (y7, 96, .inl (fun _ => 0))), (m8, .inl (y8, 2, .inl (upd (upd (fun _ => 0) 0 2) 1 2))), (m9, .inl (y9, 2, .inl (fun _ => 0))), (m10, .inl (y10, 2, .inl (fun _ => 0))), (m11, .inl (y11, 2, .inl (upd (upd (fun _ => 0) 0 (-1)) 1 (-1)))), (m12, .inl (y12, 4, .inl (fun _ => 0))), (ot, .inl (cL, 1, .inr (.inl (fun _ => 0))))] := hD
    have hK : va_K (dC, dI) vwCl [(cI, .int), (cZ, .boolean), (cB, .object "ParkTower$Bay"), (y4, .int), (y5, .int), (y6, .int), (y7, .int), (y8, .int), (y9, .int), (y10, .boolean), (y11, .int), (y12, .boolean), (cL, .long)] s := hK
    refine W.widen (k := 37) (n := 2564) (by omega) (by omega) ?_
    obtain rfl : r_4 = 1 := hw_4.trans (by decide)
    refine lv_istore (lv' := [(5, .int 1), (4, .int 0), (3, .ref ot), (2, .ref mo), (1, .ref x), (0, .ref b)]) hx hb dL_law_486 hl (by decide) rfl (fun ls hl => ?_)
    refine lv_aload_n hx hb dL_law_488 rfl (lv_at hl 3 rfl) ?_
    refine lv_aload_n hx hb dL_law_489 rfl (lv_at hl 5 rfl) ?_
    refine lv_iload hx hb dL_law_490 (lv_at hl 1 rfl) ?_
    refine lv_iconst (v := 1) hx hb dL_law_492 (by decide) ?_
    refine lv_iadd hx hb dL_law_493 ?_
    refine pt_topi 1 (by decide) ?_
    refine va_sld hx hb hX hbl hbA hS (vp_in_iff.mpr (by decide)) dL_law_494 ?_
    refine pt_topi v1 e1 ?_
    refine lv_if_eq (tgt := 502) hx hb dL_law_495 (by decide) (fun c => absurd c (by assumption)) (fun _ => ?_)
    refine lv_iconst (v := 1) hx hb dL_law_498 (by decide) ?_
    refine lv_goto (tgt := 503) hx hb dL_law_499 (by decide) ?_
    have hPc := hP.sub (ws' := [(mo, .inr (6, [.int 0, .int 0, .int 0, .int 0, .ref m4, .ref m5, .ref m6, .ref m7, .ref m8, .ref m9, .ref m10, .ref m11, .ref m12, .int 1, .int 0, .int 0, .ref m16, .ref m17, .ref m18, .int 0, .int 0, .int 0, .int 0, .int 0, .int 0, .int 0, .int 0, .ref m27, .int 0, .ref m29, .ref m30, .ref m31])), (m4, .inl (y4, 700, .inl (fun _ => 0))), (m5, .inl (y5, 700, .inl (fun _ => 0))), (m6, .inl (y6, 700, .inl (fun _ => 0))), (m7, .inl (y7, 96, .inl (fun _ => 0))), (m8, .inl (y8, 2, .inl (upd (upd (fun _ => 0) 0 2) 1 2))), (m9, .inl (y9, 2, .inl (fun _ => 0))), (m10, .inl (y10, 2, .inl (fun _ => 0))), (m11, .inl (y11, 2, .inl (upd (upd (fun _ => 0) 0 (-1)) 1 (-1)))), (m12, .inl (y12, 4, .inl (fun _ => 0)))]) [0, 1, 2, 3, 4, 5, 6, 7, 8, 9] rfl
    have hDc := hD.sub (ws' := [(mo, .inr (6, [.int 0, .int 0, .int 0, .int 0, .ref m4, .ref m5, .ref m6, .ref m7, .ref m8, .ref m9, .ref m10, .ref m11, .ref m12, .int 1, .int 0, .int 0, .ref m16, .ref m17, .ref m18, .int 0, .int 0, .int 0, .int 0, .int 0, .int 0, .int 0, .int 0, .ref m27, .int 0, .ref m29, .ref m30, .ref m31])), (m4, .inl (y4, 700, .inl (fun _ => 0))), (m5, .inl (y5, 700, .inl (fun _ => 0))), (m6, .inl (y6, 700, .inl (fun _ => 0))), (m7, .inl (y7, 96, .inl (fun _ => 0))), (m8, .inl (y8, 2, .inl (upd (upd (fun _ => 0) 0 2) 1 2))), (m9, .inl (y9, 2, .inl (fun _ => 0))), (m10, .inl (y10, 2, .inl (fun _ => 0))), (m11, .inl (y11, 2, .inl (upd (upd (fun _ => 0) 0 (-1)) 1 (-1)))), (m12, .inl (y12, 4, .inl (fun _ => 0)))]) [0, 1, 2, 3, 4, 5, 6, 7, 8, 9] (by decide) rfl
    have hKc := hK.sub (tys' := [(y4, .int), (y5, .int), (y6, .int), (y7, .int), (y8, .int), (y9, .int), (y10, .boolean), (y11, .int), (y12, .boolean)]) [3, 4, 5, 6, 7, 8, 9, 10, 11] rfl
    have hFc := va_free (wc := [(mo, .inr (6, [.int 0, .int 0, .int 0, .int 0, .ref m4, .ref m5, .ref m6, .ref m7, .ref m8, .ref m9, .ref m10, .ref m11, .ref m12, .int 1, .int 0, .int 0, .ref m16, .ref m17, .ref m18, .int 0, .int 0, .int 0, .int 0, .int 0, .int 0, .int 0, .int 0, .ref m27, .int 0, .ref m29, .ref m30, .ref m31])), (m4, .inl (y4, 700, .inl (fun _ => 0))), (m5, .inl (y5, 700, .inl (fun _ => 0))), (m6, .inl (y6, 700, .inl (fun _ => 0))), (m7, .inl (y7, 96, .inl (fun _ => 0))), (m8, .inl (y8, 2, .inl (upd (upd (fun _ => 0) 0 2) 1 2))), (m9, .inl (y9, 2, .inl (fun _ => 0))), (m10, .inl (y10, 2, .inl (fun _ => 0))), (m11, .inl (y11, 2, .inl (upd (upd (fun _ => 0) 0 (-1)) 1 (-1)))), (m12, .inl (y12, 4, .inl (fun _ => 0)))]) hD hS hA [0, 1, 2, 3, 4, 5, 6, 7, 8, 9] rfl
    refine va_callv (va_runV (As := [.int 1]) (rest := []) ⟨hx, hb, hml, hown, hts⟩ (m_power1 l dC dI _ mo m4 m5 m6 m7 m8 m9 m10 m11 m12 m16 m17 m18 m27 m29 m30 m31 y4 y5 y6 y7 y8 y9 y10 y11 y12) (cwV 1 hts gk_X8_power rfl rfl rfl (by decide +kernel) ⟨Nat.le_of_ble_eq_true rfl, Nat.le_of_ble_eq_true rfl⟩) ⟨pt_blindQ, va_recv hK hP (ci := 6) (q0 := 0) rfl rfl, pt_preQ hPc hKc hDc hN⟩ rfl rfl hl.1 rfl (lv_room (Nat.le_of_ble_eq_true rfl)) dL_law_503 ⟨Nat.le_of_ble_eq_true rfl, Nat.le_of_ble_eq_true rfl⟩) hS (fun q _ h => hFc q h) hFc (fun u_5 t H1 locs ht hvm hw_5 hB hz1 hk1 hS => ?_)
    obtain ⟨hP1, hK1, hD1⟩ := hB
    rw [ht] at hP1
    have hK1 := va_K.moved hvm.symm hK1
    obtain ⟨hP, hD⟩ := va_join (wr := [(ot, .inl (cL, 1, .inr (.inl (fun _ => 0))))]) (w1 := [(mo, .inr (6, .int u_5.1 :: u_5.2))]) hP hD [0, 1, 2, 3, 4, 5, 6, 7, 8, 9] [10] rfl rfl (by decide) (by decide) hk1 hFc hP1 hD1
    have hK := hK.app hK1
    generalize H1 = H at hP hS ⊢
    have hP : va_P (dC, dI) vwCl [(ot, .inl (cL, 1, .inr (.inl (fun _ => 0)))), (mo, .inr (6, .int u_5.1 :: u_5.2))] H := hP
    have hD : va_D (fun q : Nat => s.heap.size ≤ q) [(ot, .inl (cL, 1, .inr (.inl (fun _ => 0)))), (mo, .inr (6, .int u_5.1 :: u_5.2))] := hD
    have hK : va_K (dC, dI) vwCl [(cI, .int), (cZ, .boolean), (cB, .object "ParkTower$Bay"), (y4, .int), (y5, .int), (y6, .int), (y7, .int), (y8, .int), (y9, .int), (y10, .boolean), (y11, .int), (y12, .boolean), (cL, .long)] s := hK
    refine W.widen (k := 37) (n := 2564) (by omega) (by omega) ?_
    refine lv_aload_n hx hb dL_law_506 rfl (lv_at hl 3 rfl) ?_
    refine pt_cSi (va_runV (As := []) (rest := []) ⟨hx, hb, hml, hown, hts⟩ (c_thrown l dC dI mo u_5.1 u_5.2) (cwV 0 hts gk_X8_thrown rfl rfl rfl (by decide +kernel) ⟨Nat.le_of_ble_eq_true rfl, Nat.le_of_ble_eq_true rfl⟩) ⟨pt_blind, va_recv hK hP (ci := 6) (q0 := 1) rfl rfl, pt_pre (w := [(mo, .inr (6, .int u_5.1 :: u_5.2))]) (tys := []) (hP.sub [1] rfl) (hK.sub [] rfl) hN⟩ rfl rfl hl.1 rfl (lv_room (Nat.le_of_ble_eq_true rfl)) dL_law_507 ⟨Nat.le_of_ble_eq_true rfl, Nat.le_of_ble_eq_true rfl⟩) (fun r_6 hr_6 => ?_)
    obtain rfl : r_6 = 1 := hr_6.trans hw_5
    refine lv_iload hx hb dL_law_510 (lv_at hl 0 rfl) ?_
    refine lv_icmp_eq (tgt := 517) hx hb dL_law_512 (by decide) (fun _ => ?_) (fun c => absurd (by decide) c)
    refine lv_goto (tgt := 824) hx hb dL_law_517 (by decide) ?_
    exact law_end l C0 (Nat.le_of_ble_eq_true rfl) (Nat.le_of_ble_eq_true rfl) hS ls (lv_sub hl [1, 5] rfl)
set_option maxHeartbeats 4000000 in
set_option maxRecDepth 100000 in
theorem law_tick {p : Program} {e : Env} {s : State} {m : MethodId} {below : List Frame} {meth : Method} {c : Code} (l : Launch) (hlt : l.stackTraces = false) {b : Nat} {xs : Nat → Int32} (C0 : lw_At p s m meth c b 5 xs) (dC : Nat → ClassId) (dI : Nat → Nat → Nat) (x rk hd jm bs b0 b1 od o1 o2 o3 jb pl ap : Nat) (cI cZ cB : ClassId) (mo m4 m5 m6 m7 m8 m9 m10 m11 m12 m16 m17 m18 m27 m29 m30 m31 : Nat) (y4 y5 y6 y7 y8 y9 y10 y11 y12 : ClassId) (ot : Nat) (cL : ClassId) (H : Heap) (locs : List Loc) (hN : pt_N s) (hE : pt_E s) (hZ : pt_Z s.heap.size s s.heap) (hK : va_K (dC, dI) vwCl [(cI, .int), (cZ, .boolean), (cB, .object "ParkTower$Bay"), (y4, .int), (y5, .int), (y6, .int), (y7, .int), (y8, .int), (y9, .int), (y10, .boolean), (y11, .int), (y12, .boolean), (cL, .long)] s) (hP : va_P (dC, dI) vwCl [(x, .inr (5, [.ref rk, .ref bs, .ref od, .ref jb, .ref ap, .int 0, .int 1, .int 0, .int 0, .int 0])), (rk, .inr (4, [.ref hd, .ref jm])), (hd, .inl (cI, 96, .inl (fun _ => 0))), (jm, .inl (cZ, 4, .inl (fun _ => 0))), (bs, .inl (cB, 2, .inr (.inr (.inr (.inr (va_up (va_up (fun _ => none) 0 (some b0)) 1 (some b1))))))), (b0, .inr (0, [.int 2, .int 0, .int 0, .int 0, .int 0, .int (-1)])), (b1, .inr (0, [.int 2, .int 0, .int 0, .int 0, .int 0, .int (-1)])), (od, .inr (2, [.ref o1, .ref o2, .ref o3, .int 0])), (jb, .inr (1, [.ref pl, .int (-1), .int 0, .int 0, .int 0])), (mo, .inr (6, [.int 0, .int 0, .int 0, .int 0, .ref m4, .ref m5, .ref m6, .ref m7, .ref m8, .ref m9, .ref m10, .ref m11, .ref m12, .int 1, .int 0, .int 0, .ref m16, .ref m17, .ref m18, .int 0, .int 0, .int 0, .int 0, .int 0, .int 0, .int 0, .int 0, .ref m27, .int 0, .ref m29, .ref m30, .ref m31])), (m4, .inl (y4, 700, .inl (fun _ => 0))), (m5, .inl (y5, 700, .inl (fun _ => 0))), (m6, .inl (y6, 700, .inl (fun _ => 0))), (m7, .inl (y7, 96, .inl (fun _ => 0))), (m8, .inl (y8, 2, .inl (upd (upd (fun _ => 0) 0 2) 1 2))), (m9, .inl (y9, 2, .inl (fun _ => 0))), (m10, .inl (y10, 2, .inl (fun _ => 0))), (m11, .inl (y11, 2, .inl (upd (upd (fun _ => 0) 0 (-1)) 1 (-1)))), (m12, .inl (y12, 4, .inl (fun _ => 0))), (ot, .inl (cL, 1, .inr (.inl (fun _ => 0))))] H) (hD : va_D (fun q : Nat => s.heap.size ≤ q) [(x, .inr (5, [.ref rk, .ref bs, .ref od, .ref jb, .ref ap, .int 0, .int 1, .int 0, .int 0, .int 0])), (rk, .inr (4, [.ref hd, .ref jm])), (hd, .inl (cI, 96, .inl (fun _ => 0))), (jm, .inl (cZ, 4, .inl (fun _ => 0))), (bs, .inl (cB, 2, .inr (.inr (.inr (.inr (va_up (va_up (fun _ => none) 0 (some b0)) 1 (some b1))))))), (b0, .inr (0, [.int 2, .int 0, .int 0, .int 0, .int 0, .int (-1)])), (b1, .inr (0, [.int 2, .int 0, .int 0, .int 0, .int 0, .int (-1)])), (od, .inr (2, [.ref o1, .ref o2, .ref o3, .int 0])), (jb, .inr (1, [.ref pl, .int (-1), .int 0, .int 0, .int 0])), (mo, .inr (6, [.int 0, .int 0, .int 0, .int 0, .ref m4, .ref m5, .ref m6, .ref m7, .ref m8, .ref m9, .ref m10, .ref m11, .ref m12, .int 1, .int 0, .int 0, .ref m16, .ref m17, .ref m18, .int 0, .int 0, .int 0, .int 0, .int 0, .int 0, .int 0, .int 0, .ref m27, .int 0, .ref m29, .ref m30, .ref m31])), (m4, .inl (y4, 700, .inl (fun _ => 0))), (m5, .inl (y5, 700, .inl (fun _ => 0))), (m6, .inl (y6, 700, .inl (fun _ => 0))), (m7, .inl (y7, 96, .inl (fun _ => 0))), (m8, .inl (y8, 2, .inl (upd (upd (fun _ => 0) 0 2) 1 2))), (m9, .inl (y9, 2, .inl (fun _ => 0))), (m10, .inl (y10, 2, .inl (fun _ => 0))), (m11, .inl (y11, 2, .inl (upd (upd (fun _ => 0) 0 (-1)) 1 (-1)))), (m12, .inl (y12, 4, .inl (fun _ => 0))), (ot, .inl (cL, 1, .inr (.inl (fun _ => 0))))]) (hS : va_S (fun q : Nat => s.heap.size ≤ q) s.heap H locs) (ls : Array Slot) (hl : lv_has ls 7 [(4, .int 0), (3, .ref ot), (2, .ref mo), (1, .ref x), (0, .ref b)]) : W p l e room_1 s m #[Value.ref b] below meth c H locs 36 2558 (lw_Z below #[Value.ref b] s) (F0 m 520 ls []) := by
  obtain ⟨hx, hb, hr, hml, hown, hts, hX, hbl, hlocks, hgv⟩ := id C0
  have hbA : ¬ (fun q : Nat => s.heap.size ≤ q) b := Nat.not_le.mpr hbl
  have hA : ∀ q : Nat, s.heap.size ≤ q → (fun q : Nat => s.heap.size ≤ q) q := fun _ h => h
  obtain ⟨v1, e1⟩ : ∃ z, xs 1 = z := ⟨_, rfl⟩
  by_cases hok : ¬ v1 < 1 ∧ v1 ≤ 500
  · obtain ⟨N, h1, h2, rfl⟩ := pt_500 hok.1 hok.2
    refine lv_aload_n hx hb dL_law_520 rfl (lv_at hl 3 rfl) ?_
    refine lv_aload_n hx hb dL_law_521 rfl (lv_at hl 4 rfl) ?_
    refine lv_iload hx hb dL_law_522 (lv_at hl 0 rfl) ?_
    refine lv_iconst (v := 1) hx hb dL_law_524 (by decide) ?_
    refine lv_iadd hx hb dL_law_525 ?_
    refine pt_topi 1 (by decide) ?_
    refine va_sld hx hb hX hbl hbA hS (vp_in_iff.mpr (by decide)) dL_law_526 ?_
    refine pt_topi (nI N) e1 ?_
    refine lv_aload_n hx hb dL_law_527 rfl (lv_at hl 1 rfl) ?_
    have hPc := hP.sub (ws' := [(x, .inr (5, [.ref rk, .ref bs, .ref od, .ref jb, .ref ap, .int 0, .int 1, .int 0, .int 0, .int 0])), (rk, .inr (4, [.ref hd, .ref jm])), (hd, .inl (cI, 96, .inl (fun _ => 0))), (jm, .inl (cZ, 4, .inl (fun _ => 0))), (bs, .inl (cB, 2, .inr (.inr (.inr (.inr (va_up (va_up (fun _ => none) 0 (some b0)) 1 (some b1))))))), (b0, .inr (0, [.int 2, .int 0, .int 0, .int 0, .int 0, .int (-1)])), (b1, .inr (0, [.int 2, .int 0, .int 0, .int 0, .int 0, .int (-1)])), (od, .inr (2, [.ref o1, .ref o2, .ref o3, .int 0])), (jb, .inr (1, [.ref pl, .int (-1), .int 0, .int 0, .int 0])), (ot, .inl (cL, 1, .inr (.inl (fun _ => 0))))]) [0, 1, 2, 3, 4, 5, 6, 7, 8, 19] rfl
    have hDc := hD.sub (ws' := [(x, .inr (5, [.ref rk, .ref bs, .ref od, .ref jb, .ref ap, .int 0, .int 1, .int 0, .int 0, .int 0])), (rk, .inr (4, [.ref hd, .ref jm])), (hd, .inl (cI, 96, .inl (fun _ => 0))), (jm, .inl (cZ, 4, .inl (fun _ => 0))), (bs, .inl (cB, 2, .inr (.inr (.inr (.inr (va_up (va_up (fun _ => none) 0 (some b0)) 1 (some b1))))))), (b0, .inr (0, [.int 2, .int 0, .int 0, .int 0, .int 0, .int (-1)])), (b1, .inr (0, [.int 2, .int 0, .int 0, .int 0, .int 0, .int (-1)])), (od, .inr (2, [.ref o1, .ref o2, .ref o3, .int 0])), (jb, .inr (1, [.ref pl, .int (-1), .int 0, .int 0, .int 0])), (ot, .inl (cL, 1, .inr (.inl (fun _ => 0))))]) [0, 1, 2, 3, 4, 5, 6, 7, 8, 19] (by decide) rfl
    have hKc := hK.sub (tys' := [(cI, .int), (cZ, .boolean), (cB, .object "ParkTower$Bay"), (cL, .long)]) [0, 1, 2, 12] rfl
    have hFc := va_free (wc := [(x, .inr (5, [.ref rk, .ref bs, .ref od, .ref jb, .ref ap, .int 0, .int 1, .int 0, .int 0, .int 0])), (rk, .inr (4, [.ref hd, .ref jm])), (hd, .inl (cI, 96, .inl (fun _ => 0))), (jm, .inl (cZ, 4, .inl (fun _ => 0))), (bs, .inl (cB, 2, .inr (.inr (.inr (.inr (va_up (va_up (fun _ => none) 0 (some b0)) 1 (some b1))))))), (b0, .inr (0, [.int 2, .int 0, .int 0, .int 0, .int 0, .int (-1)])), (b1, .inr (0, [.int 2, .int 0, .int 0, .int 0, .int 0, .int (-1)])), (od, .inr (2, [.ref o1, .ref o2, .ref o3, .int 0])), (jb, .inr (1, [.ref pl, .int (-1), .int 0, .int 0, .int 0])), (ot, .inl (cL, 1, .inr (.inl (fun _ => 0))))]) hD hS hA [0, 1, 2, 3, 4, 5, 6, 7, 8, 19] rfl
    refine va_calli (vx_runSW (As := [.ref x, .int (nI N), .ref ot]) (rest := []) ⟨hx, hb, hml, hown, hts⟩ (w_tick l hlt dC dI _ x rk hd jm bs b0 b1 od o1 o2 o3 jb pl ap cI cZ cB ot cL (fun _ => 0) (nI N)) (vx_cwSW 3 hts gk_L_tick rfl rfl rfl (by decide +kernel) ⟨Nat.le_of_ble_eq_true rfl, Nat.le_of_ble_eq_true rfl⟩) ⟨pt_blindT, pt_preT hPc hKc hDc hN hE (pt_Z.up hZ (fun q h1 h2 => hS.2.1 q h1 h2) hS.1)⟩ rfl rfl hl.1 rfl (lv_room (Nat.le_of_ble_eq_true rfl)) dL_law_528 ⟨Nat.le_of_ble_eq_true rfl, Nat.le_of_ble_eq_true rfl⟩) hS (fun q _ h => hFc q h) hFc (fun r_1 u_1 t H1 locs ht hvm hw_1 hB hz1 hk1 hS => ?_)
    obtain ⟨hP1, hK1, hD1⟩ := hB
    rw [ht] at hP1
    have hK1 := va_K.moved hvm.symm hK1
    obtain ⟨hP, hD⟩ := va_join (wr := [(mo, .inr (6, [.int 0, .int 0, .int 0, .int 0, .ref m4, .ref m5, .ref m6, .ref m7, .ref m8, .ref m9, .ref m10, .ref m11, .ref m12, .int 1, .int 0, .int 0, .ref m16, .ref m17, .ref m18, .int 0, .int 0, .int 0, .int 0, .int 0, .int 0, .int 0, .int 0, .ref m27, .int 0, .ref m29, .ref m30, .ref m31])), (m4, .inl (y4, 700, .inl (fun _ => 0))), (m5, .inl (y5, 700, .inl (fun _ => 0))), (m6, .inl (y6, 700, .inl (fun _ => 0))), (m7, .inl (y7, 96, .inl (fun _ => 0))), (m8, .inl (y8, 2, .inl (upd (upd (fun _ => 0) 0 2) 1 2))), (m9, .inl (y9, 2, .inl (fun _ => 0))), (m10, .inl (y10, 2, .inl (fun _ => 0))), (m11, .inl (y11, 2, .inl (upd (upd (fun _ => 0) 0 (-1)) 1 (-1)))), (m12, .inl (y12, 4, .inl (fun _ => 0)))]) (w1 := [(ot, .inl (cL, 1, .inr (.inl u_1)))]) hP hD [0, 1, 2, 3, 4, 5, 6, 7, 8, 19] [9, 10, 11, 12, 13, 14, 15, 16, 17, 18] rfl rfl (by decide) (by decide) hk1 hFc hP1 hD1
    have hK := hK.app hK1
    generalize H1 = H at hP hS ⊢
    have hP : va_P (dC, dI) vwCl [(mo, .inr (6, [.int 0, .int 0, .int 0, .int 0, .ref m4, .ref m5, .ref m6, .ref m7, .ref m8, .ref m9, .ref m10, .ref m11, .ref m12, .int 1, .int 0, .int 0, .ref m16, .ref m17, .ref m18, .int 0, .int 0, .int 0, .int 0, .int 0, .int 0, .int 0, .int 0, .ref m27, .int 0, .ref m29, .ref m30, .ref m31])), (m4, .inl (y4, 700, .inl (fun _ => 0))), (m5, .inl (y5, 700, .inl (fun _ => 0))), (m6, .inl (y6, 700, .inl (fun _ => 0))), (m7, .inl (y7, 96, .inl (fun _ => 0))), (m8, .inl (y8, 2, .inl (upd (upd (fun _ => 0) 0 2) 1 2))), (m9, .inl (y9, 2, .inl (fun _ => 0))), (m10, .inl (y10, 2, .inl (fun _ => 0))), (m11, .inl (y11, 2, .inl (upd (upd (fun _ => 0) 0 (-1)) 1 (-1)))), (m12, .inl (y12, 4, .inl (fun _ => 0))), (ot, .inl (cL, 1, .inr (.inl u_1)))] H := hP
    have hD : va_D (fun q : Nat => s.heap.size ≤ q) [(mo, .inr (6, [.int 0, .int 0, .int 0, .int 0, .ref m4, .ref m5, .ref m6, .ref m7, .ref m8, .ref m9, .ref m10, .ref m11, .ref m12, .int 1, .int 0, .int 0, .ref m16, .ref m17, .ref m18, .int 0, .int 0, .int 0, .int 0, .int 0, .int 0, .int 0, .int 0, .ref m27, .int 0, .ref m29, .ref m30, .ref m31])), (m4, .inl (y4, 700, .inl (fun _ => 0))), (m5, .inl (y5, 700, .inl (fun _ => 0))), (m6, .inl (y6, 700, .inl (fun _ => 0))), (m7, .inl (y7, 96, .inl (fun _ => 0))), (m8, .inl (y8, 2, .inl (upd (upd (fun _ => 0) 0 2) 1 2))), (m9, .inl (y9, 2, .inl (fun _ => 0))), (m10, .inl (y10, 2, .inl (fun _ => 0))), (m11, .inl (y11, 2, .inl (upd (upd (fun _ => 0) 0 (-1)) 1 (-1)))), (m12, .inl (y12, 4, .inl (fun _ => 0))), (ot, .inl (cL, 1, .inr (.inl u_1)))] := hD
    have hK : va_K (dC, dI) vwCl [(cI, .int), (cZ, .boolean), (cB, .object "ParkTower$Bay"), (y4, .int), (y5, .int), (y6, .int), (y7, .int), (y8, .int), (y9, .int), (y10, .boolean), (y11, .int), (y12, .boolean), (cL, .long)] s := hK
    refine W.widen (k := 37) (n := 2564) (by omega) (by omega) ?_
    obtain rfl : r_1 = 0 := hw_1.1.trans (if_pos hok)
    refine lv_istore (lv' := [(5, .int 0), (4, .int 0), (3, .ref ot), (2, .ref mo), (1, .ref x), (0, .ref b)]) hx hb dL_law_531 hl (by decide) rfl (fun ls hl => ?_)
    refine lv_aload_n hx hb dL_law_533 rfl (lv_at hl 3 rfl) ?_
    refine lv_aload_n hx hb dL_law_534 rfl (lv_at hl 5 rfl) ?_
    refine lv_iload hx hb dL_law_535 (lv_at hl 1 rfl) ?_
    refine lv_iconst (v := 1) hx hb dL_law_537 (by decide) ?_
    refine lv_iadd hx hb dL_law_538 ?_
    refine pt_topi 1 (by decide) ?_
    refine va_sld hx hb hX hbl hbA hS (vp_in_iff.mpr (by decide)) dL_law_539 ?_
    refine pt_topi (nI N) e1 ?_
    have hPc := hP.sub (ws' := [(mo, .inr (6, [.int 0, .int 0, .int 0, .int 0, .ref m4, .ref m5, .ref m6, .ref m7, .ref m8, .ref m9, .ref m10, .ref m11, .ref m12, .int 1, .int 0, .int 0, .ref m16, .ref m17, .ref m18, .int 0, .int 0, .int 0, .int 0, .int 0, .int 0, .int 0, .int 0, .ref m27, .int 0, .ref m29, .ref m30, .ref m31])), (m4, .inl (y4, 700, .inl (fun _ => 0))), (m5, .inl (y5, 700, .inl (fun _ => 0))), (m6, .inl (y6, 700, .inl (fun _ => 0))), (m7, .inl (y7, 96, .inl (fun _ => 0))), (m8, .inl (y8, 2, .inl (upd (upd (fun _ => 0) 0 2) 1 2))), (m9, .inl (y9, 2, .inl (fun _ => 0))), (m10, .inl (y10, 2, .inl (fun _ => 0))), (m11, .inl (y11, 2, .inl (upd (upd (fun _ => 0) 0 (-1)) 1 (-1)))), (m12, .inl (y12, 4, .inl (fun _ => 0)))]) [0, 1, 2, 3, 4, 5, 6, 7, 8, 9] rfl
    have hDc := hD.sub (ws' := [(mo, .inr (6, [.int 0, .int 0, .int 0, .int 0, .ref m4, .ref m5, .ref m6, .ref m7, .ref m8, .ref m9, .ref m10, .ref m11, .ref m12, .int 1, .int 0, .int 0, .ref m16, .ref m17, .ref m18, .int 0, .int 0, .int 0, .int 0, .int 0, .int 0, .int 0, .int 0, .ref m27, .int 0, .ref m29, .ref m30, .ref m31])), (m4, .inl (y4, 700, .inl (fun _ => 0))), (m5, .inl (y5, 700, .inl (fun _ => 0))), (m6, .inl (y6, 700, .inl (fun _ => 0))), (m7, .inl (y7, 96, .inl (fun _ => 0))), (m8, .inl (y8, 2, .inl (upd (upd (fun _ => 0) 0 2) 1 2))), (m9, .inl (y9, 2, .inl (fun _ => 0))), (m10, .inl (y10, 2, .inl (fun _ => 0))), (m11, .inl (y11, 2, .inl (upd (upd (fun _ => 0) 0 (-1)) 1 (-1)))), (m12, .inl (y12, 4, .inl (fun _ => 0)))]) [0, 1, 2, 3, 4, 5, 6, 7, 8, 9] (by decide) rfl
    have hKc := hK.sub (tys' := [(y4, .int), (y5, .int), (y6, .int), (y7, .int), (y8, .int), (y9, .int), (y10, .boolean), (y11, .int), (y12, .boolean)]) [3, 4, 5, 6, 7, 8, 9, 10, 11] rfl
    have hFc := va_free (wc := [(mo, .inr (6, [.int 0, .int 0, .int 0, .int 0, .ref m4, .ref m5, .ref m6, .ref m7, .ref m8, .ref m9, .ref m10, .ref m11, .ref m12, .int 1, .int 0, .int 0, .ref m16, .ref m17, .ref m18, .int 0, .int 0, .int 0, .int 0, .int 0, .int 0, .int 0, .int 0, .ref m27, .int 0, .ref m29, .ref m30, .ref m31])), (m4, .inl (y4, 700, .inl (fun _ => 0))), (m5, .inl (y5, 700, .inl (fun _ => 0))), (m6, .inl (y6, 700, .inl (fun _ => 0))), (m7, .inl (y7, 96, .inl (fun _ => 0))), (m8, .inl (y8, 2, .inl (upd (upd (fun _ => 0) 0 2) 1 2))), (m9, .inl (y9, 2, .inl (fun _ => 0))), (m10, .inl (y10, 2, .inl (fun _ => 0))), (m11, .inl (y11, 2, .inl (upd (upd (fun _ => 0) 0 (-1)) 1 (-1)))), (m12, .inl (y12, 4, .inl (fun _ => 0)))]) hD hS hA [0, 1, 2, 3, 4, 5, 6, 7, 8, 9] rfl
    refine va_calli (va_runV (As := [.int (nI N)]) (rest := []) ⟨hx, hb, hml, hown, hts⟩ (m_tick l dC dI _ mo m4 m5 m6 m7 m8 m9 m10 m11 m12 m16 m17 m18 m27 m29 m30 m31 y4 y5 y6 y7 y8 y9 y10 y11 y12 N h1 h2) (cwV 1 hts gk_X8_tick rfl rfl rfl (by decide +kernel) ⟨Nat.le_of_ble_eq_true rfl, Nat.le_of_ble_eq_true rfl⟩) ⟨pt_blindQ, va_recv hK hP (ci := 6) (q0 := 0) rfl rfl, pt_preQ hPc hKc hDc hN⟩ rfl rfl hl.1 rfl (lv_room (Nat.le_of_ble_eq_true rfl)) dL_law_540 ⟨Nat.le_of_ble_eq_true rfl, Nat.le_of_ble_eq_true rfl⟩) hS (fun q _ h => hFc q h) hFc (fun r_2 u_2 t H1 locs ht hvm hw_2 hB hz1 hk1 hS => ?_)
    obtain ⟨hP1, hK1, hD1⟩ := hB
    rw [ht] at hP1
    have hK1 := va_K.moved hvm.symm hK1
    obtain ⟨hP, hD⟩ := va_join (wr := [(ot, .inl (cL, 1, .inr (.inl u_1)))]) (w1 := [(mo, .inr (6, .int u_2.1 :: u_2.2))]) hP hD [0, 1, 2, 3, 4, 5, 6, 7, 8, 9] [10] rfl rfl (by decide) (by decide) hk1 hFc hP1 hD1
    have hK := hK.app hK1
    generalize H1 = H at hP hS ⊢
    have hP : va_P (dC, dI) vwCl [(ot, .inl (cL, 1, .inr (.inl u_1))), (mo, .inr (6, .int u_2.1 :: u_2.2))] H := hP
    have hD : va_D (fun q : Nat => s.heap.size ≤ q) [(ot, .inl (cL, 1, .inr (.inl u_1))), (mo, .inr (6, .int u_2.1 :: u_2.2))] := hD
    have hK : va_K (dC, dI) vwCl [(cI, .int), (cZ, .boolean), (cB, .object "ParkTower$Bay"), (y4, .int), (y5, .int), (y6, .int), (y7, .int), (y8, .int), (y9, .int), (y10, .boolean), (y11, .int), (y12, .boolean), (cL, .long)] s := hK
    refine W.widen (k := 37) (n := 2564) (by omega) (by omega) ?_
    refine lv_istore (lv' := [(6, .int r_2), (5, .int 0), (4, .int 0), (3, .ref ot), (2, .ref mo), (1, .ref x), (0, .ref b)]) hx hb dL_law_543 hl (by decide) rfl (fun ls hl => ?_)
    refine lv_aload_n hx hb dL_law_545 rfl (lv_at hl 4 rfl) ?_
    refine pt_cSi (va_runV (As := []) (rest := []) ⟨hx, hb, hml, hown, hts⟩ (c_thrown l dC dI mo u_2.1 u_2.2) (cwV 0 hts gk_X8_thrown rfl rfl rfl (by decide +kernel) ⟨Nat.le_of_ble_eq_true rfl, Nat.le_of_ble_eq_true rfl⟩) ⟨pt_blind, va_recv hK hP (ci := 6) (q0 := 1) rfl rfl, pt_pre (w := [(mo, .inr (6, .int u_2.1 :: u_2.2))]) (tys := []) (hP.sub [1] rfl) (hK.sub [] rfl) hN⟩ rfl rfl hl.1 rfl (lv_room (Nat.le_of_ble_eq_true rfl)) dL_law_546 ⟨Nat.le_of_ble_eq_true rfl, Nat.le_of_ble_eq_true rfl⟩) (fun r_3 hr_3 => ?_)
    obtain rfl : r_3 = 0 := hr_3.trans hw_2.1
    refine lv_iload hx hb dL_law_549 (lv_at hl 1 rfl) ?_
    refine lv_icmp_eq (tgt := 556) hx hb dL_law_551 (by decide) (fun _ => ?_) (fun c => absurd (by decide) c)
    refine lv_iload hx hb dL_law_556 (lv_at hl 1 rfl) ?_
    refine lv_if_ne (tgt := 573) hx hb dL_law_558 (by decide) (fun c => absurd (by decide) c) (fun _ => ?_)
    refine lv_aload_n hx hb dL_law_561 rfl (lv_at hl 3 rfl) ?_
    refine lv_iconst (v := 0) hx hb dL_law_562 (by decide) ?_
    refine va_lald hx hb hK hP 0 12 rfl rfl (vp_in_iff.mpr (by decide)) dL_law_563 ?_
    refine lv_iload hx hb dL_law_564 (lv_at hl 0 rfl) ?_
    refine lv_i2l (v := r_2.toInt64) hx hb dL_law_566 rfl ?_
    refine W.lcmp hx hb dL_law_567 ?_
    refine pt_topi 0 (pt_cmp ((hw_1.2 rfl).trans (congrArg Int32.toInt64 (hw_2.2 hw_2.1).symm))) ?_
    refine lv_if_eq (tgt := 573) hx hb dL_law_568 (by decide) (fun _ => ?_) (fun c => absurd (by decide) c)
    refine lv_goto (tgt := 824) hx hb dL_law_573 (by decide) ?_
    exact law_end l C0 (Nat.le_of_ble_eq_true rfl) (Nat.le_of_ble_eq_true rfl) hS ls (lv_sub hl [2, 6] rfl)
  · skip
    refine lv_aload_n hx hb dL_law_520 rfl (lv_at hl 3 rfl) ?_
    refine lv_aload_n hx hb dL_law_521 rfl (lv_at hl 4 rfl) ?_
    refine lv_iload hx hb dL_law_522 (lv_at hl 0 rfl) ?_
    refine lv_iconst (v := 1) hx hb dL_law_524 (by decide) ?_
    refine lv_iadd hx hb dL_law_525 ?_
    refine pt_topi 1 (by decide) ?_
    refine va_sld hx hb hX hbl hbA hS (vp_in_iff.mpr (by decide)) dL_law_526 ?_
    refine pt_topi v1 e1 ?_
    refine lv_aload_n hx hb dL_law_527 rfl (lv_at hl 1 rfl) ?_
    have hPc := hP.sub (ws' := [(x, .inr (5, [.ref rk, .ref bs, .ref od, .ref jb, .ref ap, .int 0, .int 1, .int 0, .int 0, .int 0])), (rk, .inr (4, [.ref hd, .ref jm])), (hd, .inl (cI, 96, .inl (fun _ => 0))), (jm, .inl (cZ, 4, .inl (fun _ => 0))), (bs, .inl (cB, 2, .inr (.inr (.inr (.inr (va_up (va_up (fun _ => none) 0 (some b0)) 1 (some b1))))))), (b0, .inr (0, [.int 2, .int 0, .int 0, .int 0, .int 0, .int (-1)])), (b1, .inr (0, [.int 2, .int 0, .int 0, .int 0, .int 0, .int (-1)])), (od, .inr (2, [.ref o1, .ref o2, .ref o3, .int 0])), (jb, .inr (1, [.ref pl, .int (-1), .int 0, .int 0, .int 0])), (ot, .inl (cL, 1, .inr (.inl (fun _ => 0))))]) [0, 1, 2, 3, 4, 5, 6, 7, 8, 19] rfl
    have hDc := hD.sub (ws' := [(x, .inr (5, [.ref rk, .ref bs, .ref od, .ref jb, .ref ap, .int 0, .int 1, .int 0, .int 0, .int 0])), (rk, .inr (4, [.ref hd, .ref jm])), (hd, .inl (cI, 96, .inl (fun _ => 0))), (jm, .inl (cZ, 4, .inl (fun _ => 0))), (bs, .inl (cB, 2, .inr (.inr (.inr (.inr (va_up (va_up (fun _ => none) 0 (some b0)) 1 (some b1))))))), (b0, .inr (0, [.int 2, .int 0, .int 0, .int 0, .int 0, .int (-1)])), (b1, .inr (0, [.int 2, .int 0, .int 0, .int 0, .int 0, .int (-1)])), (od, .inr (2, [.ref o1, .ref o2, .ref o3, .int 0])), (jb, .inr (1, [.ref pl, .int (-1), .int 0, .int 0, .int 0])), (ot, .inl (cL, 1, .inr (.inl (fun _ => 0))))]) [0, 1, 2, 3, 4, 5, 6, 7, 8, 19] (by decide) rfl
    have hKc := hK.sub (tys' := [(cI, .int), (cZ, .boolean), (cB, .object "ParkTower$Bay"), (cL, .long)]) [0, 1, 2, 12] rfl
    have hFc := va_free (wc := [(x, .inr (5, [.ref rk, .ref bs, .ref od, .ref jb, .ref ap, .int 0, .int 1, .int 0, .int 0, .int 0])), (rk, .inr (4, [.ref hd, .ref jm])), (hd, .inl (cI, 96, .inl (fun _ => 0))), (jm, .inl (cZ, 4, .inl (fun _ => 0))), (bs, .inl (cB, 2, .inr (.inr (.inr (.inr (va_up (va_up (fun _ => none) 0 (some b0)) 1 (some b1))))))), (b0, .inr (0, [.int 2, .int 0, .int 0, .int 0, .int 0, .int (-1)])), (b1, .inr (0, [.int 2, .int 0, .int 0, .int 0, .int 0, .int (-1)])), (od, .inr (2, [.ref o1, .ref o2, .ref o3, .int 0])), (jb, .inr (1, [.ref pl, .int (-1), .int 0, .int 0, .int 0])), (ot, .inl (cL, 1, .inr (.inl (fun _ => 0))))]) hD hS hA [0, 1, 2, 3, 4, 5, 6, 7, 8, 19] rfl
    refine va_calli (vx_runSW (As := [.ref x, .int v1, .ref ot]) (rest := []) ⟨hx, hb, hml, hown, hts⟩ (w_tick l hlt dC dI _ x rk hd jm bs b0 b1 od o1 o2 o3 jb pl ap cI cZ cB ot cL (fun _ => 0) v1) (vx_cwSW 3 hts gk_L_tick rfl rfl rfl (by decide +kernel) ⟨Nat.le_of_ble_eq_true rfl, Nat.le_of_ble_eq_true rfl⟩) ⟨pt_blindT, pt_preT hPc hKc hDc hN hE (pt_Z.up hZ (fun q h1 h2 => hS.2.1 q h1 h2) hS.1)⟩ rfl rfl hl.1 rfl (lv_room (Nat.le_of_ble_eq_true rfl)) dL_law_528 ⟨Nat.le_of_ble_eq_true rfl, Nat.le_of_ble_eq_true rfl⟩) hS (fun q _ h => hFc q h) hFc (fun r_4 u_4 t H1 locs ht hvm hw_4 hB hz1 hk1 hS => ?_)
    obtain ⟨hP1, hK1, hD1⟩ := hB
    rw [ht] at hP1
    have hK1 := va_K.moved hvm.symm hK1
    obtain ⟨hP, hD⟩ := va_join (wr := [(mo, .inr (6, [.int 0, .int 0, .int 0, .int 0, .ref m4, .ref m5, .ref m6, .ref m7, .ref m8, .ref m9, .ref m10, .ref m11, .ref m12, .int 1, .int 0, .int 0, .ref m16, .ref m17, .ref m18, .int 0, .int 0, .int 0, .int 0, .int 0, .int 0, .int 0, .int 0, .ref m27, .int 0, .ref m29, .ref m30, .ref m31])), (m4, .inl (y4, 700, .inl (fun _ => 0))), (m5, .inl (y5, 700, .inl (fun _ => 0))), (m6, .inl (y6, 700, .inl (fun _ => 0))), (m7, .inl (y7, 96, .inl (fun _ => 0))), (m8, .inl (y8, 2, .inl (upd (upd (fun _ => 0) 0 2) 1 2))), (m9, .inl (y9, 2, .inl (fun _ => 0))), (m10, .inl (y10, 2, .inl (fun _ => 0))), (m11, .inl (y11, 2, .inl (upd (upd (fun _ => 0) 0 (-1)) 1 (-1)))), (m12, .inl (y12, 4, .inl (fun _ => 0)))]) (w1 := [(ot, .inl (cL, 1, .inr (.inl u_4)))]) hP hD [0, 1, 2, 3, 4, 5, 6, 7, 8, 19] [9, 10, 11, 12, 13, 14, 15, 16, 17, 18] rfl rfl (by decide) (by decide) hk1 hFc hP1 hD1
    have hK := hK.app hK1
    generalize H1 = H at hP hS ⊢
    have hP : va_P (dC, dI) vwCl [(mo, .inr (6, [.int 0, .int 0, .int 0, .int 0, .ref m4, .ref m5, .ref m6, .ref m7, .ref m8, .ref m9, .ref m10, .ref m11, .ref m12, .int 1, .int 0, .int 0, .ref m16, .ref m17, .ref m18, .int 0, .int 0, .int 0, .int 0, .int 0, .int 0, .int 0, .int 0, .ref m27, .int 0, .ref m29, .ref m30, .ref m31])), (m4, .inl (y4, 700, .inl (fun _ => 0))), (m5, .inl (y5, 700, .inl (fun _ => 0))), (m6, .inl (y6, 700, .inl (fun _ => 0))), (m7, .inl (y7, 96, .inl (fun _ => 0))), (m8, .inl (y8, 2, .inl (upd (upd (fun _ => 0) 0 2) 1 2))), (m9, .inl (y9, 2, .inl (fun _ => 0))), (m10, .inl (y10, 2, .inl (fun _ => 0))), (m11, .inl (y11, 2, .inl (upd (upd (fun _ => 0) 0 (-1)) 1 (-1)))), (m12, .inl (y12, 4, .inl (fun _ => 0))), (ot, .inl (cL, 1, .inr (.inl u_4)))] H := hP
    have hD : va_D (fun q : Nat => s.heap.size ≤ q) [(mo, .inr (6, [.int 0, .int 0, .int 0, .int 0, .ref m4, .ref m5, .ref m6, .ref m7, .ref m8, .ref m9, .ref m10, .ref m11, .ref m12, .int 1, .int 0, .int 0, .ref m16, .ref m17, .ref m18, .int 0, .int 0, .int 0, .int 0, .int 0, .int 0, .int 0, .int 0, .ref m27, .int 0, .ref m29, .ref m30, .ref m31])), (m4, .inl (y4, 700, .inl (fun _ => 0))), (m5, .inl (y5, 700, .inl (fun _ => 0))), (m6, .inl (y6, 700, .inl (fun _ => 0))), (m7, .inl (y7, 96, .inl (fun _ => 0))), (m8, .inl (y8, 2, .inl (upd (upd (fun _ => 0) 0 2) 1 2))), (m9, .inl (y9, 2, .inl (fun _ => 0))), (m10, .inl (y10, 2, .inl (fun _ => 0))), (m11, .inl (y11, 2, .inl (upd (upd (fun _ => 0) 0 (-1)) 1 (-1)))), (m12, .inl (y12, 4, .inl (fun _ => 0))), (ot, .inl (cL, 1, .inr (.inl u_4)))] := hD
    have hK : va_K (dC, dI) vwCl [(cI, .int), (cZ, .boolean), (cB, .object "ParkTower$Bay"), (y4, .int), (y5, .int), (y6, .int), (y7, .int), (y8, .int), (y9, .int), (y10, .boolean), (y11, .int), (y12, .boolean), (cL, .long)] s := hK
    refine W.widen (k := 37) (n := 2564) (by omega) (by omega) ?_
    obtain rfl : r_4 = 1 := hw_4.1.trans (if_neg hok)
    refine lv_istore (lv' := [(5, .int 1), (4, .int 0), (3, .ref ot), (2, .ref mo), (1, .ref x), (0, .ref b)]) hx hb dL_law_531 hl (by decide) rfl (fun ls hl => ?_)
    refine lv_aload_n hx hb dL_law_533 rfl (lv_at hl 3 rfl) ?_
    refine lv_aload_n hx hb dL_law_534 rfl (lv_at hl 5 rfl) ?_
    refine lv_iload hx hb dL_law_535 (lv_at hl 1 rfl) ?_
    refine lv_iconst (v := 1) hx hb dL_law_537 (by decide) ?_
    refine lv_iadd hx hb dL_law_538 ?_
    refine pt_topi 1 (by decide) ?_
    refine va_sld hx hb hX hbl hbA hS (vp_in_iff.mpr (by decide)) dL_law_539 ?_
    refine pt_topi v1 e1 ?_
    have hPc := hP.sub (ws' := [(mo, .inr (6, [.int 0, .int 0, .int 0, .int 0, .ref m4, .ref m5, .ref m6, .ref m7, .ref m8, .ref m9, .ref m10, .ref m11, .ref m12, .int 1, .int 0, .int 0, .ref m16, .ref m17, .ref m18, .int 0, .int 0, .int 0, .int 0, .int 0, .int 0, .int 0, .int 0, .ref m27, .int 0, .ref m29, .ref m30, .ref m31])), (m4, .inl (y4, 700, .inl (fun _ => 0))), (m5, .inl (y5, 700, .inl (fun _ => 0))), (m6, .inl (y6, 700, .inl (fun _ => 0))), (m7, .inl (y7, 96, .inl (fun _ => 0))), (m8, .inl (y8, 2, .inl (upd (upd (fun _ => 0) 0 2) 1 2))), (m9, .inl (y9, 2, .inl (fun _ => 0))), (m10, .inl (y10, 2, .inl (fun _ => 0))), (m11, .inl (y11, 2, .inl (upd (upd (fun _ => 0) 0 (-1)) 1 (-1)))), (m12, .inl (y12, 4, .inl (fun _ => 0)))]) [0, 1, 2, 3, 4, 5, 6, 7, 8, 9] rfl
    have hDc := hD.sub (ws' := [(mo, .inr (6, [.int 0, .int 0, .int 0, .int 0, .ref m4, .ref m5, .ref m6, .ref m7, .ref m8, .ref m9, .ref m10, .ref m11, .ref m12, .int 1, .int 0, .int 0, .ref m16, .ref m17, .ref m18, .int 0, .int 0, .int 0, .int 0, .int 0, .int 0, .int 0, .int 0, .ref m27, .int 0, .ref m29, .ref m30, .ref m31])), (m4, .inl (y4, 700, .inl (fun _ => 0))), (m5, .inl (y5, 700, .inl (fun _ => 0))), (m6, .inl (y6, 700, .inl (fun _ => 0))), (m7, .inl (y7, 96, .inl (fun _ => 0))), (m8, .inl (y8, 2, .inl (upd (upd (fun _ => 0) 0 2) 1 2))), (m9, .inl (y9, 2, .inl (fun _ => 0))), (m10, .inl (y10, 2, .inl (fun _ => 0))), (m11, .inl (y11, 2, .inl (upd (upd (fun _ => 0) 0 (-1)) 1 (-1)))), (m12, .inl (y12, 4, .inl (fun _ => 0)))]) [0, 1, 2, 3, 4, 5, 6, 7, 8, 9] (by decide) rfl
    have hKc := hK.sub (tys' := [(y4, .int), (y5, .int), (y6, .int), (y7, .int), (y8, .int), (y9, .int), (y10, .boolean), (y11, .int), (y12, .boolean)]) [3, 4, 5, 6, 7, 8, 9, 10, 11] rfl
    have hFc := va_free (wc := [(mo, .inr (6, [.int 0, .int 0, .int 0, .int 0, .ref m4, .ref m5, .ref m6, .ref m7, .ref m8, .ref m9, .ref m10, .ref m11, .ref m12, .int 1, .int 0, .int 0, .ref m16, .ref m17, .ref m18, .int 0, .int 0, .int 0, .int 0, .int 0, .int 0, .int 0, .int 0, .ref m27, .int 0, .ref m29, .ref m30, .ref m31])), (m4, .inl (y4, 700, .inl (fun _ => 0))), (m5, .inl (y5, 700, .inl (fun _ => 0))), (m6, .inl (y6, 700, .inl (fun _ => 0))), (m7, .inl (y7, 96, .inl (fun _ => 0))), (m8, .inl (y8, 2, .inl (upd (upd (fun _ => 0) 0 2) 1 2))), (m9, .inl (y9, 2, .inl (fun _ => 0))), (m10, .inl (y10, 2, .inl (fun _ => 0))), (m11, .inl (y11, 2, .inl (upd (upd (fun _ => 0) 0 (-1)) 1 (-1)))), (m12, .inl (y12, 4, .inl (fun _ => 0)))]) hD hS hA [0, 1, 2, 3, 4, 5, 6, 7, 8, 9] rfl
    refine va_calli (va_runV (As := [.int v1]) (rest := []) ⟨hx, hb, hml, hown, hts⟩ (m_tickX l dC dI _ mo m4 m5 m6 m7 m8 m9 m10 m11 m12 m16 m17 m18 m27 m29 m30 m31 y4 y5 y6 y7 y8 y9 y10 y11 y12 v1 (fun q => hok ⟨q.1, Int32.not_lt.mp q.2⟩)) (cwV 1 hts gk_X8_tick rfl rfl rfl (by decide +kernel) ⟨Nat.le_of_ble_eq_true rfl, Nat.le_of_ble_eq_true rfl⟩) ⟨pt_blindQ, va_recv hK hP (ci := 6) (q0 := 0) rfl rfl, pt_preQ hPc hKc hDc hN⟩ rfl rfl hl.1 rfl (lv_room (Nat.le_of_ble_eq_true rfl)) dL_law_540 ⟨Nat.le_of_ble_eq_true rfl, Nat.le_of_ble_eq_true rfl⟩) hS (fun q _ h => hFc q h) hFc (fun r_5 u_5 t H1 locs ht hvm hw_5 hB hz1 hk1 hS => ?_)
    obtain ⟨hP1, hK1, hD1⟩ := hB
    rw [ht] at hP1
    have hK1 := va_K.moved hvm.symm hK1
    obtain ⟨hP, hD⟩ := va_join (wr := [(ot, .inl (cL, 1, .inr (.inl u_4)))]) (w1 := [(mo, .inr (6, .int u_5.1 :: u_5.2))]) hP hD [0, 1, 2, 3, 4, 5, 6, 7, 8, 9] [10] rfl rfl (by decide) (by decide) hk1 hFc hP1 hD1
    have hK := hK.app hK1
    generalize H1 = H at hP hS ⊢
    have hP : va_P (dC, dI) vwCl [(ot, .inl (cL, 1, .inr (.inl u_4))), (mo, .inr (6, .int u_5.1 :: u_5.2))] H := hP
    have hD : va_D (fun q : Nat => s.heap.size ≤ q) [(ot, .inl (cL, 1, .inr (.inl u_4))), (mo, .inr (6, .int u_5.1 :: u_5.2))] := hD
    have hK : va_K (dC, dI) vwCl [(cI, .int), (cZ, .boolean), (cB, .object "ParkTower$Bay"), (y4, .int), (y5, .int), (y6, .int), (y7, .int), (y8, .int), (y9, .int), (y10, .boolean), (y11, .int), (y12, .boolean), (cL, .long)] s := hK
    refine W.widen (k := 37) (n := 2564) (by omega) (by omega) ?_
    refine lv_istore (lv' := [(6, .int r_5), (5, .int 1), (4, .int 0), (3, .ref ot), (2, .ref mo), (1, .ref x), (0, .ref b)]) hx hb dL_law_543 hl (by decide) rfl (fun ls hl => ?_)
    refine lv_aload_n hx hb dL_law_545 rfl (lv_at hl 4 rfl) ?_
    refine pt_cSi (va_runV (As := []) (rest := []) ⟨hx, hb, hml, hown, hts⟩ (c_thrown l dC dI mo u_5.1 u_5.2) (cwV 0 hts gk_X8_thrown rfl rfl rfl (by decide +kernel) ⟨Nat.le_of_ble_eq_true rfl, Nat.le_of_ble_eq_true rfl⟩) ⟨pt_blind, va_recv hK hP (ci := 6) (q0 := 1) rfl rfl, pt_pre (w := [(mo, .inr (6, .int u_5.1 :: u_5.2))]) (tys := []) (hP.sub [1] rfl) (hK.sub [] rfl) hN⟩ rfl rfl hl.1 rfl (lv_room (Nat.le_of_ble_eq_true rfl)) dL_law_546 ⟨Nat.le_of_ble_eq_true rfl, Nat.le_of_ble_eq_true rfl⟩) (fun r_6 hr_6 => ?_)
    obtain rfl : r_6 = 1 := hr_6.trans hw_5.1
    refine lv_iload hx hb dL_law_549 (lv_at hl 1 rfl) ?_
    refine lv_icmp_eq (tgt := 556) hx hb dL_law_551 (by decide) (fun _ => ?_) (fun c => absurd (by decide) c)
    refine lv_iload hx hb dL_law_556 (lv_at hl 1 rfl) ?_
    refine lv_if_ne (tgt := 573) hx hb dL_law_558 (by decide) (fun _ => ?_) (fun c => absurd c (by decide))
    refine lv_goto (tgt := 824) hx hb dL_law_573 (by decide) ?_
    exact law_end l C0 (Nat.le_of_ble_eq_true rfl) (Nat.le_of_ble_eq_true rfl) hS ls (lv_sub hl [2, 6] rfl)
set_option maxHeartbeats 4000000 in
set_option maxRecDepth 100000 in
theorem law_cell {p : Program} {e : Env} {s : State} {m : MethodId} {below : List Frame} {meth : Method} {c : Code} (l : Launch) (hlt : l.stackTraces = false) {b : Nat} {xs : Nat → Int32} (C0 : lw_At p s m meth c b 5 xs) (dC : Nat → ClassId) (dI : Nat → Nat → Nat) (x rk hd jm bs b0 b1 od o1 o2 o3 jb pl ap : Nat) (cI cZ cB : ClassId) (mo m4 m5 m6 m7 m8 m9 m10 m11 m12 m16 m17 m18 m27 m29 m30 m31 : Nat) (y4 y5 y6 y7 y8 y9 y10 y11 y12 : ClassId) (ot : Nat) (cL : ClassId) (H : Heap) (locs : List Loc) (hN : pt_N s) (hE : pt_E s) (hZ : pt_Z s.heap.size s s.heap) (hK : va_K (dC, dI) vwCl [(cI, .int), (cZ, .boolean), (cB, .object "ParkTower$Bay"), (y4, .int), (y5, .int), (y6, .int), (y7, .int), (y8, .int), (y9, .int), (y10, .boolean), (y11, .int), (y12, .boolean), (cL, .long)] s) (hP : va_P (dC, dI) vwCl [(x, .inr (5, [.ref rk, .ref bs, .ref od, .ref jb, .ref ap, .int 0, .int 1, .int 0, .int 0, .int 0])), (rk, .inr (4, [.ref hd, .ref jm])), (hd, .inl (cI, 96, .inl (fun _ => 0))), (jm, .inl (cZ, 4, .inl (fun _ => 0))), (bs, .inl (cB, 2, .inr (.inr (.inr (.inr (va_up (va_up (fun _ => none) 0 (some b0)) 1 (some b1))))))), (b0, .inr (0, [.int 2, .int 0, .int 0, .int 0, .int 0, .int (-1)])), (b1, .inr (0, [.int 2, .int 0, .int 0, .int 0, .int 0, .int (-1)])), (od, .inr (2, [.ref o1, .ref o2, .ref o3, .int 0])), (jb, .inr (1, [.ref pl, .int (-1), .int 0, .int 0, .int 0])), (mo, .inr (6, [.int 0, .int 0, .int 0, .int 0, .ref m4, .ref m5, .ref m6, .ref m7, .ref m8, .ref m9, .ref m10, .ref m11, .ref m12, .int 1, .int 0, .int 0, .ref m16, .ref m17, .ref m18, .int 0, .int 0, .int 0, .int 0, .int 0, .int 0, .int 0, .int 0, .ref m27, .int 0, .ref m29, .ref m30, .ref m31])), (m4, .inl (y4, 700, .inl (fun _ => 0))), (m5, .inl (y5, 700, .inl (fun _ => 0))), (m6, .inl (y6, 700, .inl (fun _ => 0))), (m7, .inl (y7, 96, .inl (fun _ => 0))), (m8, .inl (y8, 2, .inl (upd (upd (fun _ => 0) 0 2) 1 2))), (m9, .inl (y9, 2, .inl (fun _ => 0))), (m10, .inl (y10, 2, .inl (fun _ => 0))), (m11, .inl (y11, 2, .inl (upd (upd (fun _ => 0) 0 (-1)) 1 (-1)))), (m12, .inl (y12, 4, .inl (fun _ => 0))), (ot, .inl (cL, 1, .inr (.inl (fun _ => 0))))] H) (hD : va_D (fun q : Nat => s.heap.size ≤ q) [(x, .inr (5, [.ref rk, .ref bs, .ref od, .ref jb, .ref ap, .int 0, .int 1, .int 0, .int 0, .int 0])), (rk, .inr (4, [.ref hd, .ref jm])), (hd, .inl (cI, 96, .inl (fun _ => 0))), (jm, .inl (cZ, 4, .inl (fun _ => 0))), (bs, .inl (cB, 2, .inr (.inr (.inr (.inr (va_up (va_up (fun _ => none) 0 (some b0)) 1 (some b1))))))), (b0, .inr (0, [.int 2, .int 0, .int 0, .int 0, .int 0, .int (-1)])), (b1, .inr (0, [.int 2, .int 0, .int 0, .int 0, .int 0, .int (-1)])), (od, .inr (2, [.ref o1, .ref o2, .ref o3, .int 0])), (jb, .inr (1, [.ref pl, .int (-1), .int 0, .int 0, .int 0])), (mo, .inr (6, [.int 0, .int 0, .int 0, .int 0, .ref m4, .ref m5, .ref m6, .ref m7, .ref m8, .ref m9, .ref m10, .ref m11, .ref m12, .int 1, .int 0, .int 0, .ref m16, .ref m17, .ref m18, .int 0, .int 0, .int 0, .int 0, .int 0, .int 0, .int 0, .int 0, .ref m27, .int 0, .ref m29, .ref m30, .ref m31])), (m4, .inl (y4, 700, .inl (fun _ => 0))), (m5, .inl (y5, 700, .inl (fun _ => 0))), (m6, .inl (y6, 700, .inl (fun _ => 0))), (m7, .inl (y7, 96, .inl (fun _ => 0))), (m8, .inl (y8, 2, .inl (upd (upd (fun _ => 0) 0 2) 1 2))), (m9, .inl (y9, 2, .inl (fun _ => 0))), (m10, .inl (y10, 2, .inl (fun _ => 0))), (m11, .inl (y11, 2, .inl (upd (upd (fun _ => 0) 0 (-1)) 1 (-1)))), (m12, .inl (y12, 4, .inl (fun _ => 0))), (ot, .inl (cL, 1, .inr (.inl (fun _ => 0))))]) (hS : va_S (fun q : Nat => s.heap.size ≤ q) s.heap H locs) (ls : Array Slot) (hl : lv_has ls 7 [(4, .int 0), (3, .ref ot), (2, .ref mo), (1, .ref x), (0, .ref b)]) : W p l e room_1 s m #[Value.ref b] below meth c H locs 36 2558 (lw_Z below #[Value.ref b] s) (F0 m 576 ls []) := by
  obtain ⟨hx, hb, hr, hml, hown, hts, hX, hbl, hlocks, hgv⟩ := id C0
  have hbA : ¬ (fun q : Nat => s.heap.size ≤ q) b := Nat.not_le.mpr hbl
  have hA : ∀ q : Nat, s.heap.size ≤ q → (fun q : Nat => s.heap.size ≤ q) q := fun _ h => h
  obtain ⟨v1, e1⟩ : ∃ z, xs 1 = z := ⟨_, rfl⟩
  by_cases hok : ¬ v1 < 0 ∧ v1 < 96
  · skip
    refine lv_aload_n hx hb dL_law_576 rfl (lv_at hl 3 rfl) ?_
    refine lv_aload_n hx hb dL_law_577 rfl (lv_at hl 4 rfl) ?_
    refine lv_iload hx hb dL_law_578 (lv_at hl 0 rfl) ?_
    refine lv_iconst (v := 1) hx hb dL_law_580 (by decide) ?_
    refine lv_iadd hx hb dL_law_581 ?_
    refine pt_topi 1 (by decide) ?_
    refine va_sld hx hb hX hbl hbA hS (vp_in_iff.mpr (by decide)) dL_law_582 ?_
    refine pt_topi v1 e1 ?_
    refine lv_aload_n hx hb dL_law_583 rfl (lv_at hl 1 rfl) ?_
    have hPc := hP.sub (ws' := [(x, .inr (5, [.ref rk, .ref bs, .ref od, .ref jb, .ref ap, .int 0, .int 1, .int 0, .int 0, .int 0])), (rk, .inr (4, [.ref hd, .ref jm])), (hd, .inl (cI, 96, .inl (fun _ => 0))), (jm, .inl (cZ, 4, .inl (fun _ => 0))), (bs, .inl (cB, 2, .inr (.inr (.inr (.inr (va_up (va_up (fun _ => none) 0 (some b0)) 1 (some b1))))))), (b0, .inr (0, [.int 2, .int 0, .int 0, .int 0, .int 0, .int (-1)])), (b1, .inr (0, [.int 2, .int 0, .int 0, .int 0, .int 0, .int (-1)])), (od, .inr (2, [.ref o1, .ref o2, .ref o3, .int 0])), (jb, .inr (1, [.ref pl, .int (-1), .int 0, .int 0, .int 0])), (ot, .inl (cL, 1, .inr (.inl (fun _ => 0))))]) [0, 1, 2, 3, 4, 5, 6, 7, 8, 19] rfl
    have hDc := hD.sub (ws' := [(x, .inr (5, [.ref rk, .ref bs, .ref od, .ref jb, .ref ap, .int 0, .int 1, .int 0, .int 0, .int 0])), (rk, .inr (4, [.ref hd, .ref jm])), (hd, .inl (cI, 96, .inl (fun _ => 0))), (jm, .inl (cZ, 4, .inl (fun _ => 0))), (bs, .inl (cB, 2, .inr (.inr (.inr (.inr (va_up (va_up (fun _ => none) 0 (some b0)) 1 (some b1))))))), (b0, .inr (0, [.int 2, .int 0, .int 0, .int 0, .int 0, .int (-1)])), (b1, .inr (0, [.int 2, .int 0, .int 0, .int 0, .int 0, .int (-1)])), (od, .inr (2, [.ref o1, .ref o2, .ref o3, .int 0])), (jb, .inr (1, [.ref pl, .int (-1), .int 0, .int 0, .int 0])), (ot, .inl (cL, 1, .inr (.inl (fun _ => 0))))]) [0, 1, 2, 3, 4, 5, 6, 7, 8, 19] (by decide) rfl
    have hKc := hK.sub (tys' := [(cI, .int), (cZ, .boolean), (cB, .object "ParkTower$Bay"), (cL, .long)]) [0, 1, 2, 12] rfl
    have hFc := va_free (wc := [(x, .inr (5, [.ref rk, .ref bs, .ref od, .ref jb, .ref ap, .int 0, .int 1, .int 0, .int 0, .int 0])), (rk, .inr (4, [.ref hd, .ref jm])), (hd, .inl (cI, 96, .inl (fun _ => 0))), (jm, .inl (cZ, 4, .inl (fun _ => 0))), (bs, .inl (cB, 2, .inr (.inr (.inr (.inr (va_up (va_up (fun _ => none) 0 (some b0)) 1 (some b1))))))), (b0, .inr (0, [.int 2, .int 0, .int 0, .int 0, .int 0, .int (-1)])), (b1, .inr (0, [.int 2, .int 0, .int 0, .int 0, .int 0, .int (-1)])), (od, .inr (2, [.ref o1, .ref o2, .ref o3, .int 0])), (jb, .inr (1, [.ref pl, .int (-1), .int 0, .int 0, .int 0])), (ot, .inl (cL, 1, .inr (.inl (fun _ => 0))))]) hD hS hA [0, 1, 2, 3, 4, 5, 6, 7, 8, 19] rfl
    refine va_calli (vx_runSW (As := [.ref x, .int v1, .ref ot]) (rest := []) ⟨hx, hb, hml, hown, hts⟩ (w_cell l hlt dC dI _ x rk hd jm bs b0 b1 od o1 o2 o3 jb pl ap cI cZ cB ot cL (fun _ => 0) v1) (vx_cwSW 3 hts gk_L_cell rfl rfl rfl (by decide +kernel) ⟨Nat.le_of_ble_eq_true rfl, Nat.le_of_ble_eq_true rfl⟩) ⟨pt_blindT, pt_preT hPc hKc hDc hN hE (pt_Z.up hZ (fun q h1 h2 => hS.2.1 q h1 h2) hS.1)⟩ rfl rfl hl.1 rfl (lv_room (Nat.le_of_ble_eq_true rfl)) dL_law_584 ⟨Nat.le_of_ble_eq_true rfl, Nat.le_of_ble_eq_true rfl⟩) hS (fun q _ h => hFc q h) hFc (fun r_1 u_1 t H1 locs ht hvm hw_1 hB hz1 hk1 hS => ?_)
    obtain ⟨hP1, hK1, hD1⟩ := hB
    rw [ht] at hP1
    have hK1 := va_K.moved hvm.symm hK1
    obtain ⟨hP, hD⟩ := va_join (wr := [(mo, .inr (6, [.int 0, .int 0, .int 0, .int 0, .ref m4, .ref m5, .ref m6, .ref m7, .ref m8, .ref m9, .ref m10, .ref m11, .ref m12, .int 1, .int 0, .int 0, .ref m16, .ref m17, .ref m18, .int 0, .int 0, .int 0, .int 0, .int 0, .int 0, .int 0, .int 0, .ref m27, .int 0, .ref m29, .ref m30, .ref m31])), (m4, .inl (y4, 700, .inl (fun _ => 0))), (m5, .inl (y5, 700, .inl (fun _ => 0))), (m6, .inl (y6, 700, .inl (fun _ => 0))), (m7, .inl (y7, 96, .inl (fun _ => 0))), (m8, .inl (y8, 2, .inl (upd (upd (fun _ => 0) 0 2) 1 2))), (m9, .inl (y9, 2, .inl (fun _ => 0))), (m10, .inl (y10, 2, .inl (fun _ => 0))), (m11, .inl (y11, 2, .inl (upd (upd (fun _ => 0) 0 (-1)) 1 (-1)))), (m12, .inl (y12, 4, .inl (fun _ => 0)))]) (w1 := [(ot, .inl (cL, 1, .inr (.inl u_1)))]) hP hD [0, 1, 2, 3, 4, 5, 6, 7, 8, 19] [9, 10, 11, 12, 13, 14, 15, 16, 17, 18] rfl rfl (by decide) (by decide) hk1 hFc hP1 hD1
    have hK := hK.app hK1
    generalize H1 = H at hP hS ⊢
    have hP : va_P (dC, dI) vwCl [(mo, .inr (6, [.int 0, .int 0, .int 0, .int 0, .ref m4, .ref m5, .ref m6, .ref m7, .ref m8, .ref m9, .ref m10, .ref m11, .ref m12, .int 1, .int 0, .int 0, .ref m16, .ref m17, .ref m18, .int 0, .int 0, .int 0, .int 0, .int 0, .int 0, .int 0, .int 0, .ref m27, .int 0, .ref m29, .ref m30, .ref m31])), (m4, .inl (y4, 700, .inl (fun _ => 0))), (m5, .inl (y5, 700, .inl (fun _ => 0))), (m6, .inl (y6, 700, .inl (fun _ => 0))), (m7, .inl (y7, 96, .inl (fun _ => 0))), (m8, .inl (y8, 2, .inl (upd (upd (fun _ => 0) 0 2) 1 2))), (m9, .inl (y9, 2, .inl (fun _ => 0))), (m10, .inl (y10, 2, .inl (fun _ => 0))), (m11, .inl (y11, 2, .inl (upd (upd (fun _ => 0) 0 (-1)) 1 (-1)))), (m12, .inl (y12, 4, .inl (fun _ => 0))), (ot, .inl (cL, 1, .inr (.inl u_1)))] H := hP
    have hD : va_D (fun q : Nat => s.heap.size ≤ q) [(mo, .inr (6, [.int 0, .int 0, .int 0, .int 0, .ref m4, .ref m5, .ref m6, .ref m7, .ref m8, .ref m9, .ref m10, .ref m11, .ref m12, .int 1, .int 0, .int 0, .ref m16, .ref m17, .ref m18, .int 0, .int 0, .int 0, .int 0, .int 0, .int 0, .int 0, .int 0, .ref m27, .int 0, .ref m29, .ref m30, .ref m31])), (m4, .inl (y4, 700, .inl (fun _ => 0))), (m5, .inl (y5, 700, .inl (fun _ => 0))), (m6, .inl (y6, 700, .inl (fun _ => 0))), (m7, .inl (y7, 96, .inl (fun _ => 0))), (m8, .inl (y8, 2, .inl (upd (upd (fun _ => 0) 0 2) 1 2))), (m9, .inl (y9, 2, .inl (fun _ => 0))), (m10, .inl (y10, 2, .inl (fun _ => 0))), (m11, .inl (y11, 2, .inl (upd (upd (fun _ => 0) 0 (-1)) 1 (-1)))), (m12, .inl (y12, 4, .inl (fun _ => 0))), (ot, .inl (cL, 1, .inr (.inl u_1)))] := hD
    have hK : va_K (dC, dI) vwCl [(cI, .int), (cZ, .boolean), (cB, .object "ParkTower$Bay"), (y4, .int), (y5, .int), (y6, .int), (y7, .int), (y8, .int), (y9, .int), (y10, .boolean), (y11, .int), (y12, .boolean), (cL, .long)] s := hK
    refine W.widen (k := 37) (n := 2564) (by omega) (by omega) ?_
    obtain rfl : r_1 = 0 := hw_1.1.trans (if_pos hok)
    refine lv_istore (lv' := [(5, .int 0), (4, .int 0), (3, .ref ot), (2, .ref mo), (1, .ref x), (0, .ref b)]) hx hb dL_law_587 hl (by decide) rfl (fun ls hl => ?_)
    refine lv_aload_n hx hb dL_law_589 rfl (lv_at hl 3 rfl) ?_
    refine lv_aload_n hx hb dL_law_590 rfl (lv_at hl 5 rfl) ?_
    refine lv_iload hx hb dL_law_591 (lv_at hl 1 rfl) ?_
    refine lv_iconst (v := 1) hx hb dL_law_593 (by decide) ?_
    refine lv_iadd hx hb dL_law_594 ?_
    refine pt_topi 1 (by decide) ?_
    refine va_sld hx hb hX hbl hbA hS (vp_in_iff.mpr (by decide)) dL_law_595 ?_
    refine pt_topi v1 e1 ?_
    have hPc := hP.sub (ws' := [(mo, .inr (6, [.int 0, .int 0, .int 0, .int 0, .ref m4, .ref m5, .ref m6, .ref m7, .ref m8, .ref m9, .ref m10, .ref m11, .ref m12, .int 1, .int 0, .int 0, .ref m16, .ref m17, .ref m18, .int 0, .int 0, .int 0, .int 0, .int 0, .int 0, .int 0, .int 0, .ref m27, .int 0, .ref m29, .ref m30, .ref m31])), (m4, .inl (y4, 700, .inl (fun _ => 0))), (m5, .inl (y5, 700, .inl (fun _ => 0))), (m6, .inl (y6, 700, .inl (fun _ => 0))), (m7, .inl (y7, 96, .inl (fun _ => 0))), (m8, .inl (y8, 2, .inl (upd (upd (fun _ => 0) 0 2) 1 2))), (m9, .inl (y9, 2, .inl (fun _ => 0))), (m10, .inl (y10, 2, .inl (fun _ => 0))), (m11, .inl (y11, 2, .inl (upd (upd (fun _ => 0) 0 (-1)) 1 (-1)))), (m12, .inl (y12, 4, .inl (fun _ => 0)))]) [0, 1, 2, 3, 4, 5, 6, 7, 8, 9] rfl
    have hDc := hD.sub (ws' := [(mo, .inr (6, [.int 0, .int 0, .int 0, .int 0, .ref m4, .ref m5, .ref m6, .ref m7, .ref m8, .ref m9, .ref m10, .ref m11, .ref m12, .int 1, .int 0, .int 0, .ref m16, .ref m17, .ref m18, .int 0, .int 0, .int 0, .int 0, .int 0, .int 0, .int 0, .int 0, .ref m27, .int 0, .ref m29, .ref m30, .ref m31])), (m4, .inl (y4, 700, .inl (fun _ => 0))), (m5, .inl (y5, 700, .inl (fun _ => 0))), (m6, .inl (y6, 700, .inl (fun _ => 0))), (m7, .inl (y7, 96, .inl (fun _ => 0))), (m8, .inl (y8, 2, .inl (upd (upd (fun _ => 0) 0 2) 1 2))), (m9, .inl (y9, 2, .inl (fun _ => 0))), (m10, .inl (y10, 2, .inl (fun _ => 0))), (m11, .inl (y11, 2, .inl (upd (upd (fun _ => 0) 0 (-1)) 1 (-1)))), (m12, .inl (y12, 4, .inl (fun _ => 0)))]) [0, 1, 2, 3, 4, 5, 6, 7, 8, 9] (by decide) rfl
    have hKc := hK.sub (tys' := [(y4, .int), (y5, .int), (y6, .int), (y7, .int), (y8, .int), (y9, .int), (y10, .boolean), (y11, .int), (y12, .boolean)]) [3, 4, 5, 6, 7, 8, 9, 10, 11] rfl
    have hFc := va_free (wc := [(mo, .inr (6, [.int 0, .int 0, .int 0, .int 0, .ref m4, .ref m5, .ref m6, .ref m7, .ref m8, .ref m9, .ref m10, .ref m11, .ref m12, .int 1, .int 0, .int 0, .ref m16, .ref m17, .ref m18, .int 0, .int 0, .int 0, .int 0, .int 0, .int 0, .int 0, .int 0, .ref m27, .int 0, .ref m29, .ref m30, .ref m31])), (m4, .inl (y4, 700, .inl (fun _ => 0))), (m5, .inl (y5, 700, .inl (fun _ => 0))), (m6, .inl (y6, 700, .inl (fun _ => 0))), (m7, .inl (y7, 96, .inl (fun _ => 0))), (m8, .inl (y8, 2, .inl (upd (upd (fun _ => 0) 0 2) 1 2))), (m9, .inl (y9, 2, .inl (fun _ => 0))), (m10, .inl (y10, 2, .inl (fun _ => 0))), (m11, .inl (y11, 2, .inl (upd (upd (fun _ => 0) 0 (-1)) 1 (-1)))), (m12, .inl (y12, 4, .inl (fun _ => 0)))]) hD hS hA [0, 1, 2, 3, 4, 5, 6, 7, 8, 9] rfl
    refine va_calli (va_runV (As := [.int v1]) (rest := []) ⟨hx, hb, hml, hown, hts⟩ (m_cell l dC dI _ mo m4 m5 m6 m7 m8 m9 m10 m11 m12 m16 m17 m18 m27 m29 m30 m31 y4 y5 y6 y7 y8 y9 y10 y11 y12 v1 ⟨hok.1, pt_95.mp hok.2⟩ (pt_vin hok.1 hok.2 rfl)) (cwV 1 hts gk_X8_cell rfl rfl rfl (by decide +kernel) ⟨Nat.le_of_ble_eq_true rfl, Nat.le_of_ble_eq_true rfl⟩) ⟨pt_blindQ, va_recv hK hP (ci := 6) (q0 := 0) rfl rfl, pt_preQ hPc hKc hDc hN⟩ rfl rfl hl.1 rfl (lv_room (Nat.le_of_ble_eq_true rfl)) dL_law_596 ⟨Nat.le_of_ble_eq_true rfl, Nat.le_of_ble_eq_true rfl⟩) hS (fun q _ h => hFc q h) hFc (fun r_2 u_2 t H1 locs ht hvm hw_2 hB hz1 hk1 hS => ?_)
    obtain ⟨hP1, hK1, hD1⟩ := hB
    rw [ht] at hP1
    have hK1 := va_K.moved hvm.symm hK1
    obtain ⟨hP, hD⟩ := va_join (wr := [(ot, .inl (cL, 1, .inr (.inl u_1)))]) (w1 := [(mo, .inr (6, .int u_2.1 :: u_2.2))]) hP hD [0, 1, 2, 3, 4, 5, 6, 7, 8, 9] [10] rfl rfl (by decide) (by decide) hk1 hFc hP1 hD1
    have hK := hK.app hK1
    generalize H1 = H at hP hS ⊢
    have hP : va_P (dC, dI) vwCl [(ot, .inl (cL, 1, .inr (.inl u_1))), (mo, .inr (6, .int u_2.1 :: u_2.2))] H := hP
    have hD : va_D (fun q : Nat => s.heap.size ≤ q) [(ot, .inl (cL, 1, .inr (.inl u_1))), (mo, .inr (6, .int u_2.1 :: u_2.2))] := hD
    have hK : va_K (dC, dI) vwCl [(cI, .int), (cZ, .boolean), (cB, .object "ParkTower$Bay"), (y4, .int), (y5, .int), (y6, .int), (y7, .int), (y8, .int), (y9, .int), (y10, .boolean), (y11, .int), (y12, .boolean), (cL, .long)] s := hK
    refine W.widen (k := 37) (n := 2564) (by omega) (by omega) ?_
    refine lv_istore (lv' := [(6, .int r_2), (5, .int 0), (4, .int 0), (3, .ref ot), (2, .ref mo), (1, .ref x), (0, .ref b)]) hx hb dL_law_599 hl (by decide) rfl (fun ls hl => ?_)
    refine lv_aload_n hx hb dL_law_601 rfl (lv_at hl 4 rfl) ?_
    refine pt_cSi (va_runV (As := []) (rest := []) ⟨hx, hb, hml, hown, hts⟩ (c_thrown l dC dI mo u_2.1 u_2.2) (cwV 0 hts gk_X8_thrown rfl rfl rfl (by decide +kernel) ⟨Nat.le_of_ble_eq_true rfl, Nat.le_of_ble_eq_true rfl⟩) ⟨pt_blind, va_recv hK hP (ci := 6) (q0 := 1) rfl rfl, pt_pre (w := [(mo, .inr (6, .int u_2.1 :: u_2.2))]) (tys := []) (hP.sub [1] rfl) (hK.sub [] rfl) hN⟩ rfl rfl hl.1 rfl (lv_room (Nat.le_of_ble_eq_true rfl)) dL_law_602 ⟨Nat.le_of_ble_eq_true rfl, Nat.le_of_ble_eq_true rfl⟩) (fun r_3 hr_3 => ?_)
    obtain rfl : r_3 = 0 := hr_3.trans hw_2.1
    refine lv_iload hx hb dL_law_605 (lv_at hl 1 rfl) ?_
    refine lv_icmp_eq (tgt := 612) hx hb dL_law_607 (by decide) (fun _ => ?_) (fun c => absurd (by decide) c)
    refine lv_iload hx hb dL_law_612 (lv_at hl 1 rfl) ?_
    refine lv_if_ne (tgt := 629) hx hb dL_law_614 (by decide) (fun c => absurd (by decide) c) (fun _ => ?_)
    refine lv_aload_n hx hb dL_law_617 rfl (lv_at hl 3 rfl) ?_
    refine lv_iconst (v := 0) hx hb dL_law_618 (by decide) ?_
    refine va_lald hx hb hK hP 0 12 rfl rfl (vp_in_iff.mpr (by decide)) dL_law_619 ?_
    refine lv_iload hx hb dL_law_620 (lv_at hl 0 rfl) ?_
    refine lv_i2l (v := r_2.toInt64) hx hb dL_law_622 rfl ?_
    refine W.lcmp hx hb dL_law_623 ?_
    refine pt_topi 0 (pt_cmp ((hw_1.2 rfl).trans (congrArg Int32.toInt64 (hw_2.2 hw_2.1).symm))) ?_
    refine lv_if_eq (tgt := 629) hx hb dL_law_624 (by decide) (fun _ => ?_) (fun c => absurd (by decide) c)
    refine lv_goto (tgt := 824) hx hb dL_law_629 (by decide) ?_
    exact law_end l C0 (Nat.le_of_ble_eq_true rfl) (Nat.le_of_ble_eq_true rfl) hS ls (lv_sub hl [2, 6] rfl)
  · skip
    refine lv_aload_n hx hb dL_law_576 rfl (lv_at hl 3 rfl) ?_
    refine lv_aload_n hx hb dL_law_577 rfl (lv_at hl 4 rfl) ?_
    refine lv_iload hx hb dL_law_578 (lv_at hl 0 rfl) ?_
    refine lv_iconst (v := 1) hx hb dL_law_580 (by decide) ?_
    refine lv_iadd hx hb dL_law_581 ?_
    refine pt_topi 1 (by decide) ?_
    refine va_sld hx hb hX hbl hbA hS (vp_in_iff.mpr (by decide)) dL_law_582 ?_
    refine pt_topi v1 e1 ?_
    refine lv_aload_n hx hb dL_law_583 rfl (lv_at hl 1 rfl) ?_
    have hPc := hP.sub (ws' := [(x, .inr (5, [.ref rk, .ref bs, .ref od, .ref jb, .ref ap, .int 0, .int 1, .int 0, .int 0, .int 0])), (rk, .inr (4, [.ref hd, .ref jm])), (hd, .inl (cI, 96, .inl (fun _ => 0))), (jm, .inl (cZ, 4, .inl (fun _ => 0))), (bs, .inl (cB, 2, .inr (.inr (.inr (.inr (va_up (va_up (fun _ => none) 0 (some b0)) 1 (some b1))))))), (b0, .inr (0, [.int 2, .int 0, .int 0, .int 0, .int 0, .int (-1)])), (b1, .inr (0, [.int 2, .int 0, .int 0, .int 0, .int 0, .int (-1)])), (od, .inr (2, [.ref o1, .ref o2, .ref o3, .int 0])), (jb, .inr (1, [.ref pl, .int (-1), .int 0, .int 0, .int 0])), (ot, .inl (cL, 1, .inr (.inl (fun _ => 0))))]) [0, 1, 2, 3, 4, 5, 6, 7, 8, 19] rfl
    have hDc := hD.sub (ws' := [(x, .inr (5, [.ref rk, .ref bs, .ref od, .ref jb, .ref ap, .int 0, .int 1, .int 0, .int 0, .int 0])), (rk, .inr (4, [.ref hd, .ref jm])), (hd, .inl (cI, 96, .inl (fun _ => 0))), (jm, .inl (cZ, 4, .inl (fun _ => 0))), (bs, .inl (cB, 2, .inr (.inr (.inr (.inr (va_up (va_up (fun _ => none) 0 (some b0)) 1 (some b1))))))), (b0, .inr (0, [.int 2, .int 0, .int 0, .int 0, .int 0, .int (-1)])), (b1, .inr (0, [.int 2, .int 0, .int 0, .int 0, .int 0, .int (-1)])), (od, .inr (2, [.ref o1, .ref o2, .ref o3, .int 0])), (jb, .inr (1, [.ref pl, .int (-1), .int 0, .int 0, .int 0])), (ot, .inl (cL, 1, .inr (.inl (fun _ => 0))))]) [0, 1, 2, 3, 4, 5, 6, 7, 8, 19] (by decide) rfl
    have hKc := hK.sub (tys' := [(cI, .int), (cZ, .boolean), (cB, .object "ParkTower$Bay"), (cL, .long)]) [0, 1, 2, 12] rfl
    have hFc := va_free (wc := [(x, .inr (5, [.ref rk, .ref bs, .ref od, .ref jb, .ref ap, .int 0, .int 1, .int 0, .int 0, .int 0])), (rk, .inr (4, [.ref hd, .ref jm])), (hd, .inl (cI, 96, .inl (fun _ => 0))), (jm, .inl (cZ, 4, .inl (fun _ => 0))), (bs, .inl (cB, 2, .inr (.inr (.inr (.inr (va_up (va_up (fun _ => none) 0 (some b0)) 1 (some b1))))))), (b0, .inr (0, [.int 2, .int 0, .int 0, .int 0, .int 0, .int (-1)])), (b1, .inr (0, [.int 2, .int 0, .int 0, .int 0, .int 0, .int (-1)])), (od, .inr (2, [.ref o1, .ref o2, .ref o3, .int 0])), (jb, .inr (1, [.ref pl, .int (-1), .int 0, .int 0, .int 0])), (ot, .inl (cL, 1, .inr (.inl (fun _ => 0))))]) hD hS hA [0, 1, 2, 3, 4, 5, 6, 7, 8, 19] rfl
    refine va_calli (vx_runSW (As := [.ref x, .int v1, .ref ot]) (rest := []) ⟨hx, hb, hml, hown, hts⟩ (w_cell l hlt dC dI _ x rk hd jm bs b0 b1 od o1 o2 o3 jb pl ap cI cZ cB ot cL (fun _ => 0) v1) (vx_cwSW 3 hts gk_L_cell rfl rfl rfl (by decide +kernel) ⟨Nat.le_of_ble_eq_true rfl, Nat.le_of_ble_eq_true rfl⟩) ⟨pt_blindT, pt_preT hPc hKc hDc hN hE (pt_Z.up hZ (fun q h1 h2 => hS.2.1 q h1 h2) hS.1)⟩ rfl rfl hl.1 rfl (lv_room (Nat.le_of_ble_eq_true rfl)) dL_law_584 ⟨Nat.le_of_ble_eq_true rfl, Nat.le_of_ble_eq_true rfl⟩) hS (fun q _ h => hFc q h) hFc (fun r_4 u_4 t H1 locs ht hvm hw_4 hB hz1 hk1 hS => ?_)
    obtain ⟨hP1, hK1, hD1⟩ := hB
    rw [ht] at hP1
    have hK1 := va_K.moved hvm.symm hK1
    obtain ⟨hP, hD⟩ := va_join (wr := [(mo, .inr (6, [.int 0, .int 0, .int 0, .int 0, .ref m4, .ref m5, .ref m6, .ref m7, .ref m8, .ref m9, .ref m10, .ref m11, .ref m12, .int 1, .int 0, .int 0, .ref m16, .ref m17, .ref m18, .int 0, .int 0, .int 0, .int 0, .int 0, .int 0, .int 0, .int 0, .ref m27, .int 0, .ref m29, .ref m30, .ref m31])), (m4, .inl (y4, 700, .inl (fun _ => 0))), (m5, .inl (y5, 700, .inl (fun _ => 0))), (m6, .inl (y6, 700, .inl (fun _ => 0))), (m7, .inl (y7, 96, .inl (fun _ => 0))), (m8, .inl (y8, 2, .inl (upd (upd (fun _ => 0) 0 2) 1 2))), (m9, .inl (y9, 2, .inl (fun _ => 0))), (m10, .inl (y10, 2, .inl (fun _ => 0))), (m11, .inl (y11, 2, .inl (upd (upd (fun _ => 0) 0 (-1)) 1 (-1)))), (m12, .inl (y12, 4, .inl (fun _ => 0)))]) (w1 := [(ot, .inl (cL, 1, .inr (.inl u_4)))]) hP hD [0, 1, 2, 3, 4, 5, 6, 7, 8, 19] [9, 10, 11, 12, 13, 14, 15, 16, 17, 18] rfl rfl (by decide) (by decide) hk1 hFc hP1 hD1
    have hK := hK.app hK1
    generalize H1 = H at hP hS ⊢
    have hP : va_P (dC, dI) vwCl [(mo, .inr (6, [.int 0, .int 0, .int 0, .int 0, .ref m4, .ref m5, .ref m6, .ref m7, .ref m8, .ref m9, .ref m10, .ref m11, .ref m12, .int 1, .int 0, .int 0, .ref m16, .ref m17, .ref m18, .int 0, .int 0, .int 0, .int 0, .int 0, .int 0, .int 0, .int 0, .ref m27, .int 0, .ref m29, .ref m30, .ref m31])), (m4, .inl (y4, 700, .inl (fun _ => 0))), (m5, .inl (y5, 700, .inl (fun _ => 0))), (m6, .inl (y6, 700, .inl (fun _ => 0))), (m7, .inl (y7, 96, .inl (fun _ => 0))), (m8, .inl (y8, 2, .inl (upd (upd (fun _ => 0) 0 2) 1 2))), (m9, .inl (y9, 2, .inl (fun _ => 0))), (m10, .inl (y10, 2, .inl (fun _ => 0))), (m11, .inl (y11, 2, .inl (upd (upd (fun _ => 0) 0 (-1)) 1 (-1)))), (m12, .inl (y12, 4, .inl (fun _ => 0))), (ot, .inl (cL, 1, .inr (.inl u_4)))] H := hP
    have hD : va_D (fun q : Nat => s.heap.size ≤ q) [(mo, .inr (6, [.int 0, .int 0, .int 0, .int 0, .ref m4, .ref m5, .ref m6, .ref m7, .ref m8, .ref m9, .ref m10, .ref m11, .ref m12, .int 1, .int 0, .int 0, .ref m16, .ref m17, .ref m18, .int 0, .int 0, .int 0, .int 0, .int 0, .int 0, .int 0, .int 0, .ref m27, .int 0, .ref m29, .ref m30, .ref m31])), (m4, .inl (y4, 700, .inl (fun _ => 0))), (m5, .inl (y5, 700, .inl (fun _ => 0))), (m6, .inl (y6, 700, .inl (fun _ => 0))), (m7, .inl (y7, 96, .inl (fun _ => 0))), (m8, .inl (y8, 2, .inl (upd (upd (fun _ => 0) 0 2) 1 2))), (m9, .inl (y9, 2, .inl (fun _ => 0))), (m10, .inl (y10, 2, .inl (fun _ => 0))), (m11, .inl (y11, 2, .inl (upd (upd (fun _ => 0) 0 (-1)) 1 (-1)))), (m12, .inl (y12, 4, .inl (fun _ => 0))), (ot, .inl (cL, 1, .inr (.inl u_4)))] := hD
    have hK : va_K (dC, dI) vwCl [(cI, .int), (cZ, .boolean), (cB, .object "ParkTower$Bay"), (y4, .int), (y5, .int), (y6, .int), (y7, .int), (y8, .int), (y9, .int), (y10, .boolean), (y11, .int), (y12, .boolean), (cL, .long)] s := hK
    refine W.widen (k := 37) (n := 2564) (by omega) (by omega) ?_
    obtain rfl : r_4 = 1 := hw_4.1.trans (if_neg hok)
    refine lv_istore (lv' := [(5, .int 1), (4, .int 0), (3, .ref ot), (2, .ref mo), (1, .ref x), (0, .ref b)]) hx hb dL_law_587 hl (by decide) rfl (fun ls hl => ?_)
    refine lv_aload_n hx hb dL_law_589 rfl (lv_at hl 3 rfl) ?_
    refine lv_aload_n hx hb dL_law_590 rfl (lv_at hl 5 rfl) ?_
    refine lv_iload hx hb dL_law_591 (lv_at hl 1 rfl) ?_
    refine lv_iconst (v := 1) hx hb dL_law_593 (by decide) ?_
    refine lv_iadd hx hb dL_law_594 ?_
    refine pt_topi 1 (by decide) ?_
    refine va_sld hx hb hX hbl hbA hS (vp_in_iff.mpr (by decide)) dL_law_595 ?_
    refine pt_topi v1 e1 ?_
    have hPc := hP.sub (ws' := [(mo, .inr (6, [.int 0, .int 0, .int 0, .int 0, .ref m4, .ref m5, .ref m6, .ref m7, .ref m8, .ref m9, .ref m10, .ref m11, .ref m12, .int 1, .int 0, .int 0, .ref m16, .ref m17, .ref m18, .int 0, .int 0, .int 0, .int 0, .int 0, .int 0, .int 0, .int 0, .ref m27, .int 0, .ref m29, .ref m30, .ref m31])), (m4, .inl (y4, 700, .inl (fun _ => 0))), (m5, .inl (y5, 700, .inl (fun _ => 0))), (m6, .inl (y6, 700, .inl (fun _ => 0))), (m7, .inl (y7, 96, .inl (fun _ => 0))), (m8, .inl (y8, 2, .inl (upd (upd (fun _ => 0) 0 2) 1 2))), (m9, .inl (y9, 2, .inl (fun _ => 0))), (m10, .inl (y10, 2, .inl (fun _ => 0))), (m11, .inl (y11, 2, .inl (upd (upd (fun _ => 0) 0 (-1)) 1 (-1)))), (m12, .inl (y12, 4, .inl (fun _ => 0)))]) [0, 1, 2, 3, 4, 5, 6, 7, 8, 9] rfl
    have hDc := hD.sub (ws' := [(mo, .inr (6, [.int 0, .int 0, .int 0, .int 0, .ref m4, .ref m5, .ref m6, .ref m7, .ref m8, .ref m9, .ref m10, .ref m11, .ref m12, .int 1, .int 0, .int 0, .ref m16, .ref m17, .ref m18, .int 0, .int 0, .int 0, .int 0, .int 0, .int 0, .int 0, .int 0, .ref m27, .int 0, .ref m29, .ref m30, .ref m31])), (m4, .inl (y4, 700, .inl (fun _ => 0))), (m5, .inl (y5, 700, .inl (fun _ => 0))), (m6, .inl (y6, 700, .inl (fun _ => 0))), (m7, .inl (y7, 96, .inl (fun _ => 0))), (m8, .inl (y8, 2, .inl (upd (upd (fun _ => 0) 0 2) 1 2))), (m9, .inl (y9, 2, .inl (fun _ => 0))), (m10, .inl (y10, 2, .inl (fun _ => 0))), (m11, .inl (y11, 2, .inl (upd (upd (fun _ => 0) 0 (-1)) 1 (-1)))), (m12, .inl (y12, 4, .inl (fun _ => 0)))]) [0, 1, 2, 3, 4, 5, 6, 7, 8, 9] (by decide) rfl
    have hKc := hK.sub (tys' := [(y4, .int), (y5, .int), (y6, .int), (y7, .int), (y8, .int), (y9, .int), (y10, .boolean), (y11, .int), (y12, .boolean)]) [3, 4, 5, 6, 7, 8, 9, 10, 11] rfl
    have hFc := va_free (wc := [(mo, .inr (6, [.int 0, .int 0, .int 0, .int 0, .ref m4, .ref m5, .ref m6, .ref m7, .ref m8, .ref m9, .ref m10, .ref m11, .ref m12, .int 1, .int 0, .int 0, .ref m16, .ref m17, .ref m18, .int 0, .int 0, .int 0, .int 0, .int 0, .int 0, .int 0, .int 0, .ref m27, .int 0, .ref m29, .ref m30, .ref m31])), (m4, .inl (y4, 700, .inl (fun _ => 0))), (m5, .inl (y5, 700, .inl (fun _ => 0))), (m6, .inl (y6, 700, .inl (fun _ => 0))), (m7, .inl (y7, 96, .inl (fun _ => 0))), (m8, .inl (y8, 2, .inl (upd (upd (fun _ => 0) 0 2) 1 2))), (m9, .inl (y9, 2, .inl (fun _ => 0))), (m10, .inl (y10, 2, .inl (fun _ => 0))), (m11, .inl (y11, 2, .inl (upd (upd (fun _ => 0) 0 (-1)) 1 (-1)))), (m12, .inl (y12, 4, .inl (fun _ => 0)))]) hD hS hA [0, 1, 2, 3, 4, 5, 6, 7, 8, 9] rfl
    refine va_calli (va_runV (As := [.int v1]) (rest := []) ⟨hx, hb, hml, hown, hts⟩ (m_cellX l dC dI _ mo m4 m5 m6 m7 m8 m9 m10 m11 m12 m16 m17 m18 m27 m29 m30 m31 y4 y5 y6 y7 y8 y9 y10 y11 y12 v1 (fun q => hok ⟨q.1, pt_95.mpr q.2⟩)) (cwV 1 hts gk_X8_cell rfl rfl rfl (by decide +kernel) ⟨Nat.le_of_ble_eq_true rfl, Nat.le_of_ble_eq_true rfl⟩) ⟨pt_blindQ, va_recv hK hP (ci := 6) (q0 := 0) rfl rfl, pt_preQ hPc hKc hDc hN⟩ rfl rfl hl.1 rfl (lv_room (Nat.le_of_ble_eq_true rfl)) dL_law_596 ⟨Nat.le_of_ble_eq_true rfl, Nat.le_of_ble_eq_true rfl⟩) hS (fun q _ h => hFc q h) hFc (fun r_5 u_5 t H1 locs ht hvm hw_5 hB hz1 hk1 hS => ?_)
    obtain ⟨hP1, hK1, hD1⟩ := hB
    rw [ht] at hP1
    have hK1 := va_K.moved hvm.symm hK1
    obtain ⟨hP, hD⟩ := va_join (wr := [(ot, .inl (cL, 1, .inr (.inl u_4)))]) (w1 := [(mo, .inr (6, .int u_5.1 :: u_5.2))]) hP hD [0, 1, 2, 3, 4, 5, 6, 7, 8, 9] [10] rfl rfl (by decide) (by decide) hk1 hFc hP1 hD1
    have hK := hK.app hK1
    generalize H1 = H at hP hS ⊢
    have hP : va_P (dC, dI) vwCl [(ot, .inl (cL, 1, .inr (.inl u_4))), (mo, .inr (6, .int u_5.1 :: u_5.2))] H := hP
    have hD : va_D (fun q : Nat => s.heap.size ≤ q) [(ot, .inl (cL, 1, .inr (.inl u_4))), (mo, .inr (6, .int u_5.1 :: u_5.2))] := hD
    have hK : va_K (dC, dI) vwCl [(cI, .int), (cZ, .boolean), (cB, .object "ParkTower$Bay"), (y4, .int), (y5, .int), (y6, .int), (y7, .int), (y8, .int), (y9, .int), (y10, .boolean), (y11, .int), (y12, .boolean), (cL, .long)] s := hK
    refine W.widen (k := 37) (n := 2564) (by omega) (by omega) ?_
    refine lv_istore (lv' := [(6, .int r_5), (5, .int 1), (4, .int 0), (3, .ref ot), (2, .ref mo), (1, .ref x), (0, .ref b)]) hx hb dL_law_599 hl (by decide) rfl (fun ls hl => ?_)
    refine lv_aload_n hx hb dL_law_601 rfl (lv_at hl 4 rfl) ?_
    refine pt_cSi (va_runV (As := []) (rest := []) ⟨hx, hb, hml, hown, hts⟩ (c_thrown l dC dI mo u_5.1 u_5.2) (cwV 0 hts gk_X8_thrown rfl rfl rfl (by decide +kernel) ⟨Nat.le_of_ble_eq_true rfl, Nat.le_of_ble_eq_true rfl⟩) ⟨pt_blind, va_recv hK hP (ci := 6) (q0 := 1) rfl rfl, pt_pre (w := [(mo, .inr (6, .int u_5.1 :: u_5.2))]) (tys := []) (hP.sub [1] rfl) (hK.sub [] rfl) hN⟩ rfl rfl hl.1 rfl (lv_room (Nat.le_of_ble_eq_true rfl)) dL_law_602 ⟨Nat.le_of_ble_eq_true rfl, Nat.le_of_ble_eq_true rfl⟩) (fun r_6 hr_6 => ?_)
    obtain rfl : r_6 = 1 := hr_6.trans hw_5.1
    refine lv_iload hx hb dL_law_605 (lv_at hl 1 rfl) ?_
    refine lv_icmp_eq (tgt := 612) hx hb dL_law_607 (by decide) (fun _ => ?_) (fun c => absurd (by decide) c)
    refine lv_iload hx hb dL_law_612 (lv_at hl 1 rfl) ?_
    refine lv_if_ne (tgt := 629) hx hb dL_law_614 (by decide) (fun _ => ?_) (fun c => absurd c (by decide))
    refine lv_goto (tgt := 824) hx hb dL_law_629 (by decide) ?_
    exact law_end l C0 (Nat.le_of_ble_eq_true rfl) (Nat.le_of_ble_eq_true rfl) hS ls (lv_sub hl [2, 6] rfl)
set_option maxHeartbeats 4000000 in
set_option maxRecDepth 100000 in
theorem law_plan {p : Program} {e : Env} {s : State} {m : MethodId} {below : List Frame} {meth : Method} {c : Code} (l : Launch) (hlt : l.stackTraces = false) {b : Nat} {xs : Nat → Int32} (C0 : lw_At p s m meth c b 5 xs) (dC : Nat → ClassId) (dI : Nat → Nat → Nat) (x rk hd jm bs b0 b1 od o1 o2 o3 jb pl ap : Nat) (cI cZ cB : ClassId) (mo m4 m5 m6 m7 m8 m9 m10 m11 m12 m16 m17 m18 m27 m29 m30 m31 : Nat) (y4 y5 y6 y7 y8 y9 y10 y11 y12 : ClassId) (ot : Nat) (cL : ClassId) (H : Heap) (locs : List Loc) (hN : pt_N s) (hE : pt_E s) (hZ : pt_Z s.heap.size s s.heap) (hK : va_K (dC, dI) vwCl [(cI, .int), (cZ, .boolean), (cB, .object "ParkTower$Bay"), (y4, .int), (y5, .int), (y6, .int), (y7, .int), (y8, .int), (y9, .int), (y10, .boolean), (y11, .int), (y12, .boolean), (cL, .long)] s) (hP : va_P (dC, dI) vwCl [(x, .inr (5, [.ref rk, .ref bs, .ref od, .ref jb, .ref ap, .int 0, .int 1, .int 0, .int 0, .int 0])), (rk, .inr (4, [.ref hd, .ref jm])), (hd, .inl (cI, 96, .inl (fun _ => 0))), (jm, .inl (cZ, 4, .inl (fun _ => 0))), (bs, .inl (cB, 2, .inr (.inr (.inr (.inr (va_up (va_up (fun _ => none) 0 (some b0)) 1 (some b1))))))), (b0, .inr (0, [.int 2, .int 0, .int 0, .int 0, .int 0, .int (-1)])), (b1, .inr (0, [.int 2, .int 0, .int 0, .int 0, .int 0, .int (-1)])), (od, .inr (2, [.ref o1, .ref o2, .ref o3, .int 0])), (jb, .inr (1, [.ref pl, .int (-1), .int 0, .int 0, .int 0])), (mo, .inr (6, [.int 0, .int 0, .int 0, .int 0, .ref m4, .ref m5, .ref m6, .ref m7, .ref m8, .ref m9, .ref m10, .ref m11, .ref m12, .int 1, .int 0, .int 0, .ref m16, .ref m17, .ref m18, .int 0, .int 0, .int 0, .int 0, .int 0, .int 0, .int 0, .int 0, .ref m27, .int 0, .ref m29, .ref m30, .ref m31])), (m4, .inl (y4, 700, .inl (fun _ => 0))), (m5, .inl (y5, 700, .inl (fun _ => 0))), (m6, .inl (y6, 700, .inl (fun _ => 0))), (m7, .inl (y7, 96, .inl (fun _ => 0))), (m8, .inl (y8, 2, .inl (upd (upd (fun _ => 0) 0 2) 1 2))), (m9, .inl (y9, 2, .inl (fun _ => 0))), (m10, .inl (y10, 2, .inl (fun _ => 0))), (m11, .inl (y11, 2, .inl (upd (upd (fun _ => 0) 0 (-1)) 1 (-1)))), (m12, .inl (y12, 4, .inl (fun _ => 0))), (ot, .inl (cL, 1, .inr (.inl (fun _ => 0))))] H) (hD : va_D (fun q : Nat => s.heap.size ≤ q) [(x, .inr (5, [.ref rk, .ref bs, .ref od, .ref jb, .ref ap, .int 0, .int 1, .int 0, .int 0, .int 0])), (rk, .inr (4, [.ref hd, .ref jm])), (hd, .inl (cI, 96, .inl (fun _ => 0))), (jm, .inl (cZ, 4, .inl (fun _ => 0))), (bs, .inl (cB, 2, .inr (.inr (.inr (.inr (va_up (va_up (fun _ => none) 0 (some b0)) 1 (some b1))))))), (b0, .inr (0, [.int 2, .int 0, .int 0, .int 0, .int 0, .int (-1)])), (b1, .inr (0, [.int 2, .int 0, .int 0, .int 0, .int 0, .int (-1)])), (od, .inr (2, [.ref o1, .ref o2, .ref o3, .int 0])), (jb, .inr (1, [.ref pl, .int (-1), .int 0, .int 0, .int 0])), (mo, .inr (6, [.int 0, .int 0, .int 0, .int 0, .ref m4, .ref m5, .ref m6, .ref m7, .ref m8, .ref m9, .ref m10, .ref m11, .ref m12, .int 1, .int 0, .int 0, .ref m16, .ref m17, .ref m18, .int 0, .int 0, .int 0, .int 0, .int 0, .int 0, .int 0, .int 0, .ref m27, .int 0, .ref m29, .ref m30, .ref m31])), (m4, .inl (y4, 700, .inl (fun _ => 0))), (m5, .inl (y5, 700, .inl (fun _ => 0))), (m6, .inl (y6, 700, .inl (fun _ => 0))), (m7, .inl (y7, 96, .inl (fun _ => 0))), (m8, .inl (y8, 2, .inl (upd (upd (fun _ => 0) 0 2) 1 2))), (m9, .inl (y9, 2, .inl (fun _ => 0))), (m10, .inl (y10, 2, .inl (fun _ => 0))), (m11, .inl (y11, 2, .inl (upd (upd (fun _ => 0) 0 (-1)) 1 (-1)))), (m12, .inl (y12, 4, .inl (fun _ => 0))), (ot, .inl (cL, 1, .inr (.inl (fun _ => 0))))]) (hS : va_S (fun q : Nat => s.heap.size ≤ q) s.heap H locs) (ls : Array Slot) (hl : lv_has ls 7 [(4, .int 0), (3, .ref ot), (2, .ref mo), (1, .ref x), (0, .ref b)]) : W p l e room_1 s m #[Value.ref b] below meth c H locs 36 2558 (lw_Z below #[Value.ref b] s) (F0 m 632 ls []) := by
  obtain ⟨hx, hb, hr, hml, hown, hts, hX, hbl, hlocks, hgv⟩ := id C0
  have hbA : ¬ (fun q : Nat => s.heap.size ≤ q) b := Nat.not_le.mpr hbl
  have hA : ∀ q : Nat, s.heap.size ≤ q → (fun q : Nat => s.heap.size ≤ q) q := fun _ h => h
  obtain ⟨v1, e1⟩ : ∃ z, xs 1 = z := ⟨_, rfl⟩
  obtain ⟨v2, e2⟩ : ∃ z, xs 2 = z := ⟨_, rfl⟩
  refine lv_aload_n hx hb dL_law_632 rfl (lv_at hl 3 rfl) ?_
  refine lv_aload_n hx hb dL_law_633 rfl (lv_at hl 4 rfl) ?_
  refine lv_iload hx hb dL_law_634 (lv_at hl 0 rfl) ?_
  refine lv_iconst (v := 1) hx hb dL_law_636 (by decide) ?_
  refine lv_iadd hx hb dL_law_637 ?_
  refine pt_topi 1 (by decide) ?_
  refine va_sld hx hb hX hbl hbA hS (vp_in_iff.mpr (by decide)) dL_law_638 ?_
  refine pt_topi v1 e1 ?_
  refine lv_aload_n hx hb dL_law_639 rfl (lv_at hl 4 rfl) ?_
  refine lv_iload hx hb dL_law_640 (lv_at hl 0 rfl) ?_
  refine lv_iconst (v := 2) hx hb dL_law_642 (by decide) ?_
  refine lv_iadd hx hb dL_law_643 ?_
  refine pt_topi 2 (by decide) ?_
  refine va_sld hx hb hX hbl hbA hS (vp_in_iff.mpr (by decide)) dL_law_644 ?_
  refine pt_topi v2 e2 ?_
  refine lv_aload_n hx hb dL_law_645 rfl (lv_at hl 1 rfl) ?_
  have hPc := hP.sub (ws' := [(x, .inr (5, [.ref rk, .ref bs, .ref od, .ref jb, .ref ap, .int 0, .int 1, .int 0, .int 0, .int 0])), (rk, .inr (4, [.ref hd, .ref jm])), (hd, .inl (cI, 96, .inl (fun _ => 0))), (jm, .inl (cZ, 4, .inl (fun _ => 0))), (bs, .inl (cB, 2, .inr (.inr (.inr (.inr (va_up (va_up (fun _ => none) 0 (some b0)) 1 (some b1))))))), (b0, .inr (0, [.int 2, .int 0, .int 0, .int 0, .int 0, .int (-1)])), (b1, .inr (0, [.int 2, .int 0, .int 0, .int 0, .int 0, .int (-1)])), (od, .inr (2, [.ref o1, .ref o2, .ref o3, .int 0])), (jb, .inr (1, [.ref pl, .int (-1), .int 0, .int 0, .int 0])), (ot, .inl (cL, 1, .inr (.inl (fun _ => 0))))]) [0, 1, 2, 3, 4, 5, 6, 7, 8, 19] rfl
  have hDc := hD.sub (ws' := [(x, .inr (5, [.ref rk, .ref bs, .ref od, .ref jb, .ref ap, .int 0, .int 1, .int 0, .int 0, .int 0])), (rk, .inr (4, [.ref hd, .ref jm])), (hd, .inl (cI, 96, .inl (fun _ => 0))), (jm, .inl (cZ, 4, .inl (fun _ => 0))), (bs, .inl (cB, 2, .inr (.inr (.inr (.inr (va_up (va_up (fun _ => none) 0 (some b0)) 1 (some b1))))))), (b0, .inr (0, [.int 2, .int 0, .int 0, .int 0, .int 0, .int (-1)])), (b1, .inr (0, [.int 2, .int 0, .int 0, .int 0, .int 0, .int (-1)])), (od, .inr (2, [.ref o1, .ref o2, .ref o3, .int 0])), (jb, .inr (1, [.ref pl, .int (-1), .int 0, .int 0, .int 0])), (ot, .inl (cL, 1, .inr (.inl (fun _ => 0))))]) [0, 1, 2, 3, 4, 5, 6, 7, 8, 19] (by decide) rfl
  have hKc := hK.sub (tys' := [(cI, .int), (cZ, .boolean), (cB, .object "ParkTower$Bay"), (cL, .long)]) [0, 1, 2, 12] rfl
  have hFc := va_free (wc := [(x, .inr (5, [.ref rk, .ref bs, .ref od, .ref jb, .ref ap, .int 0, .int 1, .int 0, .int 0, .int 0])), (rk, .inr (4, [.ref hd, .ref jm])), (hd, .inl (cI, 96, .inl (fun _ => 0))), (jm, .inl (cZ, 4, .inl (fun _ => 0))), (bs, .inl (cB, 2, .inr (.inr (.inr (.inr (va_up (va_up (fun _ => none) 0 (some b0)) 1 (some b1))))))), (b0, .inr (0, [.int 2, .int 0, .int 0, .int 0, .int 0, .int (-1)])), (b1, .inr (0, [.int 2, .int 0, .int 0, .int 0, .int 0, .int (-1)])), (od, .inr (2, [.ref o1, .ref o2, .ref o3, .int 0])), (jb, .inr (1, [.ref pl, .int (-1), .int 0, .int 0, .int 0])), (ot, .inl (cL, 1, .inr (.inl (fun _ => 0))))]) hD hS hA [0, 1, 2, 3, 4, 5, 6, 7, 8, 19] rfl
  refine va_calli (vx_runSW (As := [.ref x, .int v1, .int v2, .ref ot]) (rest := []) ⟨hx, hb, hml, hown, hts⟩ (w_plan l hlt dC dI _ x rk hd jm bs b0 b1 od o1 o2 o3 jb pl ap cI cZ cB ot cL (fun _ => 0) v1 v2) (vx_cwSW 4 hts gk_L_plan rfl rfl rfl (by decide +kernel) ⟨Nat.le_of_ble_eq_true rfl, Nat.le_of_ble_eq_true rfl⟩) ⟨pt_blindT, pt_preT hPc hKc hDc hN hE (pt_Z.up hZ (fun q h1 h2 => hS.2.1 q h1 h2) hS.1)⟩ rfl rfl hl.1 rfl (lv_room (Nat.le_of_ble_eq_true rfl)) dL_law_646 ⟨Nat.le_of_ble_eq_true rfl, Nat.le_of_ble_eq_true rfl⟩) hS (fun q _ h => hFc q h) hFc (fun r_1 u_1 t H1 locs ht hvm hw_1 hB hz1 hk1 hS => ?_)
  obtain ⟨hP1, hK1, hD1⟩ := hB
  rw [ht] at hP1
  have hK1 := va_K.moved hvm.symm hK1
  obtain ⟨hP, hD⟩ := va_join (wr := [(mo, .inr (6, [.int 0, .int 0, .int 0, .int 0, .ref m4, .ref m5, .ref m6, .ref m7, .ref m8, .ref m9, .ref m10, .ref m11, .ref m12, .int 1, .int 0, .int 0, .ref m16, .ref m17, .ref m18, .int 0, .int 0, .int 0, .int 0, .int 0, .int 0, .int 0, .int 0, .ref m27, .int 0, .ref m29, .ref m30, .ref m31])), (m4, .inl (y4, 700, .inl (fun _ => 0))), (m5, .inl (y5, 700, .inl (fun _ => 0))), (m6, .inl (y6, 700, .inl (fun _ => 0))), (m7, .inl (y7, 96, .inl (fun _ => 0))), (m8, .inl (y8, 2, .inl (upd (upd (fun _ => 0) 0 2) 1 2))), (m9, .inl (y9, 2, .inl (fun _ => 0))), (m10, .inl (y10, 2, .inl (fun _ => 0))), (m11, .inl (y11, 2, .inl (upd (upd (fun _ => 0) 0 (-1)) 1 (-1)))), (m12, .inl (y12, 4, .inl (fun _ => 0)))]) (w1 := [(ot, .inl (cL, 1, .inr (.inl u_1)))]) hP hD [0, 1, 2, 3, 4, 5, 6, 7, 8, 19] [9, 10, 11, 12, 13, 14, 15, 16, 17, 18] rfl rfl (by decide) (by decide) hk1 hFc hP1 hD1
  have hK := hK.app hK1
  generalize H1 = H at hP hS ⊢
  have hP : va_P (dC, dI) vwCl [(mo, .inr (6, [.int 0, .int 0, .int 0, .int 0, .ref m4, .ref m5, .ref m6, .ref m7, .ref m8, .ref m9, .ref m10, .ref m11, .ref m12, .int 1, .int 0, .int 0, .ref m16, .ref m17, .ref m18, .int 0, .int 0, .int 0, .int 0, .int 0, .int 0, .int 0, .int 0, .ref m27, .int 0, .ref m29, .ref m30, .ref m31])), (m4, .inl (y4, 700, .inl (fun _ => 0))), (m5, .inl (y5, 700, .inl (fun _ => 0))), (m6, .inl (y6, 700, .inl (fun _ => 0))), (m7, .inl (y7, 96, .inl (fun _ => 0))), (m8, .inl (y8, 2, .inl (upd (upd (fun _ => 0) 0 2) 1 2))), (m9, .inl (y9, 2, .inl (fun _ => 0))), (m10, .inl (y10, 2, .inl (fun _ => 0))), (m11, .inl (y11, 2, .inl (upd (upd (fun _ => 0) 0 (-1)) 1 (-1)))), (m12, .inl (y12, 4, .inl (fun _ => 0))), (ot, .inl (cL, 1, .inr (.inl u_1)))] H := hP
  have hD : va_D (fun q : Nat => s.heap.size ≤ q) [(mo, .inr (6, [.int 0, .int 0, .int 0, .int 0, .ref m4, .ref m5, .ref m6, .ref m7, .ref m8, .ref m9, .ref m10, .ref m11, .ref m12, .int 1, .int 0, .int 0, .ref m16, .ref m17, .ref m18, .int 0, .int 0, .int 0, .int 0, .int 0, .int 0, .int 0, .int 0, .ref m27, .int 0, .ref m29, .ref m30, .ref m31])), (m4, .inl (y4, 700, .inl (fun _ => 0))), (m5, .inl (y5, 700, .inl (fun _ => 0))), (m6, .inl (y6, 700, .inl (fun _ => 0))), (m7, .inl (y7, 96, .inl (fun _ => 0))), (m8, .inl (y8, 2, .inl (upd (upd (fun _ => 0) 0 2) 1 2))), (m9, .inl (y9, 2, .inl (fun _ => 0))), (m10, .inl (y10, 2, .inl (fun _ => 0))), (m11, .inl (y11, 2, .inl (upd (upd (fun _ => 0) 0 (-1)) 1 (-1)))), (m12, .inl (y12, 4, .inl (fun _ => 0))), (ot, .inl (cL, 1, .inr (.inl u_1)))] := hD
  have hK : va_K (dC, dI) vwCl [(cI, .int), (cZ, .boolean), (cB, .object "ParkTower$Bay"), (y4, .int), (y5, .int), (y6, .int), (y7, .int), (y8, .int), (y9, .int), (y10, .boolean), (y11, .int), (y12, .boolean), (cL, .long)] s := hK
  refine W.widen (k := 37) (n := 2564) (by omega) (by omega) ?_
  obtain rfl : r_1 = 1 := hw_1.1
  refine lv_istore (lv' := [(5, .int 1), (4, .int 0), (3, .ref ot), (2, .ref mo), (1, .ref x), (0, .ref b)]) hx hb dL_law_649 hl (by decide) rfl (fun ls hl => ?_)
  refine lv_aload_n hx hb dL_law_651 rfl (lv_at hl 3 rfl) ?_
  refine lv_aload_n hx hb dL_law_652 rfl (lv_at hl 5 rfl) ?_
  refine lv_iload hx hb dL_law_653 (lv_at hl 1 rfl) ?_
  refine lv_iconst (v := 1) hx hb dL_law_655 (by decide) ?_
  refine lv_iadd hx hb dL_law_656 ?_
  refine pt_topi 1 (by decide) ?_
  refine va_sld hx hb hX hbl hbA hS (vp_in_iff.mpr (by decide)) dL_law_657 ?_
  refine pt_topi v1 e1 ?_
  refine lv_aload_n hx hb dL_law_658 rfl (lv_at hl 5 rfl) ?_
  refine lv_iload hx hb dL_law_659 (lv_at hl 1 rfl) ?_
  refine lv_iconst (v := 2) hx hb dL_law_661 (by decide) ?_
  refine lv_iadd hx hb dL_law_662 ?_
  refine pt_topi 2 (by decide) ?_
  refine va_sld hx hb hX hbl hbA hS (vp_in_iff.mpr (by decide)) dL_law_663 ?_
  refine pt_topi v2 e2 ?_
  have hPc := hP.sub (ws' := [(mo, .inr (6, [.int 0, .int 0, .int 0, .int 0, .ref m4, .ref m5, .ref m6, .ref m7, .ref m8, .ref m9, .ref m10, .ref m11, .ref m12, .int 1, .int 0, .int 0, .ref m16, .ref m17, .ref m18, .int 0, .int 0, .int 0, .int 0, .int 0, .int 0, .int 0, .int 0, .ref m27, .int 0, .ref m29, .ref m30, .ref m31])), (m4, .inl (y4, 700, .inl (fun _ => 0))), (m5, .inl (y5, 700, .inl (fun _ => 0))), (m6, .inl (y6, 700, .inl (fun _ => 0))), (m7, .inl (y7, 96, .inl (fun _ => 0))), (m8, .inl (y8, 2, .inl (upd (upd (fun _ => 0) 0 2) 1 2))), (m9, .inl (y9, 2, .inl (fun _ => 0))), (m10, .inl (y10, 2, .inl (fun _ => 0))), (m11, .inl (y11, 2, .inl (upd (upd (fun _ => 0) 0 (-1)) 1 (-1)))), (m12, .inl (y12, 4, .inl (fun _ => 0)))]) [0, 1, 2, 3, 4, 5, 6, 7, 8, 9] rfl
  have hDc := hD.sub (ws' := [(mo, .inr (6, [.int 0, .int 0, .int 0, .int 0, .ref m4, .ref m5, .ref m6, .ref m7, .ref m8, .ref m9, .ref m10, .ref m11, .ref m12, .int 1, .int 0, .int 0, .ref m16, .ref m17, .ref m18, .int 0, .int 0, .int 0, .int 0, .int 0, .int 0, .int 0, .int 0, .ref m27, .int 0, .ref m29, .ref m30, .ref m31])), (m4, .inl (y4, 700, .inl (fun _ => 0))), (m5, .inl (y5, 700, .inl (fun _ => 0))), (m6, .inl (y6, 700, .inl (fun _ => 0))), (m7, .inl (y7, 96, .inl (fun _ => 0))), (m8, .inl (y8, 2, .inl (upd (upd (fun _ => 0) 0 2) 1 2))), (m9, .inl (y9, 2, .inl (fun _ => 0))), (m10, .inl (y10, 2, .inl (fun _ => 0))), (m11, .inl (y11, 2, .inl (upd (upd (fun _ => 0) 0 (-1)) 1 (-1)))), (m12, .inl (y12, 4, .inl (fun _ => 0)))]) [0, 1, 2, 3, 4, 5, 6, 7, 8, 9] (by decide) rfl
  have hKc := hK.sub (tys' := [(y4, .int), (y5, .int), (y6, .int), (y7, .int), (y8, .int), (y9, .int), (y10, .boolean), (y11, .int), (y12, .boolean)]) [3, 4, 5, 6, 7, 8, 9, 10, 11] rfl
  have hFc := va_free (wc := [(mo, .inr (6, [.int 0, .int 0, .int 0, .int 0, .ref m4, .ref m5, .ref m6, .ref m7, .ref m8, .ref m9, .ref m10, .ref m11, .ref m12, .int 1, .int 0, .int 0, .ref m16, .ref m17, .ref m18, .int 0, .int 0, .int 0, .int 0, .int 0, .int 0, .int 0, .int 0, .ref m27, .int 0, .ref m29, .ref m30, .ref m31])), (m4, .inl (y4, 700, .inl (fun _ => 0))), (m5, .inl (y5, 700, .inl (fun _ => 0))), (m6, .inl (y6, 700, .inl (fun _ => 0))), (m7, .inl (y7, 96, .inl (fun _ => 0))), (m8, .inl (y8, 2, .inl (upd (upd (fun _ => 0) 0 2) 1 2))), (m9, .inl (y9, 2, .inl (fun _ => 0))), (m10, .inl (y10, 2, .inl (fun _ => 0))), (m11, .inl (y11, 2, .inl (upd (upd (fun _ => 0) 0 (-1)) 1 (-1)))), (m12, .inl (y12, 4, .inl (fun _ => 0)))]) hD hS hA [0, 1, 2, 3, 4, 5, 6, 7, 8, 9] rfl
  refine va_calli (va_runV (As := [.int v1, .int v2]) (rest := []) ⟨hx, hb, hml, hown, hts⟩ (m_plan l dC dI _ mo m4 m5 m6 m7 m8 m9 m10 m11 m12 m16 m17 m18 m27 m29 m30 m31 y4 y5 y6 y7 y8 y9 y10 y11 y12 v1 v2) (cwV 2 hts gk_X8_plan rfl rfl rfl (by decide +kernel) ⟨Nat.le_of_ble_eq_true rfl, Nat.le_of_ble_eq_true rfl⟩) ⟨pt_blindQ, va_recv hK hP (ci := 6) (q0 := 0) rfl rfl, pt_preQ hPc hKc hDc hN⟩ rfl rfl hl.1 rfl (lv_room (Nat.le_of_ble_eq_true rfl)) dL_law_664 ⟨Nat.le_of_ble_eq_true rfl, Nat.le_of_ble_eq_true rfl⟩) hS (fun q _ h => hFc q h) hFc (fun r_2 u_2 t H1 locs ht hvm hw_2 hB hz1 hk1 hS => ?_)
  obtain ⟨hP1, hK1, hD1⟩ := hB
  rw [ht] at hP1
  have hK1 := va_K.moved hvm.symm hK1
  obtain ⟨hP, hD⟩ := va_join (wr := [(ot, .inl (cL, 1, .inr (.inl u_1)))]) (w1 := [(mo, .inr (6, .int u_2.1 :: u_2.2))]) hP hD [0, 1, 2, 3, 4, 5, 6, 7, 8, 9] [10] rfl rfl (by decide) (by decide) hk1 hFc hP1 hD1
  have hK := hK.app hK1
  generalize H1 = H at hP hS ⊢
  have hP : va_P (dC, dI) vwCl [(ot, .inl (cL, 1, .inr (.inl u_1))), (mo, .inr (6, .int u_2.1 :: u_2.2))] H := hP
  have hD : va_D (fun q : Nat => s.heap.size ≤ q) [(ot, .inl (cL, 1, .inr (.inl u_1))), (mo, .inr (6, .int u_2.1 :: u_2.2))] := hD
  have hK : va_K (dC, dI) vwCl [(cI, .int), (cZ, .boolean), (cB, .object "ParkTower$Bay"), (y4, .int), (y5, .int), (y6, .int), (y7, .int), (y8, .int), (y9, .int), (y10, .boolean), (y11, .int), (y12, .boolean), (cL, .long)] s := hK
  refine W.widen (k := 37) (n := 2564) (by omega) (by omega) ?_
  refine lv_istore (lv' := [(6, .int r_2), (5, .int 1), (4, .int 0), (3, .ref ot), (2, .ref mo), (1, .ref x), (0, .ref b)]) hx hb dL_law_667 hl (by decide) rfl (fun ls hl => ?_)
  refine lv_aload_n hx hb dL_law_669 rfl (lv_at hl 4 rfl) ?_
  refine pt_cSi (va_runV (As := []) (rest := []) ⟨hx, hb, hml, hown, hts⟩ (c_thrown l dC dI mo u_2.1 u_2.2) (cwV 0 hts gk_X8_thrown rfl rfl rfl (by decide +kernel) ⟨Nat.le_of_ble_eq_true rfl, Nat.le_of_ble_eq_true rfl⟩) ⟨pt_blind, va_recv hK hP (ci := 6) (q0 := 1) rfl rfl, pt_pre (w := [(mo, .inr (6, .int u_2.1 :: u_2.2))]) (tys := []) (hP.sub [1] rfl) (hK.sub [] rfl) hN⟩ rfl rfl hl.1 rfl (lv_room (Nat.le_of_ble_eq_true rfl)) dL_law_670 ⟨Nat.le_of_ble_eq_true rfl, Nat.le_of_ble_eq_true rfl⟩) (fun r_3 hr_3 => ?_)
  obtain rfl : r_3 = 1 := hr_3.trans hw_2.1
  refine lv_iload hx hb dL_law_673 (lv_at hl 1 rfl) ?_
  refine lv_icmp_eq (tgt := 680) hx hb dL_law_675 (by decide) (fun _ => ?_) (fun c => absurd (by decide) c)
  refine lv_iload hx hb dL_law_680 (lv_at hl 1 rfl) ?_
  refine lv_if_ne (tgt := 697) hx hb dL_law_682 (by decide) (fun _ => ?_) (fun c => absurd c (by decide))
  refine lv_goto (tgt := 824) hx hb dL_law_697 (by decide) ?_
  exact law_end l C0 (Nat.le_of_ble_eq_true rfl) (Nat.le_of_ble_eq_true rfl) hS ls (lv_sub hl [2, 6] rfl)
set_option maxHeartbeats 4000000 in
set_option maxRecDepth 100000 in
theorem law_bay {p : Program} {e : Env} {s : State} {m : MethodId} {below : List Frame} {meth : Method} {c : Code} (l : Launch) (hlt : l.stackTraces = false) {b : Nat} {xs : Nat → Int32} (C0 : lw_At p s m meth c b 5 xs) (dC : Nat → ClassId) (dI : Nat → Nat → Nat) (x rk hd jm bs b0 b1 od o1 o2 o3 jb pl ap : Nat) (cI cZ cB : ClassId) (mo m4 m5 m6 m7 m8 m9 m10 m11 m12 m16 m17 m18 m27 m29 m30 m31 : Nat) (y4 y5 y6 y7 y8 y9 y10 y11 y12 : ClassId) (ot : Nat) (cL : ClassId) (H : Heap) (locs : List Loc) (hN : pt_N s) (hE : pt_E s) (hZ : pt_Z s.heap.size s s.heap) (hK : va_K (dC, dI) vwCl [(cI, .int), (cZ, .boolean), (cB, .object "ParkTower$Bay"), (y4, .int), (y5, .int), (y6, .int), (y7, .int), (y8, .int), (y9, .int), (y10, .boolean), (y11, .int), (y12, .boolean), (cL, .long)] s) (hP : va_P (dC, dI) vwCl [(x, .inr (5, [.ref rk, .ref bs, .ref od, .ref jb, .ref ap, .int 0, .int 1, .int 0, .int 0, .int 0])), (rk, .inr (4, [.ref hd, .ref jm])), (hd, .inl (cI, 96, .inl (fun _ => 0))), (jm, .inl (cZ, 4, .inl (fun _ => 0))), (bs, .inl (cB, 2, .inr (.inr (.inr (.inr (va_up (va_up (fun _ => none) 0 (some b0)) 1 (some b1))))))), (b0, .inr (0, [.int 2, .int 0, .int 0, .int 0, .int 0, .int (-1)])), (b1, .inr (0, [.int 2, .int 0, .int 0, .int 0, .int 0, .int (-1)])), (od, .inr (2, [.ref o1, .ref o2, .ref o3, .int 0])), (jb, .inr (1, [.ref pl, .int (-1), .int 0, .int 0, .int 0])), (mo, .inr (6, [.int 0, .int 0, .int 0, .int 0, .ref m4, .ref m5, .ref m6, .ref m7, .ref m8, .ref m9, .ref m10, .ref m11, .ref m12, .int 1, .int 0, .int 0, .ref m16, .ref m17, .ref m18, .int 0, .int 0, .int 0, .int 0, .int 0, .int 0, .int 0, .int 0, .ref m27, .int 0, .ref m29, .ref m30, .ref m31])), (m4, .inl (y4, 700, .inl (fun _ => 0))), (m5, .inl (y5, 700, .inl (fun _ => 0))), (m6, .inl (y6, 700, .inl (fun _ => 0))), (m7, .inl (y7, 96, .inl (fun _ => 0))), (m8, .inl (y8, 2, .inl (upd (upd (fun _ => 0) 0 2) 1 2))), (m9, .inl (y9, 2, .inl (fun _ => 0))), (m10, .inl (y10, 2, .inl (fun _ => 0))), (m11, .inl (y11, 2, .inl (upd (upd (fun _ => 0) 0 (-1)) 1 (-1)))), (m12, .inl (y12, 4, .inl (fun _ => 0))), (ot, .inl (cL, 1, .inr (.inl (fun _ => 0))))] H) (hD : va_D (fun q : Nat => s.heap.size ≤ q) [(x, .inr (5, [.ref rk, .ref bs, .ref od, .ref jb, .ref ap, .int 0, .int 1, .int 0, .int 0, .int 0])), (rk, .inr (4, [.ref hd, .ref jm])), (hd, .inl (cI, 96, .inl (fun _ => 0))), (jm, .inl (cZ, 4, .inl (fun _ => 0))), (bs, .inl (cB, 2, .inr (.inr (.inr (.inr (va_up (va_up (fun _ => none) 0 (some b0)) 1 (some b1))))))), (b0, .inr (0, [.int 2, .int 0, .int 0, .int 0, .int 0, .int (-1)])), (b1, .inr (0, [.int 2, .int 0, .int 0, .int 0, .int 0, .int (-1)])), (od, .inr (2, [.ref o1, .ref o2, .ref o3, .int 0])), (jb, .inr (1, [.ref pl, .int (-1), .int 0, .int 0, .int 0])), (mo, .inr (6, [.int 0, .int 0, .int 0, .int 0, .ref m4, .ref m5, .ref m6, .ref m7, .ref m8, .ref m9, .ref m10, .ref m11, .ref m12, .int 1, .int 0, .int 0, .ref m16, .ref m17, .ref m18, .int 0, .int 0, .int 0, .int 0, .int 0, .int 0, .int 0, .int 0, .ref m27, .int 0, .ref m29, .ref m30, .ref m31])), (m4, .inl (y4, 700, .inl (fun _ => 0))), (m5, .inl (y5, 700, .inl (fun _ => 0))), (m6, .inl (y6, 700, .inl (fun _ => 0))), (m7, .inl (y7, 96, .inl (fun _ => 0))), (m8, .inl (y8, 2, .inl (upd (upd (fun _ => 0) 0 2) 1 2))), (m9, .inl (y9, 2, .inl (fun _ => 0))), (m10, .inl (y10, 2, .inl (fun _ => 0))), (m11, .inl (y11, 2, .inl (upd (upd (fun _ => 0) 0 (-1)) 1 (-1)))), (m12, .inl (y12, 4, .inl (fun _ => 0))), (ot, .inl (cL, 1, .inr (.inl (fun _ => 0))))]) (hS : va_S (fun q : Nat => s.heap.size ≤ q) s.heap H locs) (ls : Array Slot) (hl : lv_has ls 7 [(4, .int 0), (3, .ref ot), (2, .ref mo), (1, .ref x), (0, .ref b)]) : W p l e room_1 s m #[Value.ref b] below meth c H locs 36 2558 (lw_Z below #[Value.ref b] s) (F0 m 700 ls []) := by
  obtain ⟨hx, hb, hr, hml, hown, hts, hX, hbl, hlocks, hgv⟩ := id C0
  have hbA : ¬ (fun q : Nat => s.heap.size ≤ q) b := Nat.not_le.mpr hbl
  have hA : ∀ q : Nat, s.heap.size ≤ q → (fun q : Nat => s.heap.size ≤ q) q := fun _ h => h
  obtain ⟨v1, e1⟩ : ∃ z, xs 1 = z := ⟨_, rfl⟩
  obtain ⟨v2, e2⟩ : ∃ z, xs 2 = z := ⟨_, rfl⟩
  by_cases hok : v1 = 0 ∨ v1 = 1
  · rcases pt_sw4 v2 with hk | hk
    · skip
      refine lv_aload_n hx hb dL_law_700 rfl (lv_at hl 3 rfl) ?_
      refine lv_aload_n hx hb dL_law_701 rfl (lv_at hl 4 rfl) ?_
      refine lv_iload hx hb dL_law_702 (lv_at hl 0 rfl) ?_
      refine lv_iconst (v := 1) hx hb dL_law_704 (by decide) ?_
      refine lv_iadd hx hb dL_law_705 ?_
      refine pt_topi 1 (by decide) ?_
      refine va_sld hx hb hX hbl hbA hS (vp_in_iff.mpr (by decide)) dL_law_706 ?_
      refine pt_topi v1 e1 ?_
      refine lv_aload_n hx hb dL_law_707 rfl (lv_at hl 4 rfl) ?_
      refine lv_iload hx hb dL_law_708 (lv_at hl 0 rfl) ?_
      refine lv_iconst (v := 2) hx hb dL_law_710 (by decide) ?_
      refine lv_iadd hx hb dL_law_711 ?_
      refine pt_topi 2 (by decide) ?_
      refine va_sld hx hb hX hbl hbA hS (vp_in_iff.mpr (by decide)) dL_law_712 ?_
      refine pt_topi v2 e2 ?_
      refine lv_aload_n hx hb dL_law_713 rfl (lv_at hl 1 rfl) ?_
      have hPc := hP.sub (ws' := [(x, .inr (5, [.ref rk, .ref bs, .ref od, .ref jb, .ref ap, .int 0, .int 1, .int 0, .int 0, .int 0])), (rk, .inr (4, [.ref hd, .ref jm])), (hd, .inl (cI, 96, .inl (fun _ => 0))), (jm, .inl (cZ, 4, .inl (fun _ => 0))), (bs, .inl (cB, 2, .inr (.inr (.inr (.inr (va_up (va_up (fun _ => none) 0 (some b0)) 1 (some b1))))))), (b0, .inr (0, [.int 2, .int 0, .int 0, .int 0, .int 0, .int (-1)])), (b1, .inr (0, [.int 2, .int 0, .int 0, .int 0, .int 0, .int (-1)])), (od, .inr (2, [.ref o1, .ref o2, .ref o3, .int 0])), (jb, .inr (1, [.ref pl, .int (-1), .int 0, .int 0, .int 0])), (ot, .inl (cL, 1, .inr (.inl (fun _ => 0))))]) [0, 1, 2, 3, 4, 5, 6, 7, 8, 19] rfl
      have hDc := hD.sub (ws' := [(x, .inr (5, [.ref rk, .ref bs, .ref od, .ref jb, .ref ap, .int 0, .int 1, .int 0, .int 0, .int 0])), (rk, .inr (4, [.ref hd, .ref jm])), (hd, .inl (cI, 96, .inl (fun _ => 0))), (jm, .inl (cZ, 4, .inl (fun _ => 0))), (bs, .inl (cB, 2, .inr (.inr (.inr (.inr (va_up (va_up (fun _ => none) 0 (some b0)) 1 (some b1))))))), (b0, .inr (0, [.int 2, .int 0, .int 0, .int 0, .int 0, .int (-1)])), (b1, .inr (0, [.int 2, .int 0, .int 0, .int 0, .int 0, .int (-1)])), (od, .inr (2, [.ref o1, .ref o2, .ref o3, .int 0])), (jb, .inr (1, [.ref pl, .int (-1), .int 0, .int 0, .int 0])), (ot, .inl (cL, 1, .inr (.inl (fun _ => 0))))]) [0, 1, 2, 3, 4, 5, 6, 7, 8, 19] (by decide) rfl
      have hKc := hK.sub (tys' := [(cI, .int), (cZ, .boolean), (cB, .object "ParkTower$Bay"), (cL, .long)]) [0, 1, 2, 12] rfl
      have hFc := va_free (wc := [(x, .inr (5, [.ref rk, .ref bs, .ref od, .ref jb, .ref ap, .int 0, .int 1, .int 0, .int 0, .int 0])), (rk, .inr (4, [.ref hd, .ref jm])), (hd, .inl (cI, 96, .inl (fun _ => 0))), (jm, .inl (cZ, 4, .inl (fun _ => 0))), (bs, .inl (cB, 2, .inr (.inr (.inr (.inr (va_up (va_up (fun _ => none) 0 (some b0)) 1 (some b1))))))), (b0, .inr (0, [.int 2, .int 0, .int 0, .int 0, .int 0, .int (-1)])), (b1, .inr (0, [.int 2, .int 0, .int 0, .int 0, .int 0, .int (-1)])), (od, .inr (2, [.ref o1, .ref o2, .ref o3, .int 0])), (jb, .inr (1, [.ref pl, .int (-1), .int 0, .int 0, .int 0])), (ot, .inl (cL, 1, .inr (.inl (fun _ => 0))))]) hD hS hA [0, 1, 2, 3, 4, 5, 6, 7, 8, 19] rfl
      refine va_calli (vx_runSW (As := [.ref x, .int v1, .int v2, .ref ot]) (rest := []) ⟨hx, hb, hml, hown, hts⟩ (w_bay l hlt dC dI _ x rk hd jm bs b0 b1 od o1 o2 o3 jb pl ap cI cZ cB ot cL (fun _ => 0) v1 v2) (vx_cwSW 4 hts gk_L_bay rfl rfl rfl (by decide +kernel) ⟨Nat.le_of_ble_eq_true rfl, Nat.le_of_ble_eq_true rfl⟩) ⟨pt_blindT, pt_preT hPc hKc hDc hN hE (pt_Z.up hZ (fun q h1 h2 => hS.2.1 q h1 h2) hS.1)⟩ rfl rfl hl.1 rfl (lv_room (Nat.le_of_ble_eq_true rfl)) dL_law_714 ⟨Nat.le_of_ble_eq_true rfl, Nat.le_of_ble_eq_true rfl⟩) hS (fun q _ h => hFc q h) hFc (fun r_1 u_1 t H1 locs ht hvm hw_1 hB hz1 hk1 hS => ?_)
      obtain ⟨hP1, hK1, hD1⟩ := hB
      rw [ht] at hP1
      have hK1 := va_K.moved hvm.symm hK1
      obtain ⟨hP, hD⟩ := va_join (wr := [(mo, .inr (6, [.int 0, .int 0, .int 0, .int 0, .ref m4, .ref m5, .ref m6, .ref m7, .ref m8, .ref m9, .ref m10, .ref m11, .ref m12, .int 1, .int 0, .int 0, .ref m16, .ref m17, .ref m18, .int 0, .int 0, .int 0, .int 0, .int 0, .int 0, .int 0, .int 0, .ref m27, .int 0, .ref m29, .ref m30, .ref m31])), (m4, .inl (y4, 700, .inl (fun _ => 0))), (m5, .inl (y5, 700, .inl (fun _ => 0))), (m6, .inl (y6, 700, .inl (fun _ => 0))), (m7, .inl (y7, 96, .inl (fun _ => 0))), (m8, .inl (y8, 2, .inl (upd (upd (fun _ => 0) 0 2) 1 2))), (m9, .inl (y9, 2, .inl (fun _ => 0))), (m10, .inl (y10, 2, .inl (fun _ => 0))), (m11, .inl (y11, 2, .inl (upd (upd (fun _ => 0) 0 (-1)) 1 (-1)))), (m12, .inl (y12, 4, .inl (fun _ => 0)))]) (w1 := [(ot, .inl (cL, 1, .inr (.inl u_1)))]) hP hD [0, 1, 2, 3, 4, 5, 6, 7, 8, 19] [9, 10, 11, 12, 13, 14, 15, 16, 17, 18] rfl rfl (by decide) (by decide) hk1 hFc hP1 hD1
      have hK := hK.app hK1
      generalize H1 = H at hP hS ⊢
      have hP : va_P (dC, dI) vwCl [(mo, .inr (6, [.int 0, .int 0, .int 0, .int 0, .ref m4, .ref m5, .ref m6, .ref m7, .ref m8, .ref m9, .ref m10, .ref m11, .ref m12, .int 1, .int 0, .int 0, .ref m16, .ref m17, .ref m18, .int 0, .int 0, .int 0, .int 0, .int 0, .int 0, .int 0, .int 0, .ref m27, .int 0, .ref m29, .ref m30, .ref m31])), (m4, .inl (y4, 700, .inl (fun _ => 0))), (m5, .inl (y5, 700, .inl (fun _ => 0))), (m6, .inl (y6, 700, .inl (fun _ => 0))), (m7, .inl (y7, 96, .inl (fun _ => 0))), (m8, .inl (y8, 2, .inl (upd (upd (fun _ => 0) 0 2) 1 2))), (m9, .inl (y9, 2, .inl (fun _ => 0))), (m10, .inl (y10, 2, .inl (fun _ => 0))), (m11, .inl (y11, 2, .inl (upd (upd (fun _ => 0) 0 (-1)) 1 (-1)))), (m12, .inl (y12, 4, .inl (fun _ => 0))), (ot, .inl (cL, 1, .inr (.inl u_1)))] H := hP
      have hD : va_D (fun q : Nat => s.heap.size ≤ q) [(mo, .inr (6, [.int 0, .int 0, .int 0, .int 0, .ref m4, .ref m5, .ref m6, .ref m7, .ref m8, .ref m9, .ref m10, .ref m11, .ref m12, .int 1, .int 0, .int 0, .ref m16, .ref m17, .ref m18, .int 0, .int 0, .int 0, .int 0, .int 0, .int 0, .int 0, .int 0, .ref m27, .int 0, .ref m29, .ref m30, .ref m31])), (m4, .inl (y4, 700, .inl (fun _ => 0))), (m5, .inl (y5, 700, .inl (fun _ => 0))), (m6, .inl (y6, 700, .inl (fun _ => 0))), (m7, .inl (y7, 96, .inl (fun _ => 0))), (m8, .inl (y8, 2, .inl (upd (upd (fun _ => 0) 0 2) 1 2))), (m9, .inl (y9, 2, .inl (fun _ => 0))), (m10, .inl (y10, 2, .inl (fun _ => 0))), (m11, .inl (y11, 2, .inl (upd (upd (fun _ => 0) 0 (-1)) 1 (-1)))), (m12, .inl (y12, 4, .inl (fun _ => 0))), (ot, .inl (cL, 1, .inr (.inl u_1)))] := hD
      have hK : va_K (dC, dI) vwCl [(cI, .int), (cZ, .boolean), (cB, .object "ParkTower$Bay"), (y4, .int), (y5, .int), (y6, .int), (y7, .int), (y8, .int), (y9, .int), (y10, .boolean), (y11, .int), (y12, .boolean), (cL, .long)] s := hK
      refine W.widen (k := 37) (n := 2564) (by omega) (by omega) ?_
      obtain rfl : r_1 = 0 := hw_1.1.trans (if_pos ⟨hok, hk⟩)
      refine lv_istore (lv' := [(5, .int 0), (4, .int 0), (3, .ref ot), (2, .ref mo), (1, .ref x), (0, .ref b)]) hx hb dL_law_717 hl (by decide) rfl (fun ls hl => ?_)
      refine lv_aload_n hx hb dL_law_719 rfl (lv_at hl 3 rfl) ?_
      refine lv_aload_n hx hb dL_law_720 rfl (lv_at hl 5 rfl) ?_
      refine lv_iload hx hb dL_law_721 (lv_at hl 1 rfl) ?_
      refine lv_iconst (v := 1) hx hb dL_law_723 (by decide) ?_
      refine lv_iadd hx hb dL_law_724 ?_
      refine pt_topi 1 (by decide) ?_
      refine va_sld hx hb hX hbl hbA hS (vp_in_iff.mpr (by decide)) dL_law_725 ?_
      refine pt_topi v1 e1 ?_
      refine lv_aload_n hx hb dL_law_726 rfl (lv_at hl 5 rfl) ?_
      refine lv_iload hx hb dL_law_727 (lv_at hl 1 rfl) ?_
      refine lv_iconst (v := 2) hx hb dL_law_729 (by decide) ?_
      refine lv_iadd hx hb dL_law_730 ?_
      refine pt_topi 2 (by decide) ?_
      refine va_sld hx hb hX hbl hbA hS (vp_in_iff.mpr (by decide)) dL_law_731 ?_
      refine pt_topi v2 e2 ?_
      have hPc := hP.sub (ws' := [(mo, .inr (6, [.int 0, .int 0, .int 0, .int 0, .ref m4, .ref m5, .ref m6, .ref m7, .ref m8, .ref m9, .ref m10, .ref m11, .ref m12, .int 1, .int 0, .int 0, .ref m16, .ref m17, .ref m18, .int 0, .int 0, .int 0, .int 0, .int 0, .int 0, .int 0, .int 0, .ref m27, .int 0, .ref m29, .ref m30, .ref m31])), (m4, .inl (y4, 700, .inl (fun _ => 0))), (m5, .inl (y5, 700, .inl (fun _ => 0))), (m6, .inl (y6, 700, .inl (fun _ => 0))), (m7, .inl (y7, 96, .inl (fun _ => 0))), (m8, .inl (y8, 2, .inl (upd (upd (fun _ => 0) 0 2) 1 2))), (m9, .inl (y9, 2, .inl (fun _ => 0))), (m10, .inl (y10, 2, .inl (fun _ => 0))), (m11, .inl (y11, 2, .inl (upd (upd (fun _ => 0) 0 (-1)) 1 (-1)))), (m12, .inl (y12, 4, .inl (fun _ => 0)))]) [0, 1, 2, 3, 4, 5, 6, 7, 8, 9] rfl
      have hDc := hD.sub (ws' := [(mo, .inr (6, [.int 0, .int 0, .int 0, .int 0, .ref m4, .ref m5, .ref m6, .ref m7, .ref m8, .ref m9, .ref m10, .ref m11, .ref m12, .int 1, .int 0, .int 0, .ref m16, .ref m17, .ref m18, .int 0, .int 0, .int 0, .int 0, .int 0, .int 0, .int 0, .int 0, .ref m27, .int 0, .ref m29, .ref m30, .ref m31])), (m4, .inl (y4, 700, .inl (fun _ => 0))), (m5, .inl (y5, 700, .inl (fun _ => 0))), (m6, .inl (y6, 700, .inl (fun _ => 0))), (m7, .inl (y7, 96, .inl (fun _ => 0))), (m8, .inl (y8, 2, .inl (upd (upd (fun _ => 0) 0 2) 1 2))), (m9, .inl (y9, 2, .inl (fun _ => 0))), (m10, .inl (y10, 2, .inl (fun _ => 0))), (m11, .inl (y11, 2, .inl (upd (upd (fun _ => 0) 0 (-1)) 1 (-1)))), (m12, .inl (y12, 4, .inl (fun _ => 0)))]) [0, 1, 2, 3, 4, 5, 6, 7, 8, 9] (by decide) rfl
      have hKc := hK.sub (tys' := [(y4, .int), (y5, .int), (y6, .int), (y7, .int), (y8, .int), (y9, .int), (y10, .boolean), (y11, .int), (y12, .boolean)]) [3, 4, 5, 6, 7, 8, 9, 10, 11] rfl
      have hFc := va_free (wc := [(mo, .inr (6, [.int 0, .int 0, .int 0, .int 0, .ref m4, .ref m5, .ref m6, .ref m7, .ref m8, .ref m9, .ref m10, .ref m11, .ref m12, .int 1, .int 0, .int 0, .ref m16, .ref m17, .ref m18, .int 0, .int 0, .int 0, .int 0, .int 0, .int 0, .int 0, .int 0, .ref m27, .int 0, .ref m29, .ref m30, .ref m31])), (m4, .inl (y4, 700, .inl (fun _ => 0))), (m5, .inl (y5, 700, .inl (fun _ => 0))), (m6, .inl (y6, 700, .inl (fun _ => 0))), (m7, .inl (y7, 96, .inl (fun _ => 0))), (m8, .inl (y8, 2, .inl (upd (upd (fun _ => 0) 0 2) 1 2))), (m9, .inl (y9, 2, .inl (fun _ => 0))), (m10, .inl (y10, 2, .inl (fun _ => 0))), (m11, .inl (y11, 2, .inl (upd (upd (fun _ => 0) 0 (-1)) 1 (-1)))), (m12, .inl (y12, 4, .inl (fun _ => 0)))]) hD hS hA [0, 1, 2, 3, 4, 5, 6, 7, 8, 9] rfl
      refine va_calli (va_runV (As := [.int v1, .int v2]) (rest := []) ⟨hx, hb, hml, hown, hts⟩ (m_bay l dC dI _ mo m4 m5 m6 m7 m8 m9 m10 m11 m12 m16 m17 m18 m27 m29 m30 m31 y4 y5 y6 y7 y8 y9 y10 y11 y12 v1 v2 hok hk) (cwV 2 hts gk_X8_bay rfl rfl rfl (by decide +kernel) ⟨Nat.le_of_ble_eq_true rfl, Nat.le_of_ble_eq_true rfl⟩) ⟨pt_blindQ, va_recv hK hP (ci := 6) (q0 := 0) rfl rfl, pt_preQ hPc hKc hDc hN⟩ rfl rfl hl.1 rfl (lv_room (Nat.le_of_ble_eq_true rfl)) dL_law_732 ⟨Nat.le_of_ble_eq_true rfl, Nat.le_of_ble_eq_true rfl⟩) hS (fun q _ h => hFc q h) hFc (fun r_2 u_2 t H1 locs ht hvm hw_2 hB hz1 hk1 hS => ?_)
      obtain ⟨hP1, hK1, hD1⟩ := hB
      rw [ht] at hP1
      have hK1 := va_K.moved hvm.symm hK1
      obtain ⟨hP, hD⟩ := va_join (wr := [(ot, .inl (cL, 1, .inr (.inl u_1)))]) (w1 := [(mo, .inr (6, .int u_2.1 :: u_2.2))]) hP hD [0, 1, 2, 3, 4, 5, 6, 7, 8, 9] [10] rfl rfl (by decide) (by decide) hk1 hFc hP1 hD1
      have hK := hK.app hK1
      generalize H1 = H at hP hS ⊢
      have hP : va_P (dC, dI) vwCl [(ot, .inl (cL, 1, .inr (.inl u_1))), (mo, .inr (6, .int u_2.1 :: u_2.2))] H := hP
      have hD : va_D (fun q : Nat => s.heap.size ≤ q) [(ot, .inl (cL, 1, .inr (.inl u_1))), (mo, .inr (6, .int u_2.1 :: u_2.2))] := hD
      have hK : va_K (dC, dI) vwCl [(cI, .int), (cZ, .boolean), (cB, .object "ParkTower$Bay"), (y4, .int), (y5, .int), (y6, .int), (y7, .int), (y8, .int), (y9, .int), (y10, .boolean), (y11, .int), (y12, .boolean), (cL, .long)] s := hK
      refine W.widen (k := 37) (n := 2564) (by omega) (by omega) ?_
      refine lv_istore (lv' := [(6, .int r_2), (5, .int 0), (4, .int 0), (3, .ref ot), (2, .ref mo), (1, .ref x), (0, .ref b)]) hx hb dL_law_735 hl (by decide) rfl (fun ls hl => ?_)
      refine lv_aload_n hx hb dL_law_737 rfl (lv_at hl 4 rfl) ?_
      refine pt_cSi (va_runV (As := []) (rest := []) ⟨hx, hb, hml, hown, hts⟩ (c_thrown l dC dI mo u_2.1 u_2.2) (cwV 0 hts gk_X8_thrown rfl rfl rfl (by decide +kernel) ⟨Nat.le_of_ble_eq_true rfl, Nat.le_of_ble_eq_true rfl⟩) ⟨pt_blind, va_recv hK hP (ci := 6) (q0 := 1) rfl rfl, pt_pre (w := [(mo, .inr (6, .int u_2.1 :: u_2.2))]) (tys := []) (hP.sub [1] rfl) (hK.sub [] rfl) hN⟩ rfl rfl hl.1 rfl (lv_room (Nat.le_of_ble_eq_true rfl)) dL_law_738 ⟨Nat.le_of_ble_eq_true rfl, Nat.le_of_ble_eq_true rfl⟩) (fun r_3 hr_3 => ?_)
      obtain rfl : r_3 = 0 := hr_3.trans hw_2.1
      refine lv_iload hx hb dL_law_741 (lv_at hl 1 rfl) ?_
      refine lv_icmp_eq (tgt := 748) hx hb dL_law_743 (by decide) (fun _ => ?_) (fun c => absurd (by decide) c)
      refine lv_iload hx hb dL_law_748 (lv_at hl 1 rfl) ?_
      refine lv_if_ne (tgt := 765) hx hb dL_law_750 (by decide) (fun c => absurd (by decide) c) (fun _ => ?_)
      refine lv_aload_n hx hb dL_law_753 rfl (lv_at hl 3 rfl) ?_
      refine lv_iconst (v := 0) hx hb dL_law_754 (by decide) ?_
      refine va_lald hx hb hK hP 0 12 rfl rfl (vp_in_iff.mpr (by decide)) dL_law_755 ?_
      refine lv_iload hx hb dL_law_756 (lv_at hl 0 rfl) ?_
      refine lv_i2l (v := r_2.toInt64) hx hb dL_law_758 rfl ?_
      refine W.lcmp hx hb dL_law_759 ?_
      refine pt_topi 0 (pt_cmp ((hw_1.2 rfl).trans (congrArg Int32.toInt64 (hw_2.2 hw_2.1).symm))) ?_
      refine lv_if_eq (tgt := 765) hx hb dL_law_760 (by decide) (fun _ => ?_) (fun c => absurd (by decide) c)
      refine lv_goto (tgt := 824) hx hb dL_law_765 (by decide) ?_
      exact law_end l C0 (Nat.le_of_ble_eq_true rfl) (Nat.le_of_ble_eq_true rfl) hS ls (lv_sub hl [2, 6] rfl)
    · have hkn : ¬ (v2 = 0 ∨ v2 = 1 ∨ v2 = 2 ∨ v2 = 3 ∨ v2 = 4) := by intro h; rcases h with rfl | rfl | rfl | rfl | rfl <;> revert hk <;> decide
      rcases hok with rfl | rfl
      · skip
        refine lv_aload_n hx hb dL_law_700 rfl (lv_at hl 3 rfl) ?_
        refine lv_aload_n hx hb dL_law_701 rfl (lv_at hl 4 rfl) ?_
        refine lv_iload hx hb dL_law_702 (lv_at hl 0 rfl) ?_
        refine lv_iconst (v := 1) hx hb dL_law_704 (by decide) ?_
        refine lv_iadd hx hb dL_law_705 ?_
        refine pt_topi 1 (by decide) ?_
        refine va_sld hx hb hX hbl hbA hS (vp_in_iff.mpr (by decide)) dL_law_706 ?_
        refine pt_topi 0 e1 ?_
        refine lv_aload_n hx hb dL_law_707 rfl (lv_at hl 4 rfl) ?_
        refine lv_iload hx hb dL_law_708 (lv_at hl 0 rfl) ?_
        refine lv_iconst (v := 2) hx hb dL_law_710 (by decide) ?_
        refine lv_iadd hx hb dL_law_711 ?_
        refine pt_topi 2 (by decide) ?_
        refine va_sld hx hb hX hbl hbA hS (vp_in_iff.mpr (by decide)) dL_law_712 ?_
        refine pt_topi v2 e2 ?_
        refine lv_aload_n hx hb dL_law_713 rfl (lv_at hl 1 rfl) ?_
        have hPc := hP.sub (ws' := [(x, .inr (5, [.ref rk, .ref bs, .ref od, .ref jb, .ref ap, .int 0, .int 1, .int 0, .int 0, .int 0])), (rk, .inr (4, [.ref hd, .ref jm])), (hd, .inl (cI, 96, .inl (fun _ => 0))), (jm, .inl (cZ, 4, .inl (fun _ => 0))), (bs, .inl (cB, 2, .inr (.inr (.inr (.inr (va_up (va_up (fun _ => none) 0 (some b0)) 1 (some b1))))))), (b0, .inr (0, [.int 2, .int 0, .int 0, .int 0, .int 0, .int (-1)])), (b1, .inr (0, [.int 2, .int 0, .int 0, .int 0, .int 0, .int (-1)])), (od, .inr (2, [.ref o1, .ref o2, .ref o3, .int 0])), (jb, .inr (1, [.ref pl, .int (-1), .int 0, .int 0, .int 0])), (ot, .inl (cL, 1, .inr (.inl (fun _ => 0))))]) [0, 1, 2, 3, 4, 5, 6, 7, 8, 19] rfl
        have hDc := hD.sub (ws' := [(x, .inr (5, [.ref rk, .ref bs, .ref od, .ref jb, .ref ap, .int 0, .int 1, .int 0, .int 0, .int 0])), (rk, .inr (4, [.ref hd, .ref jm])), (hd, .inl (cI, 96, .inl (fun _ => 0))), (jm, .inl (cZ, 4, .inl (fun _ => 0))), (bs, .inl (cB, 2, .inr (.inr (.inr (.inr (va_up (va_up (fun _ => none) 0 (some b0)) 1 (some b1))))))), (b0, .inr (0, [.int 2, .int 0, .int 0, .int 0, .int 0, .int (-1)])), (b1, .inr (0, [.int 2, .int 0, .int 0, .int 0, .int 0, .int (-1)])), (od, .inr (2, [.ref o1, .ref o2, .ref o3, .int 0])), (jb, .inr (1, [.ref pl, .int (-1), .int 0, .int 0, .int 0])), (ot, .inl (cL, 1, .inr (.inl (fun _ => 0))))]) [0, 1, 2, 3, 4, 5, 6, 7, 8, 19] (by decide) rfl
        have hKc := hK.sub (tys' := [(cI, .int), (cZ, .boolean), (cB, .object "ParkTower$Bay"), (cL, .long)]) [0, 1, 2, 12] rfl
        have hFc := va_free (wc := [(x, .inr (5, [.ref rk, .ref bs, .ref od, .ref jb, .ref ap, .int 0, .int 1, .int 0, .int 0, .int 0])), (rk, .inr (4, [.ref hd, .ref jm])), (hd, .inl (cI, 96, .inl (fun _ => 0))), (jm, .inl (cZ, 4, .inl (fun _ => 0))), (bs, .inl (cB, 2, .inr (.inr (.inr (.inr (va_up (va_up (fun _ => none) 0 (some b0)) 1 (some b1))))))), (b0, .inr (0, [.int 2, .int 0, .int 0, .int 0, .int 0, .int (-1)])), (b1, .inr (0, [.int 2, .int 0, .int 0, .int 0, .int 0, .int (-1)])), (od, .inr (2, [.ref o1, .ref o2, .ref o3, .int 0])), (jb, .inr (1, [.ref pl, .int (-1), .int 0, .int 0, .int 0])), (ot, .inl (cL, 1, .inr (.inl (fun _ => 0))))]) hD hS hA [0, 1, 2, 3, 4, 5, 6, 7, 8, 19] rfl
        refine va_calli (vx_runSW (As := [.ref x, .int 0, .int v2, .ref ot]) (rest := []) ⟨hx, hb, hml, hown, hts⟩ (w_bay l hlt dC dI _ x rk hd jm bs b0 b1 od o1 o2 o3 jb pl ap cI cZ cB ot cL (fun _ => 0) 0 v2) (vx_cwSW 4 hts gk_L_bay rfl rfl rfl (by decide +kernel) ⟨Nat.le_of_ble_eq_true rfl, Nat.le_of_ble_eq_true rfl⟩) ⟨pt_blindT, pt_preT hPc hKc hDc hN hE (pt_Z.up hZ (fun q h1 h2 => hS.2.1 q h1 h2) hS.1)⟩ rfl rfl hl.1 rfl (lv_room (Nat.le_of_ble_eq_true rfl)) dL_law_714 ⟨Nat.le_of_ble_eq_true rfl, Nat.le_of_ble_eq_true rfl⟩) hS (fun q _ h => hFc q h) hFc (fun r_4 u_4 t H1 locs ht hvm hw_4 hB hz1 hk1 hS => ?_)
        obtain ⟨hP1, hK1, hD1⟩ := hB
        rw [ht] at hP1
        have hK1 := va_K.moved hvm.symm hK1
        obtain ⟨hP, hD⟩ := va_join (wr := [(mo, .inr (6, [.int 0, .int 0, .int 0, .int 0, .ref m4, .ref m5, .ref m6, .ref m7, .ref m8, .ref m9, .ref m10, .ref m11, .ref m12, .int 1, .int 0, .int 0, .ref m16, .ref m17, .ref m18, .int 0, .int 0, .int 0, .int 0, .int 0, .int 0, .int 0, .int 0, .ref m27, .int 0, .ref m29, .ref m30, .ref m31])), (m4, .inl (y4, 700, .inl (fun _ => 0))), (m5, .inl (y5, 700, .inl (fun _ => 0))), (m6, .inl (y6, 700, .inl (fun _ => 0))), (m7, .inl (y7, 96, .inl (fun _ => 0))), (m8, .inl (y8, 2, .inl (upd (upd (fun _ => 0) 0 2) 1 2))), (m9, .inl (y9, 2, .inl (fun _ => 0))), (m10, .inl (y10, 2, .inl (fun _ => 0))), (m11, .inl (y11, 2, .inl (upd (upd (fun _ => 0) 0 (-1)) 1 (-1)))), (m12, .inl (y12, 4, .inl (fun _ => 0)))]) (w1 := [(ot, .inl (cL, 1, .inr (.inl u_4)))]) hP hD [0, 1, 2, 3, 4, 5, 6, 7, 8, 19] [9, 10, 11, 12, 13, 14, 15, 16, 17, 18] rfl rfl (by decide) (by decide) hk1 hFc hP1 hD1
        have hK := hK.app hK1
        generalize H1 = H at hP hS ⊢
        have hP : va_P (dC, dI) vwCl [(mo, .inr (6, [.int 0, .int 0, .int 0, .int 0, .ref m4, .ref m5, .ref m6, .ref m7, .ref m8, .ref m9, .ref m10, .ref m11, .ref m12, .int 1, .int 0, .int 0, .ref m16, .ref m17, .ref m18, .int 0, .int 0, .int 0, .int 0, .int 0, .int 0, .int 0, .int 0, .ref m27, .int 0, .ref m29, .ref m30, .ref m31])), (m4, .inl (y4, 700, .inl (fun _ => 0))), (m5, .inl (y5, 700, .inl (fun _ => 0))), (m6, .inl (y6, 700, .inl (fun _ => 0))), (m7, .inl (y7, 96, .inl (fun _ => 0))), (m8, .inl (y8, 2, .inl (upd (upd (fun _ => 0) 0 2) 1 2))), (m9, .inl (y9, 2, .inl (fun _ => 0))), (m10, .inl (y10, 2, .inl (fun _ => 0))), (m11, .inl (y11, 2, .inl (upd (upd (fun _ => 0) 0 (-1)) 1 (-1)))), (m12, .inl (y12, 4, .inl (fun _ => 0))), (ot, .inl (cL, 1, .inr (.inl u_4)))] H := hP
        have hD : va_D (fun q : Nat => s.heap.size ≤ q) [(mo, .inr (6, [.int 0, .int 0, .int 0, .int 0, .ref m4, .ref m5, .ref m6, .ref m7, .ref m8, .ref m9, .ref m10, .ref m11, .ref m12, .int 1, .int 0, .int 0, .ref m16, .ref m17, .ref m18, .int 0, .int 0, .int 0, .int 0, .int 0, .int 0, .int 0, .int 0, .ref m27, .int 0, .ref m29, .ref m30, .ref m31])), (m4, .inl (y4, 700, .inl (fun _ => 0))), (m5, .inl (y5, 700, .inl (fun _ => 0))), (m6, .inl (y6, 700, .inl (fun _ => 0))), (m7, .inl (y7, 96, .inl (fun _ => 0))), (m8, .inl (y8, 2, .inl (upd (upd (fun _ => 0) 0 2) 1 2))), (m9, .inl (y9, 2, .inl (fun _ => 0))), (m10, .inl (y10, 2, .inl (fun _ => 0))), (m11, .inl (y11, 2, .inl (upd (upd (fun _ => 0) 0 (-1)) 1 (-1)))), (m12, .inl (y12, 4, .inl (fun _ => 0))), (ot, .inl (cL, 1, .inr (.inl u_4)))] := hD
        have hK : va_K (dC, dI) vwCl [(cI, .int), (cZ, .boolean), (cB, .object "ParkTower$Bay"), (y4, .int), (y5, .int), (y6, .int), (y7, .int), (y8, .int), (y9, .int), (y10, .boolean), (y11, .int), (y12, .boolean), (cL, .long)] s := hK
        refine W.widen (k := 37) (n := 2564) (by omega) (by omega) ?_
        obtain rfl : r_4 = 1 := hw_4.1.trans (if_neg (fun q => hkn q.2))
        refine lv_istore (lv' := [(5, .int 1), (4, .int 0), (3, .ref ot), (2, .ref mo), (1, .ref x), (0, .ref b)]) hx hb dL_law_717 hl (by decide) rfl (fun ls hl => ?_)
        refine lv_aload_n hx hb dL_law_719 rfl (lv_at hl 3 rfl) ?_
        refine lv_aload_n hx hb dL_law_720 rfl (lv_at hl 5 rfl) ?_
        refine lv_iload hx hb dL_law_721 (lv_at hl 1 rfl) ?_
        refine lv_iconst (v := 1) hx hb dL_law_723 (by decide) ?_
        refine lv_iadd hx hb dL_law_724 ?_
        refine pt_topi 1 (by decide) ?_
        refine va_sld hx hb hX hbl hbA hS (vp_in_iff.mpr (by decide)) dL_law_725 ?_
        refine pt_topi 0 e1 ?_
        refine lv_aload_n hx hb dL_law_726 rfl (lv_at hl 5 rfl) ?_
        refine lv_iload hx hb dL_law_727 (lv_at hl 1 rfl) ?_
        refine lv_iconst (v := 2) hx hb dL_law_729 (by decide) ?_
        refine lv_iadd hx hb dL_law_730 ?_
        refine pt_topi 2 (by decide) ?_
        refine va_sld hx hb hX hbl hbA hS (vp_in_iff.mpr (by decide)) dL_law_731 ?_
        refine pt_topi v2 e2 ?_
        have hPc := hP.sub (ws' := [(mo, .inr (6, [.int 0, .int 0, .int 0, .int 0, .ref m4, .ref m5, .ref m6, .ref m7, .ref m8, .ref m9, .ref m10, .ref m11, .ref m12, .int 1, .int 0, .int 0, .ref m16, .ref m17, .ref m18, .int 0, .int 0, .int 0, .int 0, .int 0, .int 0, .int 0, .int 0, .ref m27, .int 0, .ref m29, .ref m30, .ref m31])), (m4, .inl (y4, 700, .inl (fun _ => 0))), (m5, .inl (y5, 700, .inl (fun _ => 0))), (m6, .inl (y6, 700, .inl (fun _ => 0))), (m7, .inl (y7, 96, .inl (fun _ => 0))), (m8, .inl (y8, 2, .inl (upd (upd (fun _ => 0) 0 2) 1 2))), (m9, .inl (y9, 2, .inl (fun _ => 0))), (m10, .inl (y10, 2, .inl (fun _ => 0))), (m11, .inl (y11, 2, .inl (upd (upd (fun _ => 0) 0 (-1)) 1 (-1)))), (m12, .inl (y12, 4, .inl (fun _ => 0)))]) [0, 1, 2, 3, 4, 5, 6, 7, 8, 9] rfl
        have hDc := hD.sub (ws' := [(mo, .inr (6, [.int 0, .int 0, .int 0, .int 0, .ref m4, .ref m5, .ref m6, .ref m7, .ref m8, .ref m9, .ref m10, .ref m11, .ref m12, .int 1, .int 0, .int 0, .ref m16, .ref m17, .ref m18, .int 0, .int 0, .int 0, .int 0, .int 0, .int 0, .int 0, .int 0, .ref m27, .int 0, .ref m29, .ref m30, .ref m31])), (m4, .inl (y4, 700, .inl (fun _ => 0))), (m5, .inl (y5, 700, .inl (fun _ => 0))), (m6, .inl (y6, 700, .inl (fun _ => 0))), (m7, .inl (y7, 96, .inl (fun _ => 0))), (m8, .inl (y8, 2, .inl (upd (upd (fun _ => 0) 0 2) 1 2))), (m9, .inl (y9, 2, .inl (fun _ => 0))), (m10, .inl (y10, 2, .inl (fun _ => 0))), (m11, .inl (y11, 2, .inl (upd (upd (fun _ => 0) 0 (-1)) 1 (-1)))), (m12, .inl (y12, 4, .inl (fun _ => 0)))]) [0, 1, 2, 3, 4, 5, 6, 7, 8, 9] (by decide) rfl
        have hKc := hK.sub (tys' := [(y4, .int), (y5, .int), (y6, .int), (y7, .int), (y8, .int), (y9, .int), (y10, .boolean), (y11, .int), (y12, .boolean)]) [3, 4, 5, 6, 7, 8, 9, 10, 11] rfl
        have hFc := va_free (wc := [(mo, .inr (6, [.int 0, .int 0, .int 0, .int 0, .ref m4, .ref m5, .ref m6, .ref m7, .ref m8, .ref m9, .ref m10, .ref m11, .ref m12, .int 1, .int 0, .int 0, .ref m16, .ref m17, .ref m18, .int 0, .int 0, .int 0, .int 0, .int 0, .int 0, .int 0, .int 0, .ref m27, .int 0, .ref m29, .ref m30, .ref m31])), (m4, .inl (y4, 700, .inl (fun _ => 0))), (m5, .inl (y5, 700, .inl (fun _ => 0))), (m6, .inl (y6, 700, .inl (fun _ => 0))), (m7, .inl (y7, 96, .inl (fun _ => 0))), (m8, .inl (y8, 2, .inl (upd (upd (fun _ => 0) 0 2) 1 2))), (m9, .inl (y9, 2, .inl (fun _ => 0))), (m10, .inl (y10, 2, .inl (fun _ => 0))), (m11, .inl (y11, 2, .inl (upd (upd (fun _ => 0) 0 (-1)) 1 (-1)))), (m12, .inl (y12, 4, .inl (fun _ => 0)))]) hD hS hA [0, 1, 2, 3, 4, 5, 6, 7, 8, 9] rfl
        refine va_calli (va_runV (As := [.int 0, .int v2]) (rest := []) ⟨hx, hb, hml, hown, hts⟩ (m_bayK0 l dC dI _ mo m4 m5 m6 m7 m8 m9 m10 m11 m12 m16 m17 m18 m27 m29 m30 m31 y4 y5 y6 y7 y8 y9 y10 y11 y12 v2 (pt_out (lo := 0) (hi := 4) (by decide) (by decide) hk)) (cwV 2 hts gk_X8_bay rfl rfl rfl (by decide +kernel) ⟨Nat.le_of_ble_eq_true rfl, Nat.le_of_ble_eq_true rfl⟩) ⟨pt_blindQ, va_recv hK hP (ci := 6) (q0 := 0) rfl rfl, pt_preQ hPc hKc hDc hN⟩ rfl rfl hl.1 rfl (lv_room (Nat.le_of_ble_eq_true rfl)) dL_law_732 ⟨Nat.le_of_ble_eq_true rfl, Nat.le_of_ble_eq_true rfl⟩) hS (fun q _ h => hFc q h) hFc (fun r_5 u_5 t H1 locs ht hvm hw_5 hB hz1 hk1 hS => ?_)
        obtain ⟨hP1, hK1, hD1⟩ := hB
        rw [ht] at hP1
        have hK1 := va_K.moved hvm.symm hK1
        obtain ⟨hP, hD⟩ := va_join (wr := [(ot, .inl (cL, 1, .inr (.inl u_4)))]) (w1 := [(mo, .inr (6, .int u_5.1 :: u_5.2))]) hP hD [0, 1, 2, 3, 4, 5, 6, 7, 8, 9] [10] rfl rfl (by decide) (by decide) hk1 hFc hP1 hD1
        have hK := hK.app hK1
        generalize H1 = H at hP hS ⊢
        have hP : va_P (dC, dI) vwCl [(ot, .inl (cL, 1, .inr (.inl u_4))), (mo, .inr (6, .int u_5.1 :: u_5.2))] H := hP
        have hD : va_D (fun q : Nat => s.heap.size ≤ q) [(ot, .inl (cL, 1, .inr (.inl u_4))), (mo, .inr (6, .int u_5.1 :: u_5.2))] := hD
        have hK : va_K (dC, dI) vwCl [(cI, .int), (cZ, .boolean), (cB, .object "ParkTower$Bay"), (y4, .int), (y5, .int), (y6, .int), (y7, .int), (y8, .int), (y9, .int), (y10, .boolean), (y11, .int), (y12, .boolean), (cL, .long)] s := hK
        refine W.widen (k := 37) (n := 2564) (by omega) (by omega) ?_
        refine lv_istore (lv' := [(6, .int r_5), (5, .int 1), (4, .int 0), (3, .ref ot), (2, .ref mo), (1, .ref x), (0, .ref b)]) hx hb dL_law_735 hl (by decide) rfl (fun ls hl => ?_)
        refine lv_aload_n hx hb dL_law_737 rfl (lv_at hl 4 rfl) ?_
        refine pt_cSi (va_runV (As := []) (rest := []) ⟨hx, hb, hml, hown, hts⟩ (c_thrown l dC dI mo u_5.1 u_5.2) (cwV 0 hts gk_X8_thrown rfl rfl rfl (by decide +kernel) ⟨Nat.le_of_ble_eq_true rfl, Nat.le_of_ble_eq_true rfl⟩) ⟨pt_blind, va_recv hK hP (ci := 6) (q0 := 1) rfl rfl, pt_pre (w := [(mo, .inr (6, .int u_5.1 :: u_5.2))]) (tys := []) (hP.sub [1] rfl) (hK.sub [] rfl) hN⟩ rfl rfl hl.1 rfl (lv_room (Nat.le_of_ble_eq_true rfl)) dL_law_738 ⟨Nat.le_of_ble_eq_true rfl, Nat.le_of_ble_eq_true rfl⟩) (fun r_6 hr_6 => ?_)
        obtain rfl : r_6 = 1 := hr_6.trans hw_5.1
        refine lv_iload hx hb dL_law_741 (lv_at hl 1 rfl) ?_
        refine lv_icmp_eq (tgt := 748) hx hb dL_law_743 (by decide) (fun _ => ?_) (fun c => absurd (by decide) c)
        refine lv_iload hx hb dL_law_748 (lv_at hl 1 rfl) ?_
        refine lv_if_ne (tgt := 765) hx hb dL_law_750 (by decide) (fun _ => ?_) (fun c => absurd c (by decide))
        refine lv_goto (tgt := 824) hx hb dL_law_765 (by decide) ?_
        exact law_end l C0 (Nat.le_of_ble_eq_true rfl) (Nat.le_of_ble_eq_true rfl) hS ls (lv_sub hl [2, 6] rfl)
      · skip
        refine lv_aload_n hx hb dL_law_700 rfl (lv_at hl 3 rfl) ?_
        refine lv_aload_n hx hb dL_law_701 rfl (lv_at hl 4 rfl) ?_
        refine lv_iload hx hb dL_law_702 (lv_at hl 0 rfl) ?_
        refine lv_iconst (v := 1) hx hb dL_law_704 (by decide) ?_
        refine lv_iadd hx hb dL_law_705 ?_
        refine pt_topi 1 (by decide) ?_
        refine va_sld hx hb hX hbl hbA hS (vp_in_iff.mpr (by decide)) dL_law_706 ?_
        refine pt_topi 1 e1 ?_
        refine lv_aload_n hx hb dL_law_707 rfl (lv_at hl 4 rfl) ?_
        refine lv_iload hx hb dL_law_708 (lv_at hl 0 rfl) ?_
        refine lv_iconst (v := 2) hx hb dL_law_710 (by decide) ?_
        refine lv_iadd hx hb dL_law_711 ?_
        refine pt_topi 2 (by decide) ?_
        refine va_sld hx hb hX hbl hbA hS (vp_in_iff.mpr (by decide)) dL_law_712 ?_
        refine pt_topi v2 e2 ?_
        refine lv_aload_n hx hb dL_law_713 rfl (lv_at hl 1 rfl) ?_
        have hPc := hP.sub (ws' := [(x, .inr (5, [.ref rk, .ref bs, .ref od, .ref jb, .ref ap, .int 0, .int 1, .int 0, .int 0, .int 0])), (rk, .inr (4, [.ref hd, .ref jm])), (hd, .inl (cI, 96, .inl (fun _ => 0))), (jm, .inl (cZ, 4, .inl (fun _ => 0))), (bs, .inl (cB, 2, .inr (.inr (.inr (.inr (va_up (va_up (fun _ => none) 0 (some b0)) 1 (some b1))))))), (b0, .inr (0, [.int 2, .int 0, .int 0, .int 0, .int 0, .int (-1)])), (b1, .inr (0, [.int 2, .int 0, .int 0, .int 0, .int 0, .int (-1)])), (od, .inr (2, [.ref o1, .ref o2, .ref o3, .int 0])), (jb, .inr (1, [.ref pl, .int (-1), .int 0, .int 0, .int 0])), (ot, .inl (cL, 1, .inr (.inl (fun _ => 0))))]) [0, 1, 2, 3, 4, 5, 6, 7, 8, 19] rfl
        have hDc := hD.sub (ws' := [(x, .inr (5, [.ref rk, .ref bs, .ref od, .ref jb, .ref ap, .int 0, .int 1, .int 0, .int 0, .int 0])), (rk, .inr (4, [.ref hd, .ref jm])), (hd, .inl (cI, 96, .inl (fun _ => 0))), (jm, .inl (cZ, 4, .inl (fun _ => 0))), (bs, .inl (cB, 2, .inr (.inr (.inr (.inr (va_up (va_up (fun _ => none) 0 (some b0)) 1 (some b1))))))), (b0, .inr (0, [.int 2, .int 0, .int 0, .int 0, .int 0, .int (-1)])), (b1, .inr (0, [.int 2, .int 0, .int 0, .int 0, .int 0, .int (-1)])), (od, .inr (2, [.ref o1, .ref o2, .ref o3, .int 0])), (jb, .inr (1, [.ref pl, .int (-1), .int 0, .int 0, .int 0])), (ot, .inl (cL, 1, .inr (.inl (fun _ => 0))))]) [0, 1, 2, 3, 4, 5, 6, 7, 8, 19] (by decide) rfl
        have hKc := hK.sub (tys' := [(cI, .int), (cZ, .boolean), (cB, .object "ParkTower$Bay"), (cL, .long)]) [0, 1, 2, 12] rfl
        have hFc := va_free (wc := [(x, .inr (5, [.ref rk, .ref bs, .ref od, .ref jb, .ref ap, .int 0, .int 1, .int 0, .int 0, .int 0])), (rk, .inr (4, [.ref hd, .ref jm])), (hd, .inl (cI, 96, .inl (fun _ => 0))), (jm, .inl (cZ, 4, .inl (fun _ => 0))), (bs, .inl (cB, 2, .inr (.inr (.inr (.inr (va_up (va_up (fun _ => none) 0 (some b0)) 1 (some b1))))))), (b0, .inr (0, [.int 2, .int 0, .int 0, .int 0, .int 0, .int (-1)])), (b1, .inr (0, [.int 2, .int 0, .int 0, .int 0, .int 0, .int (-1)])), (od, .inr (2, [.ref o1, .ref o2, .ref o3, .int 0])), (jb, .inr (1, [.ref pl, .int (-1), .int 0, .int 0, .int 0])), (ot, .inl (cL, 1, .inr (.inl (fun _ => 0))))]) hD hS hA [0, 1, 2, 3, 4, 5, 6, 7, 8, 19] rfl
        refine va_calli (vx_runSW (As := [.ref x, .int 1, .int v2, .ref ot]) (rest := []) ⟨hx, hb, hml, hown, hts⟩ (w_bay l hlt dC dI _ x rk hd jm bs b0 b1 od o1 o2 o3 jb pl ap cI cZ cB ot cL (fun _ => 0) 1 v2) (vx_cwSW 4 hts gk_L_bay rfl rfl rfl (by decide +kernel) ⟨Nat.le_of_ble_eq_true rfl, Nat.le_of_ble_eq_true rfl⟩) ⟨pt_blindT, pt_preT hPc hKc hDc hN hE (pt_Z.up hZ (fun q h1 h2 => hS.2.1 q h1 h2) hS.1)⟩ rfl rfl hl.1 rfl (lv_room (Nat.le_of_ble_eq_true rfl)) dL_law_714 ⟨Nat.le_of_ble_eq_true rfl, Nat.le_of_ble_eq_true rfl⟩) hS (fun q _ h => hFc q h) hFc (fun r_7 u_7 t H1 locs ht hvm hw_7 hB hz1 hk1 hS => ?_)
        obtain ⟨hP1, hK1, hD1⟩ := hB
        rw [ht] at hP1
        have hK1 := va_K.moved hvm.symm hK1
        obtain ⟨hP, hD⟩ := va_join (wr := [(mo, .inr (6, [.int 0, .int 0, .int 0, .int 0, .ref m4, .ref m5, .ref m6, .ref m7, .ref m8, .ref m9, .ref m10, .ref m11, .ref m12, .int 1, .int 0, .int 0, .ref m16, .ref m17, .ref m18, .int 0, .int 0, .int 0, .int 0, .int 0, .int 0, .int 0, .int 0, .ref m27, .int 0, .ref m29, .ref m30, .ref m31])), (m4, .inl (y4, 700, .inl (fun _ => 0))), (m5, .inl (y5, 700, .inl (fun _ => 0))), (m6, .inl (y6, 700, .inl (fun _ => 0))), (m7, .inl (y7, 96, .inl (fun _ => 0))), (m8, .inl (y8, 2, .inl (upd (upd (fun _ => 0) 0 2) 1 2))), (m9, .inl (y9, 2, .inl (fun _ => 0))), (m10, .inl (y10, 2, .inl (fun _ => 0))), (m11, .inl (y11, 2, .inl (upd (upd (fun _ => 0) 0 (-1)) 1 (-1)))), (m12, .inl (y12, 4, .inl (fun _ => 0)))]) (w1 := [(ot, .inl (cL, 1, .inr (.inl u_7)))]) hP hD [0, 1, 2, 3, 4, 5, 6, 7, 8, 19] [9, 10, 11, 12, 13, 14, 15, 16, 17, 18] rfl rfl (by decide) (by decide) hk1 hFc hP1 hD1
        have hK := hK.app hK1
        generalize H1 = H at hP hS ⊢
        have hP : va_P (dC, dI) vwCl [(mo, .inr (6, [.int 0, .int 0, .int 0, .int 0, .ref m4, .ref m5, .ref m6, .ref m7, .ref m8, .ref m9, .ref m10, .ref m11, .ref m12, .int 1, .int 0, .int 0, .ref m16, .ref m17, .ref m18, .int 0, .int 0, .int 0, .int 0, .int 0, .int 0, .int 0, .int 0, .ref m27, .int 0, .ref m29, .ref m30, .ref m31])), (m4, .inl (y4, 700, .inl (fun _ => 0))), (m5, .inl (y5, 700, .inl (fun _ => 0))), (m6, .inl (y6, 700, .inl (fun _ => 0))), (m7, .inl (y7, 96, .inl (fun _ => 0))), (m8, .inl (y8, 2, .inl (upd (upd (fun _ => 0) 0 2) 1 2))), (m9, .inl (y9, 2, .inl (fun _ => 0))), (m10, .inl (y10, 2, .inl (fun _ => 0))), (m11, .inl (y11, 2, .inl (upd (upd (fun _ => 0) 0 (-1)) 1 (-1)))), (m12, .inl (y12, 4, .inl (fun _ => 0))), (ot, .inl (cL, 1, .inr (.inl u_7)))] H := hP
        have hD : va_D (fun q : Nat => s.heap.size ≤ q) [(mo, .inr (6, [.int 0, .int 0, .int 0, .int 0, .ref m4, .ref m5, .ref m6, .ref m7, .ref m8, .ref m9, .ref m10, .ref m11, .ref m12, .int 1, .int 0, .int 0, .ref m16, .ref m17, .ref m18, .int 0, .int 0, .int 0, .int 0, .int 0, .int 0, .int 0, .int 0, .ref m27, .int 0, .ref m29, .ref m30, .ref m31])), (m4, .inl (y4, 700, .inl (fun _ => 0))), (m5, .inl (y5, 700, .inl (fun _ => 0))), (m6, .inl (y6, 700, .inl (fun _ => 0))), (m7, .inl (y7, 96, .inl (fun _ => 0))), (m8, .inl (y8, 2, .inl (upd (upd (fun _ => 0) 0 2) 1 2))), (m9, .inl (y9, 2, .inl (fun _ => 0))), (m10, .inl (y10, 2, .inl (fun _ => 0))), (m11, .inl (y11, 2, .inl (upd (upd (fun _ => 0) 0 (-1)) 1 (-1)))), (m12, .inl (y12, 4, .inl (fun _ => 0))), (ot, .inl (cL, 1, .inr (.inl u_7)))] := hD
        have hK : va_K (dC, dI) vwCl [(cI, .int), (cZ, .boolean), (cB, .object "ParkTower$Bay"), (y4, .int), (y5, .int), (y6, .int), (y7, .int), (y8, .int), (y9, .int), (y10, .boolean), (y11, .int), (y12, .boolean), (cL, .long)] s := hK
        refine W.widen (k := 37) (n := 2564) (by omega) (by omega) ?_
        obtain rfl : r_7 = 1 := hw_7.1.trans (if_neg (fun q => hkn q.2))
        refine lv_istore (lv' := [(5, .int 1), (4, .int 0), (3, .ref ot), (2, .ref mo), (1, .ref x), (0, .ref b)]) hx hb dL_law_717 hl (by decide) rfl (fun ls hl => ?_)
        refine lv_aload_n hx hb dL_law_719 rfl (lv_at hl 3 rfl) ?_
        refine lv_aload_n hx hb dL_law_720 rfl (lv_at hl 5 rfl) ?_
        refine lv_iload hx hb dL_law_721 (lv_at hl 1 rfl) ?_
        refine lv_iconst (v := 1) hx hb dL_law_723 (by decide) ?_
        refine lv_iadd hx hb dL_law_724 ?_
        refine pt_topi 1 (by decide) ?_
        refine va_sld hx hb hX hbl hbA hS (vp_in_iff.mpr (by decide)) dL_law_725 ?_
        refine pt_topi 1 e1 ?_
        refine lv_aload_n hx hb dL_law_726 rfl (lv_at hl 5 rfl) ?_
        refine lv_iload hx hb dL_law_727 (lv_at hl 1 rfl) ?_
        refine lv_iconst (v := 2) hx hb dL_law_729 (by decide) ?_
        refine lv_iadd hx hb dL_law_730 ?_
        refine pt_topi 2 (by decide) ?_
        refine va_sld hx hb hX hbl hbA hS (vp_in_iff.mpr (by decide)) dL_law_731 ?_
        refine pt_topi v2 e2 ?_
        have hPc := hP.sub (ws' := [(mo, .inr (6, [.int 0, .int 0, .int 0, .int 0, .ref m4, .ref m5, .ref m6, .ref m7, .ref m8, .ref m9, .ref m10, .ref m11, .ref m12, .int 1, .int 0, .int 0, .ref m16, .ref m17, .ref m18, .int 0, .int 0, .int 0, .int 0, .int 0, .int 0, .int 0, .int 0, .ref m27, .int 0, .ref m29, .ref m30, .ref m31])), (m4, .inl (y4, 700, .inl (fun _ => 0))), (m5, .inl (y5, 700, .inl (fun _ => 0))), (m6, .inl (y6, 700, .inl (fun _ => 0))), (m7, .inl (y7, 96, .inl (fun _ => 0))), (m8, .inl (y8, 2, .inl (upd (upd (fun _ => 0) 0 2) 1 2))), (m9, .inl (y9, 2, .inl (fun _ => 0))), (m10, .inl (y10, 2, .inl (fun _ => 0))), (m11, .inl (y11, 2, .inl (upd (upd (fun _ => 0) 0 (-1)) 1 (-1)))), (m12, .inl (y12, 4, .inl (fun _ => 0)))]) [0, 1, 2, 3, 4, 5, 6, 7, 8, 9] rfl
        have hDc := hD.sub (ws' := [(mo, .inr (6, [.int 0, .int 0, .int 0, .int 0, .ref m4, .ref m5, .ref m6, .ref m7, .ref m8, .ref m9, .ref m10, .ref m11, .ref m12, .int 1, .int 0, .int 0, .ref m16, .ref m17, .ref m18, .int 0, .int 0, .int 0, .int 0, .int 0, .int 0, .int 0, .int 0, .ref m27, .int 0, .ref m29, .ref m30, .ref m31])), (m4, .inl (y4, 700, .inl (fun _ => 0))), (m5, .inl (y5, 700, .inl (fun _ => 0))), (m6, .inl (y6, 700, .inl (fun _ => 0))), (m7, .inl (y7, 96, .inl (fun _ => 0))), (m8, .inl (y8, 2, .inl (upd (upd (fun _ => 0) 0 2) 1 2))), (m9, .inl (y9, 2, .inl (fun _ => 0))), (m10, .inl (y10, 2, .inl (fun _ => 0))), (m11, .inl (y11, 2, .inl (upd (upd (fun _ => 0) 0 (-1)) 1 (-1)))), (m12, .inl (y12, 4, .inl (fun _ => 0)))]) [0, 1, 2, 3, 4, 5, 6, 7, 8, 9] (by decide) rfl
        have hKc := hK.sub (tys' := [(y4, .int), (y5, .int), (y6, .int), (y7, .int), (y8, .int), (y9, .int), (y10, .boolean), (y11, .int), (y12, .boolean)]) [3, 4, 5, 6, 7, 8, 9, 10, 11] rfl
        have hFc := va_free (wc := [(mo, .inr (6, [.int 0, .int 0, .int 0, .int 0, .ref m4, .ref m5, .ref m6, .ref m7, .ref m8, .ref m9, .ref m10, .ref m11, .ref m12, .int 1, .int 0, .int 0, .ref m16, .ref m17, .ref m18, .int 0, .int 0, .int 0, .int 0, .int 0, .int 0, .int 0, .int 0, .ref m27, .int 0, .ref m29, .ref m30, .ref m31])), (m4, .inl (y4, 700, .inl (fun _ => 0))), (m5, .inl (y5, 700, .inl (fun _ => 0))), (m6, .inl (y6, 700, .inl (fun _ => 0))), (m7, .inl (y7, 96, .inl (fun _ => 0))), (m8, .inl (y8, 2, .inl (upd (upd (fun _ => 0) 0 2) 1 2))), (m9, .inl (y9, 2, .inl (fun _ => 0))), (m10, .inl (y10, 2, .inl (fun _ => 0))), (m11, .inl (y11, 2, .inl (upd (upd (fun _ => 0) 0 (-1)) 1 (-1)))), (m12, .inl (y12, 4, .inl (fun _ => 0)))]) hD hS hA [0, 1, 2, 3, 4, 5, 6, 7, 8, 9] rfl
        refine va_calli (va_runV (As := [.int 1, .int v2]) (rest := []) ⟨hx, hb, hml, hown, hts⟩ (m_bayK1 l dC dI _ mo m4 m5 m6 m7 m8 m9 m10 m11 m12 m16 m17 m18 m27 m29 m30 m31 y4 y5 y6 y7 y8 y9 y10 y11 y12 v2 (pt_out (lo := 0) (hi := 4) (by decide) (by decide) hk)) (cwV 2 hts gk_X8_bay rfl rfl rfl (by decide +kernel) ⟨Nat.le_of_ble_eq_true rfl, Nat.le_of_ble_eq_true rfl⟩) ⟨pt_blindQ, va_recv hK hP (ci := 6) (q0 := 0) rfl rfl, pt_preQ hPc hKc hDc hN⟩ rfl rfl hl.1 rfl (lv_room (Nat.le_of_ble_eq_true rfl)) dL_law_732 ⟨Nat.le_of_ble_eq_true rfl, Nat.le_of_ble_eq_true rfl⟩) hS (fun q _ h => hFc q h) hFc (fun r_8 u_8 t H1 locs ht hvm hw_8 hB hz1 hk1 hS => ?_)
        obtain ⟨hP1, hK1, hD1⟩ := hB
        rw [ht] at hP1
        have hK1 := va_K.moved hvm.symm hK1
        obtain ⟨hP, hD⟩ := va_join (wr := [(ot, .inl (cL, 1, .inr (.inl u_7)))]) (w1 := [(mo, .inr (6, .int u_8.1 :: u_8.2))]) hP hD [0, 1, 2, 3, 4, 5, 6, 7, 8, 9] [10] rfl rfl (by decide) (by decide) hk1 hFc hP1 hD1
        have hK := hK.app hK1
        generalize H1 = H at hP hS ⊢
        have hP : va_P (dC, dI) vwCl [(ot, .inl (cL, 1, .inr (.inl u_7))), (mo, .inr (6, .int u_8.1 :: u_8.2))] H := hP
        have hD : va_D (fun q : Nat => s.heap.size ≤ q) [(ot, .inl (cL, 1, .inr (.inl u_7))), (mo, .inr (6, .int u_8.1 :: u_8.2))] := hD
        have hK : va_K (dC, dI) vwCl [(cI, .int), (cZ, .boolean), (cB, .object "ParkTower$Bay"), (y4, .int), (y5, .int), (y6, .int), (y7, .int), (y8, .int), (y9, .int), (y10, .boolean), (y11, .int), (y12, .boolean), (cL, .long)] s := hK
        refine W.widen (k := 37) (n := 2564) (by omega) (by omega) ?_
        refine lv_istore (lv' := [(6, .int r_8), (5, .int 1), (4, .int 0), (3, .ref ot), (2, .ref mo), (1, .ref x), (0, .ref b)]) hx hb dL_law_735 hl (by decide) rfl (fun ls hl => ?_)
        refine lv_aload_n hx hb dL_law_737 rfl (lv_at hl 4 rfl) ?_
        refine pt_cSi (va_runV (As := []) (rest := []) ⟨hx, hb, hml, hown, hts⟩ (c_thrown l dC dI mo u_8.1 u_8.2) (cwV 0 hts gk_X8_thrown rfl rfl rfl (by decide +kernel) ⟨Nat.le_of_ble_eq_true rfl, Nat.le_of_ble_eq_true rfl⟩) ⟨pt_blind, va_recv hK hP (ci := 6) (q0 := 1) rfl rfl, pt_pre (w := [(mo, .inr (6, .int u_8.1 :: u_8.2))]) (tys := []) (hP.sub [1] rfl) (hK.sub [] rfl) hN⟩ rfl rfl hl.1 rfl (lv_room (Nat.le_of_ble_eq_true rfl)) dL_law_738 ⟨Nat.le_of_ble_eq_true rfl, Nat.le_of_ble_eq_true rfl⟩) (fun r_9 hr_9 => ?_)
        obtain rfl : r_9 = 1 := hr_9.trans hw_8.1
        refine lv_iload hx hb dL_law_741 (lv_at hl 1 rfl) ?_
        refine lv_icmp_eq (tgt := 748) hx hb dL_law_743 (by decide) (fun _ => ?_) (fun c => absurd (by decide) c)
        refine lv_iload hx hb dL_law_748 (lv_at hl 1 rfl) ?_
        refine lv_if_ne (tgt := 765) hx hb dL_law_750 (by decide) (fun _ => ?_) (fun c => absurd c (by decide))
        refine lv_goto (tgt := 824) hx hb dL_law_765 (by decide) ?_
        exact law_end l C0 (Nat.le_of_ble_eq_true rfl) (Nat.le_of_ble_eq_true rfl) hS ls (lv_sub hl [2, 6] rfl)
  · skip
    refine lv_aload_n hx hb dL_law_700 rfl (lv_at hl 3 rfl) ?_
    refine lv_aload_n hx hb dL_law_701 rfl (lv_at hl 4 rfl) ?_
    refine lv_iload hx hb dL_law_702 (lv_at hl 0 rfl) ?_
    refine lv_iconst (v := 1) hx hb dL_law_704 (by decide) ?_
    refine lv_iadd hx hb dL_law_705 ?_
    refine pt_topi 1 (by decide) ?_
    refine va_sld hx hb hX hbl hbA hS (vp_in_iff.mpr (by decide)) dL_law_706 ?_
    refine pt_topi v1 e1 ?_
    refine lv_aload_n hx hb dL_law_707 rfl (lv_at hl 4 rfl) ?_
    refine lv_iload hx hb dL_law_708 (lv_at hl 0 rfl) ?_
    refine lv_iconst (v := 2) hx hb dL_law_710 (by decide) ?_
    refine lv_iadd hx hb dL_law_711 ?_
    refine pt_topi 2 (by decide) ?_
    refine va_sld hx hb hX hbl hbA hS (vp_in_iff.mpr (by decide)) dL_law_712 ?_
    refine pt_topi v2 e2 ?_
    refine lv_aload_n hx hb dL_law_713 rfl (lv_at hl 1 rfl) ?_
    have hPc := hP.sub (ws' := [(x, .inr (5, [.ref rk, .ref bs, .ref od, .ref jb, .ref ap, .int 0, .int 1, .int 0, .int 0, .int 0])), (rk, .inr (4, [.ref hd, .ref jm])), (hd, .inl (cI, 96, .inl (fun _ => 0))), (jm, .inl (cZ, 4, .inl (fun _ => 0))), (bs, .inl (cB, 2, .inr (.inr (.inr (.inr (va_up (va_up (fun _ => none) 0 (some b0)) 1 (some b1))))))), (b0, .inr (0, [.int 2, .int 0, .int 0, .int 0, .int 0, .int (-1)])), (b1, .inr (0, [.int 2, .int 0, .int 0, .int 0, .int 0, .int (-1)])), (od, .inr (2, [.ref o1, .ref o2, .ref o3, .int 0])), (jb, .inr (1, [.ref pl, .int (-1), .int 0, .int 0, .int 0])), (ot, .inl (cL, 1, .inr (.inl (fun _ => 0))))]) [0, 1, 2, 3, 4, 5, 6, 7, 8, 19] rfl
    have hDc := hD.sub (ws' := [(x, .inr (5, [.ref rk, .ref bs, .ref od, .ref jb, .ref ap, .int 0, .int 1, .int 0, .int 0, .int 0])), (rk, .inr (4, [.ref hd, .ref jm])), (hd, .inl (cI, 96, .inl (fun _ => 0))), (jm, .inl (cZ, 4, .inl (fun _ => 0))), (bs, .inl (cB, 2, .inr (.inr (.inr (.inr (va_up (va_up (fun _ => none) 0 (some b0)) 1 (some b1))))))), (b0, .inr (0, [.int 2, .int 0, .int 0, .int 0, .int 0, .int (-1)])), (b1, .inr (0, [.int 2, .int 0, .int 0, .int 0, .int 0, .int (-1)])), (od, .inr (2, [.ref o1, .ref o2, .ref o3, .int 0])), (jb, .inr (1, [.ref pl, .int (-1), .int 0, .int 0, .int 0])), (ot, .inl (cL, 1, .inr (.inl (fun _ => 0))))]) [0, 1, 2, 3, 4, 5, 6, 7, 8, 19] (by decide) rfl
    have hKc := hK.sub (tys' := [(cI, .int), (cZ, .boolean), (cB, .object "ParkTower$Bay"), (cL, .long)]) [0, 1, 2, 12] rfl
    have hFc := va_free (wc := [(x, .inr (5, [.ref rk, .ref bs, .ref od, .ref jb, .ref ap, .int 0, .int 1, .int 0, .int 0, .int 0])), (rk, .inr (4, [.ref hd, .ref jm])), (hd, .inl (cI, 96, .inl (fun _ => 0))), (jm, .inl (cZ, 4, .inl (fun _ => 0))), (bs, .inl (cB, 2, .inr (.inr (.inr (.inr (va_up (va_up (fun _ => none) 0 (some b0)) 1 (some b1))))))), (b0, .inr (0, [.int 2, .int 0, .int 0, .int 0, .int 0, .int (-1)])), (b1, .inr (0, [.int 2, .int 0, .int 0, .int 0, .int 0, .int (-1)])), (od, .inr (2, [.ref o1, .ref o2, .ref o3, .int 0])), (jb, .inr (1, [.ref pl, .int (-1), .int 0, .int 0, .int 0])), (ot, .inl (cL, 1, .inr (.inl (fun _ => 0))))]) hD hS hA [0, 1, 2, 3, 4, 5, 6, 7, 8, 19] rfl
    refine va_calli (vx_runSW (As := [.ref x, .int v1, .int v2, .ref ot]) (rest := []) ⟨hx, hb, hml, hown, hts⟩ (w_bay l hlt dC dI _ x rk hd jm bs b0 b1 od o1 o2 o3 jb pl ap cI cZ cB ot cL (fun _ => 0) v1 v2) (vx_cwSW 4 hts gk_L_bay rfl rfl rfl (by decide +kernel) ⟨Nat.le_of_ble_eq_true rfl, Nat.le_of_ble_eq_true rfl⟩) ⟨pt_blindT, pt_preT hPc hKc hDc hN hE (pt_Z.up hZ (fun q h1 h2 => hS.2.1 q h1 h2) hS.1)⟩ rfl rfl hl.1 rfl (lv_room (Nat.le_of_ble_eq_true rfl)) dL_law_714 ⟨Nat.le_of_ble_eq_true rfl, Nat.le_of_ble_eq_true rfl⟩) hS (fun q _ h => hFc q h) hFc (fun r_10 u_10 t H1 locs ht hvm hw_10 hB hz1 hk1 hS => ?_)
    obtain ⟨hP1, hK1, hD1⟩ := hB
    rw [ht] at hP1
    have hK1 := va_K.moved hvm.symm hK1
    obtain ⟨hP, hD⟩ := va_join (wr := [(mo, .inr (6, [.int 0, .int 0, .int 0, .int 0, .ref m4, .ref m5, .ref m6, .ref m7, .ref m8, .ref m9, .ref m10, .ref m11, .ref m12, .int 1, .int 0, .int 0, .ref m16, .ref m17, .ref m18, .int 0, .int 0, .int 0, .int 0, .int 0, .int 0, .int 0, .int 0, .ref m27, .int 0, .ref m29, .ref m30, .ref m31])), (m4, .inl (y4, 700, .inl (fun _ => 0))), (m5, .inl (y5, 700, .inl (fun _ => 0))), (m6, .inl (y6, 700, .inl (fun _ => 0))), (m7, .inl (y7, 96, .inl (fun _ => 0))), (m8, .inl (y8, 2, .inl (upd (upd (fun _ => 0) 0 2) 1 2))), (m9, .inl (y9, 2, .inl (fun _ => 0))), (m10, .inl (y10, 2, .inl (fun _ => 0))), (m11, .inl (y11, 2, .inl (upd (upd (fun _ => 0) 0 (-1)) 1 (-1)))), (m12, .inl (y12, 4, .inl (fun _ => 0)))]) (w1 := [(ot, .inl (cL, 1, .inr (.inl u_10)))]) hP hD [0, 1, 2, 3, 4, 5, 6, 7, 8, 19] [9, 10, 11, 12, 13, 14, 15, 16, 17, 18] rfl rfl (by decide) (by decide) hk1 hFc hP1 hD1
    have hK := hK.app hK1
    generalize H1 = H at hP hS ⊢
    have hP : va_P (dC, dI) vwCl [(mo, .inr (6, [.int 0, .int 0, .int 0, .int 0, .ref m4, .ref m5, .ref m6, .ref m7, .ref m8, .ref m9, .ref m10, .ref m11, .ref m12, .int 1, .int 0, .int 0, .ref m16, .ref m17, .ref m18, .int 0, .int 0, .int 0, .int 0, .int 0, .int 0, .int 0, .int 0, .ref m27, .int 0, .ref m29, .ref m30, .ref m31])), (m4, .inl (y4, 700, .inl (fun _ => 0))), (m5, .inl (y5, 700, .inl (fun _ => 0))), (m6, .inl (y6, 700, .inl (fun _ => 0))), (m7, .inl (y7, 96, .inl (fun _ => 0))), (m8, .inl (y8, 2, .inl (upd (upd (fun _ => 0) 0 2) 1 2))), (m9, .inl (y9, 2, .inl (fun _ => 0))), (m10, .inl (y10, 2, .inl (fun _ => 0))), (m11, .inl (y11, 2, .inl (upd (upd (fun _ => 0) 0 (-1)) 1 (-1)))), (m12, .inl (y12, 4, .inl (fun _ => 0))), (ot, .inl (cL, 1, .inr (.inl u_10)))] H := hP
    have hD : va_D (fun q : Nat => s.heap.size ≤ q) [(mo, .inr (6, [.int 0, .int 0, .int 0, .int 0, .ref m4, .ref m5, .ref m6, .ref m7, .ref m8, .ref m9, .ref m10, .ref m11, .ref m12, .int 1, .int 0, .int 0, .ref m16, .ref m17, .ref m18, .int 0, .int 0, .int 0, .int 0, .int 0, .int 0, .int 0, .int 0, .ref m27, .int 0, .ref m29, .ref m30, .ref m31])), (m4, .inl (y4, 700, .inl (fun _ => 0))), (m5, .inl (y5, 700, .inl (fun _ => 0))), (m6, .inl (y6, 700, .inl (fun _ => 0))), (m7, .inl (y7, 96, .inl (fun _ => 0))), (m8, .inl (y8, 2, .inl (upd (upd (fun _ => 0) 0 2) 1 2))), (m9, .inl (y9, 2, .inl (fun _ => 0))), (m10, .inl (y10, 2, .inl (fun _ => 0))), (m11, .inl (y11, 2, .inl (upd (upd (fun _ => 0) 0 (-1)) 1 (-1)))), (m12, .inl (y12, 4, .inl (fun _ => 0))), (ot, .inl (cL, 1, .inr (.inl u_10)))] := hD
    have hK : va_K (dC, dI) vwCl [(cI, .int), (cZ, .boolean), (cB, .object "ParkTower$Bay"), (y4, .int), (y5, .int), (y6, .int), (y7, .int), (y8, .int), (y9, .int), (y10, .boolean), (y11, .int), (y12, .boolean), (cL, .long)] s := hK
    refine W.widen (k := 37) (n := 2564) (by omega) (by omega) ?_
    obtain rfl : r_10 = 1 := hw_10.1.trans (if_neg (fun q => hok q.1))
    refine lv_istore (lv' := [(5, .int 1), (4, .int 0), (3, .ref ot), (2, .ref mo), (1, .ref x), (0, .ref b)]) hx hb dL_law_717 hl (by decide) rfl (fun ls hl => ?_)
    refine lv_aload_n hx hb dL_law_719 rfl (lv_at hl 3 rfl) ?_
    refine lv_aload_n hx hb dL_law_720 rfl (lv_at hl 5 rfl) ?_
    refine lv_iload hx hb dL_law_721 (lv_at hl 1 rfl) ?_
    refine lv_iconst (v := 1) hx hb dL_law_723 (by decide) ?_
    refine lv_iadd hx hb dL_law_724 ?_
    refine pt_topi 1 (by decide) ?_
    refine va_sld hx hb hX hbl hbA hS (vp_in_iff.mpr (by decide)) dL_law_725 ?_
    refine pt_topi v1 e1 ?_
    refine lv_aload_n hx hb dL_law_726 rfl (lv_at hl 5 rfl) ?_
    refine lv_iload hx hb dL_law_727 (lv_at hl 1 rfl) ?_
    refine lv_iconst (v := 2) hx hb dL_law_729 (by decide) ?_
    refine lv_iadd hx hb dL_law_730 ?_
    refine pt_topi 2 (by decide) ?_
    refine va_sld hx hb hX hbl hbA hS (vp_in_iff.mpr (by decide)) dL_law_731 ?_
    refine pt_topi v2 e2 ?_
    have hPc := hP.sub (ws' := [(mo, .inr (6, [.int 0, .int 0, .int 0, .int 0, .ref m4, .ref m5, .ref m6, .ref m7, .ref m8, .ref m9, .ref m10, .ref m11, .ref m12, .int 1, .int 0, .int 0, .ref m16, .ref m17, .ref m18, .int 0, .int 0, .int 0, .int 0, .int 0, .int 0, .int 0, .int 0, .ref m27, .int 0, .ref m29, .ref m30, .ref m31])), (m4, .inl (y4, 700, .inl (fun _ => 0))), (m5, .inl (y5, 700, .inl (fun _ => 0))), (m6, .inl (y6, 700, .inl (fun _ => 0))), (m7, .inl (y7, 96, .inl (fun _ => 0))), (m8, .inl (y8, 2, .inl (upd (upd (fun _ => 0) 0 2) 1 2))), (m9, .inl (y9, 2, .inl (fun _ => 0))), (m10, .inl (y10, 2, .inl (fun _ => 0))), (m11, .inl (y11, 2, .inl (upd (upd (fun _ => 0) 0 (-1)) 1 (-1)))), (m12, .inl (y12, 4, .inl (fun _ => 0)))]) [0, 1, 2, 3, 4, 5, 6, 7, 8, 9] rfl
    have hDc := hD.sub (ws' := [(mo, .inr (6, [.int 0, .int 0, .int 0, .int 0, .ref m4, .ref m5, .ref m6, .ref m7, .ref m8, .ref m9, .ref m10, .ref m11, .ref m12, .int 1, .int 0, .int 0, .ref m16, .ref m17, .ref m18, .int 0, .int 0, .int 0, .int 0, .int 0, .int 0, .int 0, .int 0, .ref m27, .int 0, .ref m29, .ref m30, .ref m31])), (m4, .inl (y4, 700, .inl (fun _ => 0))), (m5, .inl (y5, 700, .inl (fun _ => 0))), (m6, .inl (y6, 700, .inl (fun _ => 0))), (m7, .inl (y7, 96, .inl (fun _ => 0))), (m8, .inl (y8, 2, .inl (upd (upd (fun _ => 0) 0 2) 1 2))), (m9, .inl (y9, 2, .inl (fun _ => 0))), (m10, .inl (y10, 2, .inl (fun _ => 0))), (m11, .inl (y11, 2, .inl (upd (upd (fun _ => 0) 0 (-1)) 1 (-1)))), (m12, .inl (y12, 4, .inl (fun _ => 0)))]) [0, 1, 2, 3, 4, 5, 6, 7, 8, 9] (by decide) rfl
    have hKc := hK.sub (tys' := [(y4, .int), (y5, .int), (y6, .int), (y7, .int), (y8, .int), (y9, .int), (y10, .boolean), (y11, .int), (y12, .boolean)]) [3, 4, 5, 6, 7, 8, 9, 10, 11] rfl
    have hFc := va_free (wc := [(mo, .inr (6, [.int 0, .int 0, .int 0, .int 0, .ref m4, .ref m5, .ref m6, .ref m7, .ref m8, .ref m9, .ref m10, .ref m11, .ref m12, .int 1, .int 0, .int 0, .ref m16, .ref m17, .ref m18, .int 0, .int 0, .int 0, .int 0, .int 0, .int 0, .int 0, .int 0, .ref m27, .int 0, .ref m29, .ref m30, .ref m31])), (m4, .inl (y4, 700, .inl (fun _ => 0))), (m5, .inl (y5, 700, .inl (fun _ => 0))), (m6, .inl (y6, 700, .inl (fun _ => 0))), (m7, .inl (y7, 96, .inl (fun _ => 0))), (m8, .inl (y8, 2, .inl (upd (upd (fun _ => 0) 0 2) 1 2))), (m9, .inl (y9, 2, .inl (fun _ => 0))), (m10, .inl (y10, 2, .inl (fun _ => 0))), (m11, .inl (y11, 2, .inl (upd (upd (fun _ => 0) 0 (-1)) 1 (-1)))), (m12, .inl (y12, 4, .inl (fun _ => 0)))]) hD hS hA [0, 1, 2, 3, 4, 5, 6, 7, 8, 9] rfl
    refine va_calli (va_runV (As := [.int v1, .int v2]) (rest := []) ⟨hx, hb, hml, hown, hts⟩ (m_bayX l dC dI _ mo m4 m5 m6 m7 m8 m9 m10 m11 m12 m16 m17 m18 m27 m29 m30 m31 y4 y5 y6 y7 y8 y9 y10 y11 y12 v1 v2 hok) (cwV 2 hts gk_X8_bay rfl rfl rfl (by decide +kernel) ⟨Nat.le_of_ble_eq_true rfl, Nat.le_of_ble_eq_true rfl⟩) ⟨pt_blindQ, va_recv hK hP (ci := 6) (q0 := 0) rfl rfl, pt_preQ hPc hKc hDc hN⟩ rfl rfl hl.1 rfl (lv_room (Nat.le_of_ble_eq_true rfl)) dL_law_732 ⟨Nat.le_of_ble_eq_true rfl, Nat.le_of_ble_eq_true rfl⟩) hS (fun q _ h => hFc q h) hFc (fun r_11 u_11 t H1 locs ht hvm hw_11 hB hz1 hk1 hS => ?_)
    obtain ⟨hP1, hK1, hD1⟩ := hB
    rw [ht] at hP1
    have hK1 := va_K.moved hvm.symm hK1
    obtain ⟨hP, hD⟩ := va_join (wr := [(ot, .inl (cL, 1, .inr (.inl u_10)))]) (w1 := [(mo, .inr (6, .int u_11.1 :: u_11.2))]) hP hD [0, 1, 2, 3, 4, 5, 6, 7, 8, 9] [10] rfl rfl (by decide) (by decide) hk1 hFc hP1 hD1
    have hK := hK.app hK1
    generalize H1 = H at hP hS ⊢
    have hP : va_P (dC, dI) vwCl [(ot, .inl (cL, 1, .inr (.inl u_10))), (mo, .inr (6, .int u_11.1 :: u_11.2))] H := hP
    have hD : va_D (fun q : Nat => s.heap.size ≤ q) [(ot, .inl (cL, 1, .inr (.inl u_10))), (mo, .inr (6, .int u_11.1 :: u_11.2))] := hD
    have hK : va_K (dC, dI) vwCl [(cI, .int), (cZ, .boolean), (cB, .object "ParkTower$Bay"), (y4, .int), (y5, .int), (y6, .int), (y7, .int), (y8, .int), (y9, .int), (y10, .boolean), (y11, .int), (y12, .boolean), (cL, .long)] s := hK
    refine W.widen (k := 37) (n := 2564) (by omega) (by omega) ?_
    refine lv_istore (lv' := [(6, .int r_11), (5, .int 1), (4, .int 0), (3, .ref ot), (2, .ref mo), (1, .ref x), (0, .ref b)]) hx hb dL_law_735 hl (by decide) rfl (fun ls hl => ?_)
    refine lv_aload_n hx hb dL_law_737 rfl (lv_at hl 4 rfl) ?_
    refine pt_cSi (va_runV (As := []) (rest := []) ⟨hx, hb, hml, hown, hts⟩ (c_thrown l dC dI mo u_11.1 u_11.2) (cwV 0 hts gk_X8_thrown rfl rfl rfl (by decide +kernel) ⟨Nat.le_of_ble_eq_true rfl, Nat.le_of_ble_eq_true rfl⟩) ⟨pt_blind, va_recv hK hP (ci := 6) (q0 := 1) rfl rfl, pt_pre (w := [(mo, .inr (6, .int u_11.1 :: u_11.2))]) (tys := []) (hP.sub [1] rfl) (hK.sub [] rfl) hN⟩ rfl rfl hl.1 rfl (lv_room (Nat.le_of_ble_eq_true rfl)) dL_law_738 ⟨Nat.le_of_ble_eq_true rfl, Nat.le_of_ble_eq_true rfl⟩) (fun r_12 hr_12 => ?_)
    obtain rfl : r_12 = 1 := hr_12.trans hw_11.1
    refine lv_iload hx hb dL_law_741 (lv_at hl 1 rfl) ?_
    refine lv_icmp_eq (tgt := 748) hx hb dL_law_743 (by decide) (fun _ => ?_) (fun c => absurd (by decide) c)
    refine lv_iload hx hb dL_law_748 (lv_at hl 1 rfl) ?_
    refine lv_if_ne (tgt := 765) hx hb dL_law_750 (by decide) (fun _ => ?_) (fun c => absurd c (by decide))
    refine lv_goto (tgt := 824) hx hb dL_law_765 (by decide) ?_
    exact law_end l C0 (Nat.le_of_ble_eq_true rfl) (Nat.le_of_ble_eq_true rfl) hS ls (lv_sub hl [2, 6] rfl)
set_option maxHeartbeats 4000000 in
set_option maxRecDepth 100000 in
theorem law_look {p : Program} {e : Env} {s : State} {m : MethodId} {below : List Frame} {meth : Method} {c : Code} (l : Launch) (hlt : l.stackTraces = false) {b : Nat} {xs : Nat → Int32} (C0 : lw_At p s m meth c b 5 xs) (dC : Nat → ClassId) (dI : Nat → Nat → Nat) (x rk hd jm bs b0 b1 od o1 o2 o3 jb pl ap : Nat) (cI cZ cB : ClassId) (mo m4 m5 m6 m7 m8 m9 m10 m11 m12 m16 m17 m18 m27 m29 m30 m31 : Nat) (y4 y5 y6 y7 y8 y9 y10 y11 y12 : ClassId) (ot : Nat) (cL : ClassId) (H : Heap) (locs : List Loc) (hN : pt_N s) (hE : pt_E s) (hZ : pt_Z s.heap.size s s.heap) (hK : va_K (dC, dI) vwCl [(cI, .int), (cZ, .boolean), (cB, .object "ParkTower$Bay"), (y4, .int), (y5, .int), (y6, .int), (y7, .int), (y8, .int), (y9, .int), (y10, .boolean), (y11, .int), (y12, .boolean), (cL, .long)] s) (hP : va_P (dC, dI) vwCl [(x, .inr (5, [.ref rk, .ref bs, .ref od, .ref jb, .ref ap, .int 0, .int 1, .int 0, .int 0, .int 0])), (rk, .inr (4, [.ref hd, .ref jm])), (hd, .inl (cI, 96, .inl (fun _ => 0))), (jm, .inl (cZ, 4, .inl (fun _ => 0))), (bs, .inl (cB, 2, .inr (.inr (.inr (.inr (va_up (va_up (fun _ => none) 0 (some b0)) 1 (some b1))))))), (b0, .inr (0, [.int 2, .int 0, .int 0, .int 0, .int 0, .int (-1)])), (b1, .inr (0, [.int 2, .int 0, .int 0, .int 0, .int 0, .int (-1)])), (od, .inr (2, [.ref o1, .ref o2, .ref o3, .int 0])), (jb, .inr (1, [.ref pl, .int (-1), .int 0, .int 0, .int 0])), (mo, .inr (6, [.int 0, .int 0, .int 0, .int 0, .ref m4, .ref m5, .ref m6, .ref m7, .ref m8, .ref m9, .ref m10, .ref m11, .ref m12, .int 1, .int 0, .int 0, .ref m16, .ref m17, .ref m18, .int 0, .int 0, .int 0, .int 0, .int 0, .int 0, .int 0, .int 0, .ref m27, .int 0, .ref m29, .ref m30, .ref m31])), (m4, .inl (y4, 700, .inl (fun _ => 0))), (m5, .inl (y5, 700, .inl (fun _ => 0))), (m6, .inl (y6, 700, .inl (fun _ => 0))), (m7, .inl (y7, 96, .inl (fun _ => 0))), (m8, .inl (y8, 2, .inl (upd (upd (fun _ => 0) 0 2) 1 2))), (m9, .inl (y9, 2, .inl (fun _ => 0))), (m10, .inl (y10, 2, .inl (fun _ => 0))), (m11, .inl (y11, 2, .inl (upd (upd (fun _ => 0) 0 (-1)) 1 (-1)))), (m12, .inl (y12, 4, .inl (fun _ => 0))), (ot, .inl (cL, 1, .inr (.inl (fun _ => 0))))] H) (hD : va_D (fun q : Nat => s.heap.size ≤ q) [(x, .inr (5, [.ref rk, .ref bs, .ref od, .ref jb, .ref ap, .int 0, .int 1, .int 0, .int 0, .int 0])), (rk, .inr (4, [.ref hd, .ref jm])), (hd, .inl (cI, 96, .inl (fun _ => 0))), (jm, .inl (cZ, 4, .inl (fun _ => 0))), (bs, .inl (cB, 2, .inr (.inr (.inr (.inr (va_up (va_up (fun _ => none) 0 (some b0)) 1 (some b1))))))), (b0, .inr (0, [.int 2, .int 0, .int 0, .int 0, .int 0, .int (-1)])), (b1, .inr (0, [.int 2, .int 0, .int 0, .int 0, .int 0, .int (-1)])), (od, .inr (2, [.ref o1, .ref o2, .ref o3, .int 0])), (jb, .inr (1, [.ref pl, .int (-1), .int 0, .int 0, .int 0])), (mo, .inr (6, [.int 0, .int 0, .int 0, .int 0, .ref m4, .ref m5, .ref m6, .ref m7, .ref m8, .ref m9, .ref m10, .ref m11, .ref m12, .int 1, .int 0, .int 0, .ref m16, .ref m17, .ref m18, .int 0, .int 0, .int 0, .int 0, .int 0, .int 0, .int 0, .int 0, .ref m27, .int 0, .ref m29, .ref m30, .ref m31])), (m4, .inl (y4, 700, .inl (fun _ => 0))), (m5, .inl (y5, 700, .inl (fun _ => 0))), (m6, .inl (y6, 700, .inl (fun _ => 0))), (m7, .inl (y7, 96, .inl (fun _ => 0))), (m8, .inl (y8, 2, .inl (upd (upd (fun _ => 0) 0 2) 1 2))), (m9, .inl (y9, 2, .inl (fun _ => 0))), (m10, .inl (y10, 2, .inl (fun _ => 0))), (m11, .inl (y11, 2, .inl (upd (upd (fun _ => 0) 0 (-1)) 1 (-1)))), (m12, .inl (y12, 4, .inl (fun _ => 0))), (ot, .inl (cL, 1, .inr (.inl (fun _ => 0))))]) (hS : va_S (fun q : Nat => s.heap.size ≤ q) s.heap H locs) (ls : Array Slot) (hl : lv_has ls 7 [(4, .int 0), (3, .ref ot), (2, .ref mo), (1, .ref x), (0, .ref b)]) : W p l e room_1 s m #[Value.ref b] below meth c H locs 36 2558 (lw_Z below #[Value.ref b] s) (F0 m 768 ls []) := by
  obtain ⟨hx, hb, hr, hml, hown, hts, hX, hbl, hlocks, hgv⟩ := id C0
  have hbA : ¬ (fun q : Nat => s.heap.size ≤ q) b := Nat.not_le.mpr hbl
  have hA : ∀ q : Nat, s.heap.size ≤ q → (fun q : Nat => s.heap.size ≤ q) q := fun _ h => h
  obtain ⟨v1, e1⟩ : ∃ z, xs 1 = z := ⟨_, rfl⟩
  rcases pt_sw6 v1 with hk | hk
  · skip
    refine lv_aload_n hx hb dL_law_768 rfl (lv_at hl 3 rfl) ?_
    refine lv_aload_n hx hb dL_law_769 rfl (lv_at hl 4 rfl) ?_
    refine lv_iload hx hb dL_law_770 (lv_at hl 0 rfl) ?_
    refine lv_iconst (v := 1) hx hb dL_law_772 (by decide) ?_
    refine lv_iadd hx hb dL_law_773 ?_
    refine pt_topi 1 (by decide) ?_
    refine va_sld hx hb hX hbl hbA hS (vp_in_iff.mpr (by decide)) dL_law_774 ?_
    refine pt_topi v1 e1 ?_
    refine lv_aload_n hx hb dL_law_775 rfl (lv_at hl 1 rfl) ?_
    have hPc := hP.sub (ws' := [(x, .inr (5, [.ref rk, .ref bs, .ref od, .ref jb, .ref ap, .int 0, .int 1, .int 0, .int 0, .int 0])), (rk, .inr (4, [.ref hd, .ref jm])), (hd, .inl (cI, 96, .inl (fun _ => 0))), (jm, .inl (cZ, 4, .inl (fun _ => 0))), (bs, .inl (cB, 2, .inr (.inr (.inr (.inr (va_up (va_up (fun _ => none) 0 (some b0)) 1 (some b1))))))), (b0, .inr (0, [.int 2, .int 0, .int 0, .int 0, .int 0, .int (-1)])), (b1, .inr (0, [.int 2, .int 0, .int 0, .int 0, .int 0, .int (-1)])), (od, .inr (2, [.ref o1, .ref o2, .ref o3, .int 0])), (jb, .inr (1, [.ref pl, .int (-1), .int 0, .int 0, .int 0])), (ot, .inl (cL, 1, .inr (.inl (fun _ => 0))))]) [0, 1, 2, 3, 4, 5, 6, 7, 8, 19] rfl
    have hDc := hD.sub (ws' := [(x, .inr (5, [.ref rk, .ref bs, .ref od, .ref jb, .ref ap, .int 0, .int 1, .int 0, .int 0, .int 0])), (rk, .inr (4, [.ref hd, .ref jm])), (hd, .inl (cI, 96, .inl (fun _ => 0))), (jm, .inl (cZ, 4, .inl (fun _ => 0))), (bs, .inl (cB, 2, .inr (.inr (.inr (.inr (va_up (va_up (fun _ => none) 0 (some b0)) 1 (some b1))))))), (b0, .inr (0, [.int 2, .int 0, .int 0, .int 0, .int 0, .int (-1)])), (b1, .inr (0, [.int 2, .int 0, .int 0, .int 0, .int 0, .int (-1)])), (od, .inr (2, [.ref o1, .ref o2, .ref o3, .int 0])), (jb, .inr (1, [.ref pl, .int (-1), .int 0, .int 0, .int 0])), (ot, .inl (cL, 1, .inr (.inl (fun _ => 0))))]) [0, 1, 2, 3, 4, 5, 6, 7, 8, 19] (by decide) rfl
    have hKc := hK.sub (tys' := [(cI, .int), (cZ, .boolean), (cB, .object "ParkTower$Bay"), (cL, .long)]) [0, 1, 2, 12] rfl
    have hFc := va_free (wc := [(x, .inr (5, [.ref rk, .ref bs, .ref od, .ref jb, .ref ap, .int 0, .int 1, .int 0, .int 0, .int 0])), (rk, .inr (4, [.ref hd, .ref jm])), (hd, .inl (cI, 96, .inl (fun _ => 0))), (jm, .inl (cZ, 4, .inl (fun _ => 0))), (bs, .inl (cB, 2, .inr (.inr (.inr (.inr (va_up (va_up (fun _ => none) 0 (some b0)) 1 (some b1))))))), (b0, .inr (0, [.int 2, .int 0, .int 0, .int 0, .int 0, .int (-1)])), (b1, .inr (0, [.int 2, .int 0, .int 0, .int 0, .int 0, .int (-1)])), (od, .inr (2, [.ref o1, .ref o2, .ref o3, .int 0])), (jb, .inr (1, [.ref pl, .int (-1), .int 0, .int 0, .int 0])), (ot, .inl (cL, 1, .inr (.inl (fun _ => 0))))]) hD hS hA [0, 1, 2, 3, 4, 5, 6, 7, 8, 19] rfl
    refine va_calli (vx_runSW (As := [.ref x, .int v1, .ref ot]) (rest := []) ⟨hx, hb, hml, hown, hts⟩ (w_look l hlt dC dI _ x rk hd jm bs b0 b1 od o1 o2 o3 jb pl ap cI cZ cB ot cL (fun _ => 0) v1) (vx_cwSW 3 hts gk_L_look rfl rfl rfl (by decide +kernel) ⟨Nat.le_of_ble_eq_true rfl, Nat.le_of_ble_eq_true rfl⟩) ⟨pt_blindT, pt_preT hPc hKc hDc hN hE (pt_Z.up hZ (fun q h1 h2 => hS.2.1 q h1 h2) hS.1)⟩ rfl rfl hl.1 rfl (lv_room (Nat.le_of_ble_eq_true rfl)) dL_law_776 ⟨Nat.le_of_ble_eq_true rfl, Nat.le_of_ble_eq_true rfl⟩) hS (fun q _ h => hFc q h) hFc (fun r_1 u_1 t H1 locs ht hvm hw_1 hB hz1 hk1 hS => ?_)
    obtain ⟨hP1, hK1, hD1⟩ := hB
    rw [ht] at hP1
    have hK1 := va_K.moved hvm.symm hK1
    obtain ⟨hP, hD⟩ := va_join (wr := [(mo, .inr (6, [.int 0, .int 0, .int 0, .int 0, .ref m4, .ref m5, .ref m6, .ref m7, .ref m8, .ref m9, .ref m10, .ref m11, .ref m12, .int 1, .int 0, .int 0, .ref m16, .ref m17, .ref m18, .int 0, .int 0, .int 0, .int 0, .int 0, .int 0, .int 0, .int 0, .ref m27, .int 0, .ref m29, .ref m30, .ref m31])), (m4, .inl (y4, 700, .inl (fun _ => 0))), (m5, .inl (y5, 700, .inl (fun _ => 0))), (m6, .inl (y6, 700, .inl (fun _ => 0))), (m7, .inl (y7, 96, .inl (fun _ => 0))), (m8, .inl (y8, 2, .inl (upd (upd (fun _ => 0) 0 2) 1 2))), (m9, .inl (y9, 2, .inl (fun _ => 0))), (m10, .inl (y10, 2, .inl (fun _ => 0))), (m11, .inl (y11, 2, .inl (upd (upd (fun _ => 0) 0 (-1)) 1 (-1)))), (m12, .inl (y12, 4, .inl (fun _ => 0)))]) (w1 := [(ot, .inl (cL, 1, .inr (.inl u_1)))]) hP hD [0, 1, 2, 3, 4, 5, 6, 7, 8, 19] [9, 10, 11, 12, 13, 14, 15, 16, 17, 18] rfl rfl (by decide) (by decide) hk1 hFc hP1 hD1
    have hK := hK.app hK1
    generalize H1 = H at hP hS ⊢
    have hP : va_P (dC, dI) vwCl [(mo, .inr (6, [.int 0, .int 0, .int 0, .int 0, .ref m4, .ref m5, .ref m6, .ref m7, .ref m8, .ref m9, .ref m10, .ref m11, .ref m12, .int 1, .int 0, .int 0, .ref m16, .ref m17, .ref m18, .int 0, .int 0, .int 0, .int 0, .int 0, .int 0, .int 0, .int 0, .ref m27, .int 0, .ref m29, .ref m30, .ref m31])), (m4, .inl (y4, 700, .inl (fun _ => 0))), (m5, .inl (y5, 700, .inl (fun _ => 0))), (m6, .inl (y6, 700, .inl (fun _ => 0))), (m7, .inl (y7, 96, .inl (fun _ => 0))), (m8, .inl (y8, 2, .inl (upd (upd (fun _ => 0) 0 2) 1 2))), (m9, .inl (y9, 2, .inl (fun _ => 0))), (m10, .inl (y10, 2, .inl (fun _ => 0))), (m11, .inl (y11, 2, .inl (upd (upd (fun _ => 0) 0 (-1)) 1 (-1)))), (m12, .inl (y12, 4, .inl (fun _ => 0))), (ot, .inl (cL, 1, .inr (.inl u_1)))] H := hP
    have hD : va_D (fun q : Nat => s.heap.size ≤ q) [(mo, .inr (6, [.int 0, .int 0, .int 0, .int 0, .ref m4, .ref m5, .ref m6, .ref m7, .ref m8, .ref m9, .ref m10, .ref m11, .ref m12, .int 1, .int 0, .int 0, .ref m16, .ref m17, .ref m18, .int 0, .int 0, .int 0, .int 0, .int 0, .int 0, .int 0, .int 0, .ref m27, .int 0, .ref m29, .ref m30, .ref m31])), (m4, .inl (y4, 700, .inl (fun _ => 0))), (m5, .inl (y5, 700, .inl (fun _ => 0))), (m6, .inl (y6, 700, .inl (fun _ => 0))), (m7, .inl (y7, 96, .inl (fun _ => 0))), (m8, .inl (y8, 2, .inl (upd (upd (fun _ => 0) 0 2) 1 2))), (m9, .inl (y9, 2, .inl (fun _ => 0))), (m10, .inl (y10, 2, .inl (fun _ => 0))), (m11, .inl (y11, 2, .inl (upd (upd (fun _ => 0) 0 (-1)) 1 (-1)))), (m12, .inl (y12, 4, .inl (fun _ => 0))), (ot, .inl (cL, 1, .inr (.inl u_1)))] := hD
    have hK : va_K (dC, dI) vwCl [(cI, .int), (cZ, .boolean), (cB, .object "ParkTower$Bay"), (y4, .int), (y5, .int), (y6, .int), (y7, .int), (y8, .int), (y9, .int), (y10, .boolean), (y11, .int), (y12, .boolean), (cL, .long)] s := hK
    refine W.widen (k := 37) (n := 2564) (by omega) (by omega) ?_
    obtain rfl : r_1 = 0 := hw_1.1.trans (if_pos hk)
    refine lv_istore (lv' := [(5, .int 0), (4, .int 0), (3, .ref ot), (2, .ref mo), (1, .ref x), (0, .ref b)]) hx hb dL_law_779 hl (by decide) rfl (fun ls hl => ?_)
    refine lv_aload_n hx hb dL_law_781 rfl (lv_at hl 3 rfl) ?_
    refine lv_aload_n hx hb dL_law_782 rfl (lv_at hl 5 rfl) ?_
    refine lv_iload hx hb dL_law_783 (lv_at hl 1 rfl) ?_
    refine lv_iconst (v := 1) hx hb dL_law_785 (by decide) ?_
    refine lv_iadd hx hb dL_law_786 ?_
    refine pt_topi 1 (by decide) ?_
    refine va_sld hx hb hX hbl hbA hS (vp_in_iff.mpr (by decide)) dL_law_787 ?_
    refine pt_topi v1 e1 ?_
    have hPc := hP.sub (ws' := [(mo, .inr (6, [.int 0, .int 0, .int 0, .int 0, .ref m4, .ref m5, .ref m6, .ref m7, .ref m8, .ref m9, .ref m10, .ref m11, .ref m12, .int 1, .int 0, .int 0, .ref m16, .ref m17, .ref m18, .int 0, .int 0, .int 0, .int 0, .int 0, .int 0, .int 0, .int 0, .ref m27, .int 0, .ref m29, .ref m30, .ref m31])), (m4, .inl (y4, 700, .inl (fun _ => 0))), (m5, .inl (y5, 700, .inl (fun _ => 0))), (m6, .inl (y6, 700, .inl (fun _ => 0))), (m7, .inl (y7, 96, .inl (fun _ => 0))), (m8, .inl (y8, 2, .inl (upd (upd (fun _ => 0) 0 2) 1 2))), (m9, .inl (y9, 2, .inl (fun _ => 0))), (m10, .inl (y10, 2, .inl (fun _ => 0))), (m11, .inl (y11, 2, .inl (upd (upd (fun _ => 0) 0 (-1)) 1 (-1)))), (m12, .inl (y12, 4, .inl (fun _ => 0)))]) [0, 1, 2, 3, 4, 5, 6, 7, 8, 9] rfl
    have hDc := hD.sub (ws' := [(mo, .inr (6, [.int 0, .int 0, .int 0, .int 0, .ref m4, .ref m5, .ref m6, .ref m7, .ref m8, .ref m9, .ref m10, .ref m11, .ref m12, .int 1, .int 0, .int 0, .ref m16, .ref m17, .ref m18, .int 0, .int 0, .int 0, .int 0, .int 0, .int 0, .int 0, .int 0, .ref m27, .int 0, .ref m29, .ref m30, .ref m31])), (m4, .inl (y4, 700, .inl (fun _ => 0))), (m5, .inl (y5, 700, .inl (fun _ => 0))), (m6, .inl (y6, 700, .inl (fun _ => 0))), (m7, .inl (y7, 96, .inl (fun _ => 0))), (m8, .inl (y8, 2, .inl (upd (upd (fun _ => 0) 0 2) 1 2))), (m9, .inl (y9, 2, .inl (fun _ => 0))), (m10, .inl (y10, 2, .inl (fun _ => 0))), (m11, .inl (y11, 2, .inl (upd (upd (fun _ => 0) 0 (-1)) 1 (-1)))), (m12, .inl (y12, 4, .inl (fun _ => 0)))]) [0, 1, 2, 3, 4, 5, 6, 7, 8, 9] (by decide) rfl
    have hKc := hK.sub (tys' := [(y4, .int), (y5, .int), (y6, .int), (y7, .int), (y8, .int), (y9, .int), (y10, .boolean), (y11, .int), (y12, .boolean)]) [3, 4, 5, 6, 7, 8, 9, 10, 11] rfl
    have hFc := va_free (wc := [(mo, .inr (6, [.int 0, .int 0, .int 0, .int 0, .ref m4, .ref m5, .ref m6, .ref m7, .ref m8, .ref m9, .ref m10, .ref m11, .ref m12, .int 1, .int 0, .int 0, .ref m16, .ref m17, .ref m18, .int 0, .int 0, .int 0, .int 0, .int 0, .int 0, .int 0, .int 0, .ref m27, .int 0, .ref m29, .ref m30, .ref m31])), (m4, .inl (y4, 700, .inl (fun _ => 0))), (m5, .inl (y5, 700, .inl (fun _ => 0))), (m6, .inl (y6, 700, .inl (fun _ => 0))), (m7, .inl (y7, 96, .inl (fun _ => 0))), (m8, .inl (y8, 2, .inl (upd (upd (fun _ => 0) 0 2) 1 2))), (m9, .inl (y9, 2, .inl (fun _ => 0))), (m10, .inl (y10, 2, .inl (fun _ => 0))), (m11, .inl (y11, 2, .inl (upd (upd (fun _ => 0) 0 (-1)) 1 (-1)))), (m12, .inl (y12, 4, .inl (fun _ => 0)))]) hD hS hA [0, 1, 2, 3, 4, 5, 6, 7, 8, 9] rfl
    refine va_calli (va_runV (As := [.int v1]) (rest := []) ⟨hx, hb, hml, hown, hts⟩ (m_look l dC dI _ mo m4 m5 m6 m7 m8 m9 m10 m11 m12 m16 m17 m18 m27 m29 m30 m31 y4 y5 y6 y7 y8 y9 y10 y11 y12 v1 hk) (cwV 1 hts gk_X8_look rfl rfl rfl (by decide +kernel) ⟨Nat.le_of_ble_eq_true rfl, Nat.le_of_ble_eq_true rfl⟩) ⟨pt_blindQ, va_recv hK hP (ci := 6) (q0 := 0) rfl rfl, pt_preQ hPc hKc hDc hN⟩ rfl rfl hl.1 rfl (lv_room (Nat.le_of_ble_eq_true rfl)) dL_law_788 ⟨Nat.le_of_ble_eq_true rfl, Nat.le_of_ble_eq_true rfl⟩) hS (fun q _ h => hFc q h) hFc (fun r_2 u_2 t H1 locs ht hvm hw_2 hB hz1 hk1 hS => ?_)
    obtain ⟨hP1, hK1, hD1⟩ := hB
    rw [ht] at hP1
    have hK1 := va_K.moved hvm.symm hK1
    obtain ⟨hP, hD⟩ := va_join (wr := [(ot, .inl (cL, 1, .inr (.inl u_1)))]) (w1 := [(mo, .inr (6, .int u_2.1 :: u_2.2))]) hP hD [0, 1, 2, 3, 4, 5, 6, 7, 8, 9] [10] rfl rfl (by decide) (by decide) hk1 hFc hP1 hD1
    have hK := hK.app hK1
    generalize H1 = H at hP hS ⊢
    have hP : va_P (dC, dI) vwCl [(ot, .inl (cL, 1, .inr (.inl u_1))), (mo, .inr (6, .int u_2.1 :: u_2.2))] H := hP
    have hD : va_D (fun q : Nat => s.heap.size ≤ q) [(ot, .inl (cL, 1, .inr (.inl u_1))), (mo, .inr (6, .int u_2.1 :: u_2.2))] := hD
    have hK : va_K (dC, dI) vwCl [(cI, .int), (cZ, .boolean), (cB, .object "ParkTower$Bay"), (y4, .int), (y5, .int), (y6, .int), (y7, .int), (y8, .int), (y9, .int), (y10, .boolean), (y11, .int), (y12, .boolean), (cL, .long)] s := hK
    refine W.widen (k := 37) (n := 2564) (by omega) (by omega) ?_
    refine lv_istore (lv' := [(6, .int r_2), (5, .int 0), (4, .int 0), (3, .ref ot), (2, .ref mo), (1, .ref x), (0, .ref b)]) hx hb dL_law_791 hl (by decide) rfl (fun ls hl => ?_)
    refine lv_aload_n hx hb dL_law_793 rfl (lv_at hl 4 rfl) ?_
    refine pt_cSi (va_runV (As := []) (rest := []) ⟨hx, hb, hml, hown, hts⟩ (c_thrown l dC dI mo u_2.1 u_2.2) (cwV 0 hts gk_X8_thrown rfl rfl rfl (by decide +kernel) ⟨Nat.le_of_ble_eq_true rfl, Nat.le_of_ble_eq_true rfl⟩) ⟨pt_blind, va_recv hK hP (ci := 6) (q0 := 1) rfl rfl, pt_pre (w := [(mo, .inr (6, .int u_2.1 :: u_2.2))]) (tys := []) (hP.sub [1] rfl) (hK.sub [] rfl) hN⟩ rfl rfl hl.1 rfl (lv_room (Nat.le_of_ble_eq_true rfl)) dL_law_794 ⟨Nat.le_of_ble_eq_true rfl, Nat.le_of_ble_eq_true rfl⟩) (fun r_3 hr_3 => ?_)
    obtain rfl : r_3 = 0 := hr_3.trans hw_2.1
    refine lv_iload hx hb dL_law_797 (lv_at hl 1 rfl) ?_
    refine lv_icmp_eq (tgt := 804) hx hb dL_law_799 (by decide) (fun _ => ?_) (fun c => absurd (by decide) c)
    refine lv_iload hx hb dL_law_804 (lv_at hl 1 rfl) ?_
    refine lv_if_ne (tgt := 821) hx hb dL_law_806 (by decide) (fun c => absurd (by decide) c) (fun _ => ?_)
    refine lv_aload_n hx hb dL_law_809 rfl (lv_at hl 3 rfl) ?_
    refine lv_iconst (v := 0) hx hb dL_law_810 (by decide) ?_
    refine va_lald hx hb hK hP 0 12 rfl rfl (vp_in_iff.mpr (by decide)) dL_law_811 ?_
    refine lv_iload hx hb dL_law_812 (lv_at hl 0 rfl) ?_
    refine lv_i2l (v := r_2.toInt64) hx hb dL_law_814 rfl ?_
    refine W.lcmp hx hb dL_law_815 ?_
    refine pt_topi 0 (pt_cmp ((hw_1.2 rfl).trans (congrArg Int32.toInt64 (hw_2.2 hw_2.1).symm))) ?_
    refine lv_if_eq (tgt := 821) hx hb dL_law_816 (by decide) (fun _ => ?_) (fun c => absurd (by decide) c)
    refine lv_goto (tgt := 824) hx hb dL_law_821 (by decide) ?_
    exact law_end l C0 (Nat.le_of_ble_eq_true rfl) (Nat.le_of_ble_eq_true rfl) hS ls (lv_sub hl [2, 6] rfl)
  · have hkn : ¬ (v1 = 0 ∨ v1 = 1 ∨ v1 = 2 ∨ v1 = 3 ∨ v1 = 4 ∨ v1 = 5 ∨ v1 = 6) := by intro h; rcases h with rfl | rfl | rfl | rfl | rfl | rfl | rfl <;> revert hk <;> decide
    refine lv_aload_n hx hb dL_law_768 rfl (lv_at hl 3 rfl) ?_
    refine lv_aload_n hx hb dL_law_769 rfl (lv_at hl 4 rfl) ?_
    refine lv_iload hx hb dL_law_770 (lv_at hl 0 rfl) ?_
    refine lv_iconst (v := 1) hx hb dL_law_772 (by decide) ?_
    refine lv_iadd hx hb dL_law_773 ?_
    refine pt_topi 1 (by decide) ?_
    refine va_sld hx hb hX hbl hbA hS (vp_in_iff.mpr (by decide)) dL_law_774 ?_
    refine pt_topi v1 e1 ?_
    refine lv_aload_n hx hb dL_law_775 rfl (lv_at hl 1 rfl) ?_
    have hPc := hP.sub (ws' := [(x, .inr (5, [.ref rk, .ref bs, .ref od, .ref jb, .ref ap, .int 0, .int 1, .int 0, .int 0, .int 0])), (rk, .inr (4, [.ref hd, .ref jm])), (hd, .inl (cI, 96, .inl (fun _ => 0))), (jm, .inl (cZ, 4, .inl (fun _ => 0))), (bs, .inl (cB, 2, .inr (.inr (.inr (.inr (va_up (va_up (fun _ => none) 0 (some b0)) 1 (some b1))))))), (b0, .inr (0, [.int 2, .int 0, .int 0, .int 0, .int 0, .int (-1)])), (b1, .inr (0, [.int 2, .int 0, .int 0, .int 0, .int 0, .int (-1)])), (od, .inr (2, [.ref o1, .ref o2, .ref o3, .int 0])), (jb, .inr (1, [.ref pl, .int (-1), .int 0, .int 0, .int 0])), (ot, .inl (cL, 1, .inr (.inl (fun _ => 0))))]) [0, 1, 2, 3, 4, 5, 6, 7, 8, 19] rfl
    have hDc := hD.sub (ws' := [(x, .inr (5, [.ref rk, .ref bs, .ref od, .ref jb, .ref ap, .int 0, .int 1, .int 0, .int 0, .int 0])), (rk, .inr (4, [.ref hd, .ref jm])), (hd, .inl (cI, 96, .inl (fun _ => 0))), (jm, .inl (cZ, 4, .inl (fun _ => 0))), (bs, .inl (cB, 2, .inr (.inr (.inr (.inr (va_up (va_up (fun _ => none) 0 (some b0)) 1 (some b1))))))), (b0, .inr (0, [.int 2, .int 0, .int 0, .int 0, .int 0, .int (-1)])), (b1, .inr (0, [.int 2, .int 0, .int 0, .int 0, .int 0, .int (-1)])), (od, .inr (2, [.ref o1, .ref o2, .ref o3, .int 0])), (jb, .inr (1, [.ref pl, .int (-1), .int 0, .int 0, .int 0])), (ot, .inl (cL, 1, .inr (.inl (fun _ => 0))))]) [0, 1, 2, 3, 4, 5, 6, 7, 8, 19] (by decide) rfl
    have hKc := hK.sub (tys' := [(cI, .int), (cZ, .boolean), (cB, .object "ParkTower$Bay"), (cL, .long)]) [0, 1, 2, 12] rfl
    have hFc := va_free (wc := [(x, .inr (5, [.ref rk, .ref bs, .ref od, .ref jb, .ref ap, .int 0, .int 1, .int 0, .int 0, .int 0])), (rk, .inr (4, [.ref hd, .ref jm])), (hd, .inl (cI, 96, .inl (fun _ => 0))), (jm, .inl (cZ, 4, .inl (fun _ => 0))), (bs, .inl (cB, 2, .inr (.inr (.inr (.inr (va_up (va_up (fun _ => none) 0 (some b0)) 1 (some b1))))))), (b0, .inr (0, [.int 2, .int 0, .int 0, .int 0, .int 0, .int (-1)])), (b1, .inr (0, [.int 2, .int 0, .int 0, .int 0, .int 0, .int (-1)])), (od, .inr (2, [.ref o1, .ref o2, .ref o3, .int 0])), (jb, .inr (1, [.ref pl, .int (-1), .int 0, .int 0, .int 0])), (ot, .inl (cL, 1, .inr (.inl (fun _ => 0))))]) hD hS hA [0, 1, 2, 3, 4, 5, 6, 7, 8, 19] rfl
    refine va_calli (vx_runSW (As := [.ref x, .int v1, .ref ot]) (rest := []) ⟨hx, hb, hml, hown, hts⟩ (w_look l hlt dC dI _ x rk hd jm bs b0 b1 od o1 o2 o3 jb pl ap cI cZ cB ot cL (fun _ => 0) v1) (vx_cwSW 3 hts gk_L_look rfl rfl rfl (by decide +kernel) ⟨Nat.le_of_ble_eq_true rfl, Nat.le_of_ble_eq_true rfl⟩) ⟨pt_blindT, pt_preT hPc hKc hDc hN hE (pt_Z.up hZ (fun q h1 h2 => hS.2.1 q h1 h2) hS.1)⟩ rfl rfl hl.1 rfl (lv_room (Nat.le_of_ble_eq_true rfl)) dL_law_776 ⟨Nat.le_of_ble_eq_true rfl, Nat.le_of_ble_eq_true rfl⟩) hS (fun q _ h => hFc q h) hFc (fun r_4 u_4 t H1 locs ht hvm hw_4 hB hz1 hk1 hS => ?_)
    obtain ⟨hP1, hK1, hD1⟩ := hB
    rw [ht] at hP1
    have hK1 := va_K.moved hvm.symm hK1
    obtain ⟨hP, hD⟩ := va_join (wr := [(mo, .inr (6, [.int 0, .int 0, .int 0, .int 0, .ref m4, .ref m5, .ref m6, .ref m7, .ref m8, .ref m9, .ref m10, .ref m11, .ref m12, .int 1, .int 0, .int 0, .ref m16, .ref m17, .ref m18, .int 0, .int 0, .int 0, .int 0, .int 0, .int 0, .int 0, .int 0, .ref m27, .int 0, .ref m29, .ref m30, .ref m31])), (m4, .inl (y4, 700, .inl (fun _ => 0))), (m5, .inl (y5, 700, .inl (fun _ => 0))), (m6, .inl (y6, 700, .inl (fun _ => 0))), (m7, .inl (y7, 96, .inl (fun _ => 0))), (m8, .inl (y8, 2, .inl (upd (upd (fun _ => 0) 0 2) 1 2))), (m9, .inl (y9, 2, .inl (fun _ => 0))), (m10, .inl (y10, 2, .inl (fun _ => 0))), (m11, .inl (y11, 2, .inl (upd (upd (fun _ => 0) 0 (-1)) 1 (-1)))), (m12, .inl (y12, 4, .inl (fun _ => 0)))]) (w1 := [(ot, .inl (cL, 1, .inr (.inl u_4)))]) hP hD [0, 1, 2, 3, 4, 5, 6, 7, 8, 19] [9, 10, 11, 12, 13, 14, 15, 16, 17, 18] rfl rfl (by decide) (by decide) hk1 hFc hP1 hD1
    have hK := hK.app hK1
    generalize H1 = H at hP hS ⊢
    have hP : va_P (dC, dI) vwCl [(mo, .inr (6, [.int 0, .int 0, .int 0, .int 0, .ref m4, .ref m5, .ref m6, .ref m7, .ref m8, .ref m9, .ref m10, .ref m11, .ref m12, .int 1, .int 0, .int 0, .ref m16, .ref m17, .ref m18, .int 0, .int 0, .int 0, .int 0, .int 0, .int 0, .int 0, .int 0, .ref m27, .int 0, .ref m29, .ref m30, .ref m31])), (m4, .inl (y4, 700, .inl (fun _ => 0))), (m5, .inl (y5, 700, .inl (fun _ => 0))), (m6, .inl (y6, 700, .inl (fun _ => 0))), (m7, .inl (y7, 96, .inl (fun _ => 0))), (m8, .inl (y8, 2, .inl (upd (upd (fun _ => 0) 0 2) 1 2))), (m9, .inl (y9, 2, .inl (fun _ => 0))), (m10, .inl (y10, 2, .inl (fun _ => 0))), (m11, .inl (y11, 2, .inl (upd (upd (fun _ => 0) 0 (-1)) 1 (-1)))), (m12, .inl (y12, 4, .inl (fun _ => 0))), (ot, .inl (cL, 1, .inr (.inl u_4)))] H := hP
    have hD : va_D (fun q : Nat => s.heap.size ≤ q) [(mo, .inr (6, [.int 0, .int 0, .int 0, .int 0, .ref m4, .ref m5, .ref m6, .ref m7, .ref m8, .ref m9, .ref m10, .ref m11, .ref m12, .int 1, .int 0, .int 0, .ref m16, .ref m17, .ref m18, .int 0, .int 0, .int 0, .int 0, .int 0, .int 0, .int 0, .int 0, .ref m27, .int 0, .ref m29, .ref m30, .ref m31])), (m4, .inl (y4, 700, .inl (fun _ => 0))), (m5, .inl (y5, 700, .inl (fun _ => 0))), (m6, .inl (y6, 700, .inl (fun _ => 0))), (m7, .inl (y7, 96, .inl (fun _ => 0))), (m8, .inl (y8, 2, .inl (upd (upd (fun _ => 0) 0 2) 1 2))), (m9, .inl (y9, 2, .inl (fun _ => 0))), (m10, .inl (y10, 2, .inl (fun _ => 0))), (m11, .inl (y11, 2, .inl (upd (upd (fun _ => 0) 0 (-1)) 1 (-1)))), (m12, .inl (y12, 4, .inl (fun _ => 0))), (ot, .inl (cL, 1, .inr (.inl u_4)))] := hD
    have hK : va_K (dC, dI) vwCl [(cI, .int), (cZ, .boolean), (cB, .object "ParkTower$Bay"), (y4, .int), (y5, .int), (y6, .int), (y7, .int), (y8, .int), (y9, .int), (y10, .boolean), (y11, .int), (y12, .boolean), (cL, .long)] s := hK
    refine W.widen (k := 37) (n := 2564) (by omega) (by omega) ?_
    obtain rfl : r_4 = 1 := hw_4.1.trans (if_neg hkn)
    refine lv_istore (lv' := [(5, .int 1), (4, .int 0), (3, .ref ot), (2, .ref mo), (1, .ref x), (0, .ref b)]) hx hb dL_law_779 hl (by decide) rfl (fun ls hl => ?_)
    refine lv_aload_n hx hb dL_law_781 rfl (lv_at hl 3 rfl) ?_
    refine lv_aload_n hx hb dL_law_782 rfl (lv_at hl 5 rfl) ?_
    refine lv_iload hx hb dL_law_783 (lv_at hl 1 rfl) ?_
    refine lv_iconst (v := 1) hx hb dL_law_785 (by decide) ?_
    refine lv_iadd hx hb dL_law_786 ?_
    refine pt_topi 1 (by decide) ?_
    refine va_sld hx hb hX hbl hbA hS (vp_in_iff.mpr (by decide)) dL_law_787 ?_
    refine pt_topi v1 e1 ?_
    have hPc := hP.sub (ws' := [(mo, .inr (6, [.int 0, .int 0, .int 0, .int 0, .ref m4, .ref m5, .ref m6, .ref m7, .ref m8, .ref m9, .ref m10, .ref m11, .ref m12, .int 1, .int 0, .int 0, .ref m16, .ref m17, .ref m18, .int 0, .int 0, .int 0, .int 0, .int 0, .int 0, .int 0, .int 0, .ref m27, .int 0, .ref m29, .ref m30, .ref m31])), (m4, .inl (y4, 700, .inl (fun _ => 0))), (m5, .inl (y5, 700, .inl (fun _ => 0))), (m6, .inl (y6, 700, .inl (fun _ => 0))), (m7, .inl (y7, 96, .inl (fun _ => 0))), (m8, .inl (y8, 2, .inl (upd (upd (fun _ => 0) 0 2) 1 2))), (m9, .inl (y9, 2, .inl (fun _ => 0))), (m10, .inl (y10, 2, .inl (fun _ => 0))), (m11, .inl (y11, 2, .inl (upd (upd (fun _ => 0) 0 (-1)) 1 (-1)))), (m12, .inl (y12, 4, .inl (fun _ => 0)))]) [0, 1, 2, 3, 4, 5, 6, 7, 8, 9] rfl
    have hDc := hD.sub (ws' := [(mo, .inr (6, [.int 0, .int 0, .int 0, .int 0, .ref m4, .ref m5, .ref m6, .ref m7, .ref m8, .ref m9, .ref m10, .ref m11, .ref m12, .int 1, .int 0, .int 0, .ref m16, .ref m17, .ref m18, .int 0, .int 0, .int 0, .int 0, .int 0, .int 0, .int 0, .int 0, .ref m27, .int 0, .ref m29, .ref m30, .ref m31])), (m4, .inl (y4, 700, .inl (fun _ => 0))), (m5, .inl (y5, 700, .inl (fun _ => 0))), (m6, .inl (y6, 700, .inl (fun _ => 0))), (m7, .inl (y7, 96, .inl (fun _ => 0))), (m8, .inl (y8, 2, .inl (upd (upd (fun _ => 0) 0 2) 1 2))), (m9, .inl (y9, 2, .inl (fun _ => 0))), (m10, .inl (y10, 2, .inl (fun _ => 0))), (m11, .inl (y11, 2, .inl (upd (upd (fun _ => 0) 0 (-1)) 1 (-1)))), (m12, .inl (y12, 4, .inl (fun _ => 0)))]) [0, 1, 2, 3, 4, 5, 6, 7, 8, 9] (by decide) rfl
    have hKc := hK.sub (tys' := [(y4, .int), (y5, .int), (y6, .int), (y7, .int), (y8, .int), (y9, .int), (y10, .boolean), (y11, .int), (y12, .boolean)]) [3, 4, 5, 6, 7, 8, 9, 10, 11] rfl
    have hFc := va_free (wc := [(mo, .inr (6, [.int 0, .int 0, .int 0, .int 0, .ref m4, .ref m5, .ref m6, .ref m7, .ref m8, .ref m9, .ref m10, .ref m11, .ref m12, .int 1, .int 0, .int 0, .ref m16, .ref m17, .ref m18, .int 0, .int 0, .int 0, .int 0, .int 0, .int 0, .int 0, .int 0, .ref m27, .int 0, .ref m29, .ref m30, .ref m31])), (m4, .inl (y4, 700, .inl (fun _ => 0))), (m5, .inl (y5, 700, .inl (fun _ => 0))), (m6, .inl (y6, 700, .inl (fun _ => 0))), (m7, .inl (y7, 96, .inl (fun _ => 0))), (m8, .inl (y8, 2, .inl (upd (upd (fun _ => 0) 0 2) 1 2))), (m9, .inl (y9, 2, .inl (fun _ => 0))), (m10, .inl (y10, 2, .inl (fun _ => 0))), (m11, .inl (y11, 2, .inl (upd (upd (fun _ => 0) 0 (-1)) 1 (-1)))), (m12, .inl (y12, 4, .inl (fun _ => 0)))]) hD hS hA [0, 1, 2, 3, 4, 5, 6, 7, 8, 9] rfl
    refine va_calli (va_runV (As := [.int v1]) (rest := []) ⟨hx, hb, hml, hown, hts⟩ (m_lookX l dC dI _ mo m4 m5 m6 m7 m8 m9 m10 m11 m12 m16 m17 m18 m27 m29 m30 m31 y4 y5 y6 y7 y8 y9 y10 y11 y12 v1 (pt_out (lo := 0) (hi := 6) (by decide) (by decide) hk)) (cwV 1 hts gk_X8_look rfl rfl rfl (by decide +kernel) ⟨Nat.le_of_ble_eq_true rfl, Nat.le_of_ble_eq_true rfl⟩) ⟨pt_blindQ, va_recv hK hP (ci := 6) (q0 := 0) rfl rfl, pt_preQ hPc hKc hDc hN⟩ rfl rfl hl.1 rfl (lv_room (Nat.le_of_ble_eq_true rfl)) dL_law_788 ⟨Nat.le_of_ble_eq_true rfl, Nat.le_of_ble_eq_true rfl⟩) hS (fun q _ h => hFc q h) hFc (fun r_5 u_5 t H1 locs ht hvm hw_5 hB hz1 hk1 hS => ?_)
    obtain ⟨hP1, hK1, hD1⟩ := hB
    rw [ht] at hP1
    have hK1 := va_K.moved hvm.symm hK1
    obtain ⟨hP, hD⟩ := va_join (wr := [(ot, .inl (cL, 1, .inr (.inl u_4)))]) (w1 := [(mo, .inr (6, .int u_5.1 :: u_5.2))]) hP hD [0, 1, 2, 3, 4, 5, 6, 7, 8, 9] [10] rfl rfl (by decide) (by decide) hk1 hFc hP1 hD1
    have hK := hK.app hK1
    generalize H1 = H at hP hS ⊢
    have hP : va_P (dC, dI) vwCl [(ot, .inl (cL, 1, .inr (.inl u_4))), (mo, .inr (6, .int u_5.1 :: u_5.2))] H := hP
    have hD : va_D (fun q : Nat => s.heap.size ≤ q) [(ot, .inl (cL, 1, .inr (.inl u_4))), (mo, .inr (6, .int u_5.1 :: u_5.2))] := hD
    have hK : va_K (dC, dI) vwCl [(cI, .int), (cZ, .boolean), (cB, .object "ParkTower$Bay"), (y4, .int), (y5, .int), (y6, .int), (y7, .int), (y8, .int), (y9, .int), (y10, .boolean), (y11, .int), (y12, .boolean), (cL, .long)] s := hK
    refine W.widen (k := 37) (n := 2564) (by omega) (by omega) ?_
    refine lv_istore (lv' := [(6, .int r_5), (5, .int 1), (4, .int 0), (3, .ref ot), (2, .ref mo), (1, .ref x), (0, .ref b)]) hx hb dL_law_791 hl (by decide) rfl (fun ls hl => ?_)
    refine lv_aload_n hx hb dL_law_793 rfl (lv_at hl 4 rfl) ?_
    refine pt_cSi (va_runV (As := []) (rest := []) ⟨hx, hb, hml, hown, hts⟩ (c_thrown l dC dI mo u_5.1 u_5.2) (cwV 0 hts gk_X8_thrown rfl rfl rfl (by decide +kernel) ⟨Nat.le_of_ble_eq_true rfl, Nat.le_of_ble_eq_true rfl⟩) ⟨pt_blind, va_recv hK hP (ci := 6) (q0 := 1) rfl rfl, pt_pre (w := [(mo, .inr (6, .int u_5.1 :: u_5.2))]) (tys := []) (hP.sub [1] rfl) (hK.sub [] rfl) hN⟩ rfl rfl hl.1 rfl (lv_room (Nat.le_of_ble_eq_true rfl)) dL_law_794 ⟨Nat.le_of_ble_eq_true rfl, Nat.le_of_ble_eq_true rfl⟩) (fun r_6 hr_6 => ?_)
    obtain rfl : r_6 = 1 := hr_6.trans hw_5.1
    refine lv_iload hx hb dL_law_797 (lv_at hl 1 rfl) ?_
    refine lv_icmp_eq (tgt := 804) hx hb dL_law_799 (by decide) (fun _ => ?_) (fun c => absurd (by decide) c)
    refine lv_iload hx hb dL_law_804 (lv_at hl 1 rfl) ?_
    refine lv_if_ne (tgt := 821) hx hb dL_law_806 (by decide) (fun _ => ?_) (fun c => absurd c (by decide))
    refine lv_goto (tgt := 824) hx hb dL_law_821 (by decide) ?_
    exact law_end l C0 (Nat.le_of_ble_eq_true rfl) (Nat.le_of_ble_eq_true rfl) hS ls (lv_sub hl [2, 6] rfl)
