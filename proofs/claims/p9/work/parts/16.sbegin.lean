section PGE
variable {p : Program} {l : Launch} {e : Env} {R : Room} {s : State} {m : MethodId} {args : Array Value} {below : List Frame} {meth : Method} {c : Code} {H : Heap} {locs : List Loc} {cells slots : Nat} {Q : State → Prop}
variable {cc : ByteArray} {pc : Nat} {ls : Array Slot} {rest : List Value} {A : Nat → Prop}
/-- a private field of a constant, read by a nestmate -/
theorem pt_getEN (hexec : p.tables.exec = Jvm.exec) (hb : c.code = cc) {E d own ref host : String} {nm : List String} {F : List (String × String × String × List Int32)} {ad : Nat → Nat} {index i : Nat} (hE : va_En E d nm F ad A s s.heap) (hi : i < nm.length) (hS : va_S A s.heap H locs) (hown : s.vm.findClass own = some m.cls) {q : String × String × String × List Int32} (hq : q ∈ F) (hlink : (Cond.fieldLinkNest own index ref q.2.1 q.2.2.1 host).before args s = true) (hsame : ∀ x, s.fieldFound? q.1 q.2.1 q.2.2.1 = some x → s.fieldFound? ref q.2.1 q.2.2.1 = some x) (hdg : decode cc pc = .ok (.getfield index, 3))
    (kk : W p l e R s m args below meth c H locs cells slots Q (F0 m (pc + 3) ls (.int (q.2.2.2.getD i 0) :: rest))) : W p l e R s m args below meth c H locs cells slots Q (F0 m pc ls (.ref (ad i) :: rest)) := by
  obtain ⟨cf, k, fi, f, cell, h1, h2, h3, h4, h5, h6⟩ := ((hE.1 i hi).2.2 q hq).kept hS.2.1
  exact va_Wgetf hexec hb hown hlink (hsame _ h1) h2 h3 h4 (v := .int (q.2.2.2.getD i 0)) h5 rfl rfl hdg kk
end PGE
set_option maxHeartbeats 4000000 in
set_option maxRecDepth 100000 in
theorem s_stepMay (l : Launch) (dC : Nat → ClassId) (dI : Nat → Nat → Nat) (ad : Nat → Nat) (sm : Nat) (x rk ba od j ap : Nat) (li pw rs tm : Int32) (sr : Nat) (hd jm : Nat) (cI cZ : ClassId) (fh fj : Nat → Int32) (b0 b1 : Nat) (cB : ClassId) (bd0 bt0 bp0 bk0 bf0 bc0 bd1 bt1 bp1 bk1 bf1 bc1 : Int32) (ts bs ks : Nat) (c1 c2 c3 : ClassId) (ft fb fk : Nat → Int32) (n : Nat) (pl k s5 jc : Nat) (jt : Int32) (pf pg : Nat) (c4 c5 : ClassId) (ff fg : Nat → Int32) (pz : Int32) (hn : n ≤ 24) (hk0 : k < n) (h1 : ∀ i, sB (fb i)) (hj : jc < 96) (h5 : s5 ≤ 5) (hz : sP pz) : Met l yX7_stepMayGoOn wsX7_stepMayGoOn ({ frames := 3, cells := 0, slots := 0, locals := 65 }) (va_Pc [.ref x] (pt_BE (dC, dI) [(x, .inr (5, [.ref rk, .ref ba, .ref od, .ref j, .ref ap, .int li, .int pw, .int rs, .int tm, .int (nI sr)])), (rk, .inr (4, [.ref hd, .ref jm])), (hd, .inl (cI, 96, .inl fh)), (jm, .inl (cZ, 4, .inl fj)), (ba, .inl (cB, 2, .inr (.inr (.inr (.inr (va_up (va_up (fun _ => none) 0 (some b0)) 1 (some b1))))))), (b0, .inr (0, [.int bd0, .int bt0, .int bp0, .int bk0, .int bf0, .int bc0])), (b1, .inr (0, [.int bd1, .int bt1, .int bp1, .int bk1, .int bf1, .int bc1])), (od, .inr (2, [.ref ts, .ref bs, .ref ks, .int (nI n)])), (ts, .inl (c1, 24, .inl ft)), (bs, .inl (c2, 24, .inl fb)), (ks, .inl (c3, 24, .inl fk)), (j, .inr (1, [.ref pl, .int (nI k), .int (nI jc), .int (nI s5), .int jt])), (pl, .inr (3, [.ref pf, .ref pg, .int pz])), (pf, .inl (c4, 2, .inl ff)), (pg, .inl (c5, 2, .inl fg))] [(cI, .int), (cZ, .boolean), (cB, .object "ParkTower$Bay"), (c1, .int), (c2, .int), (c3, .int), (c4, .int), (c5, .int)] ad sm)) (vp_Si (fun r : Int32 => r = 0 ∨ r = 1)) 0 0 (fun _ => False) := by
  refine Met.ofW (cc := cX7_stepMayGoOn) (maxL := 2) (ret := (some .boolean)) (by decide) rfl ?_
  intro p e s m args below meth c s₁ B hml hv
  obtain ⟨rfl, ⟨hP, hK, hN⟩, hEN⟩ := hv
  have hx := B.exec
  have hb := B.bytes
  have hr := B.returns
  have hts := atoms_spec (ws := wsX7_stepMayGoOn) B.pre
  have hown : s.vm.findClass RX7 = some m.cls := findClass_of_methodNamed B.named
  have hlocks := B.notSynchronized
  have iX2 : ∀ w ∈ wsX20, w ∈ wsX7_stepMayGoOn := by decide +kernel
  have iX3 : ∀ w ∈ wsX30, w ∈ wsX7_stepMayGoOn := by decide +kernel
  have iX5 : ∀ w ∈ wsX50, w ∈ wsX7_stepMayGoOn := by decide +kernel
  have iX7 : ∀ w ∈ wsX70, w ∈ wsX7_stepMayGoOn := by decide +kernel
  have hS : va_S (fun _ => False) s.heap s.heap [] := va_S.rf
  have hP : va_P (dC, dI) vwCl [(x, .inr (5, [.ref rk, .ref ba, .ref od, .ref j, .ref ap, .int li, .int pw, .int rs, .int tm, .int (nI sr)])), (rk, .inr (4, [.ref hd, .ref jm])), (hd, .inl (cI, 96, .inl fh)), (jm, .inl (cZ, 4, .inl fj)), (ba, .inl (cB, 2, .inr (.inr (.inr (.inr (va_up (va_up (fun _ => none) 0 (some b0)) 1 (some b1))))))), (b0, .inr (0, [.int bd0, .int bt0, .int bp0, .int bk0, .int bf0, .int bc0])), (b1, .inr (0, [.int bd1, .int bt1, .int bp1, .int bk1, .int bf1, .int bc1])), (od, .inr (2, [.ref ts, .ref bs, .ref ks, .int (nI n)])), (ts, .inl (c1, 24, .inl ft)), (bs, .inl (c2, 24, .inl fb)), (ks, .inl (c3, 24, .inl fk)), (j, .inr (1, [.ref pl, .int (nI k), .int (nI jc), .int (nI s5), .int jt])), (pl, .inr (3, [.ref pf, .ref pg, .int pz])), (pf, .inl (c4, 2, .inl ff)), (pg, .inl (c5, 2, .inl fg))] s.heap := hP
  have hK : va_K (dC, dI) vwCl [(cI, .int), (cZ, .boolean), (cB, .object "ParkTower$Bay"), (c1, .int), (c2, .int), (c3, .int), (c4, .int), (c5, .int)] s := hK
  have hl := lv_entry ([.ref x]) (n := 2) (Nat.le_of_ble_eq_true rfl)
  rw [lg_entry_eq]
  generalize (lg_sl ([.ref x]) ++ List.replicate (2 - (lg_sl ([.ref x])).length) Slot.unset).toArray = ls at hl ⊢
  have hl : lv_has ls 2 [(0, .ref x)] := hl
  refine lv_aload_n hx hb dX7_stepMayGoOn_0 rfl (lv_at hl 0 rfl) ?_
  refine va_cse (va_Run.run (va_runV (As := []) (rest := []) ⟨hx, hb, hml, hown, hts⟩ (s_stepNow l dC dI ad sm x rk ba od j ap li pw rs tm sr pl k s5 (nI jc) jt ts bs ks c1 c2 c3 ft fb fk n pf pg c4 c5 ff fg pz hn hk0 (by omega) hz) (cwV 0 hts gX7_stepMayGoOn_X7_stepNow rfl rfl rfl (by decide +kernel) ⟨Nat.le_of_ble_eq_true rfl, Nat.le_of_ble_eq_true rfl⟩) ⟨pt_blindE, va_recv hK hP (ci := 5) (q0 := 0) rfl rfl, pt_preE (w := [(x, .inr (5, [.ref rk, .ref ba, .ref od, .ref j, .ref ap, .int li, .int pw, .int rs, .int tm, .int (nI sr)])), (j, .inr (1, [.ref pl, .int (nI k), .int (nI jc), .int (nI s5), .int jt])), (od, .inr (2, [.ref ts, .ref bs, .ref ks, .int (nI n)])), (ts, .inl (c1, 24, .inl ft)), (bs, .inl (c2, 24, .inl fb)), (ks, .inl (c3, 24, .inl fk)), (pl, .inr (3, [.ref pf, .ref pg, .int pz])), (pf, .inl (c4, 2, .inl ff)), (pg, .inl (c5, 2, .inl fg))]) (tys := [(c1, .int), (c2, .int), (c3, .int), (c4, .int), (c5, .int)]) (hP.sub [0, 11, 7, 8, 9, 10, 12, 13, 14] rfl) (hK.sub [3, 4, 5, 6, 7] rfl) hN hEN hS⟩ rfl rfl hl.1 rfl (lv_room (Nat.le_of_ble_eq_true rfl)) dX7_stepMayGoOn_1 ⟨Nat.le_of_ble_eq_true rfl, Nat.le_of_ble_eq_true rfl⟩)) (fun r_1 hr_1 => ?_)
  obtain ⟨i_1, hi_1, rfl, hm_1⟩ := hr_1
  refine W.eq (g2 := F0 m 4 ls [.ref (ad i_1)]) rfl ?_
  refine lv_astore_n (lv' := [(1, .ref (ad i_1)), (0, .ref x)]) hx hb dX7_stepMayGoOn_4 rfl hl (by decide) rfl (fun ls hl => ?_)
  refine lv_aload_n hx hb dX7_stepMayGoOn_5 rfl (lv_at hl 1 rfl) ?_
  refine va_get (D := (dC, dI)) (ci := 5) (v := .int pw) (C := RX7) (T := TX7) (N := 10) hx hb hts iX7 hown hK hP 0 rfl rfl 6 (by decide) (hts (.fieldLink RX7 44 "ParkTower" "powered" "Z") (by decide +kernel)) (fun _ h9 => h9) rfl dX7_stepMayGoOn_6 ?_
  refine lv_if_eq (tgt := 40) hx hb dX7_stepMayGoOn_9 (by decide) (fun c_2 => ?_) (fun c_2 => ?_)
  · have c_2 : (pw = 0) := c_2
    refine lv_iconst (v := 0) hx hb dX7_stepMayGoOn_40 (by decide) ?_
    exact W.zret (v := 0) (ty := .boolean) hx hb hr rfl (fun t ht hW => ⟨0, rfl, Or.inl rfl, ht⟩) (fun q h => by cases h) dX7_stepMayGoOn_41
  · have c_2 : ¬ (pw = 0) := c_2
    refine lv_aload_n hx hb dX7_stepMayGoOn_12 rfl (lv_at hl 0 rfl) ?_
    refine pt_getEN hx hb hEN.1 hi_1 hS hown (q := ("ParkTower$Step", "atLevel", "Z", [0, 0, 0, 0, 1, 1, 1])) (by decide) (va_Nw.use rfl (hN.1 (.fieldLinkNest RX7 261 "ParkTower$Step" "atLevel" "Z" "ParkTower") (by decide +kernel))) (fun _ h9 => h9) dX7_stepMayGoOn_13 ?_
    refine lv_topi (fun z_3 ez_3 => ?_)
    refine lv_if_eq (tgt := 42) hx hb dX7_stepMayGoOn_16 (by decide) (fun c_4 => ?_) (fun c_4 => ?_)
    · have c_4 : (z_3 = 0) := c_4
      refine lv_aload_n hx hb dX7_stepMayGoOn_42 rfl (lv_at hl 0 rfl) ?_
      refine pt_getEN hx hb hEN.1 hi_1 hS hown (q := ("ParkTower$Step", "atBay", "Z", [0, 0, 1, 1, 0, 0, 0])) (by decide) (va_Nw.use rfl (hN.1 (.fieldLinkNest RX7 266 "ParkTower$Step" "atBay" "Z" "ParkTower") (by decide +kernel))) (fun _ h9 => h9) dX7_stepMayGoOn_43 ?_
      refine lv_topi (fun z_5 ez_5 => ?_)
      refine lv_if_eq (tgt := 75) hx hb dX7_stepMayGoOn_46 (by decide) (fun c_6 => ?_) (fun c_6 => ?_)
      · have c_6 : (z_5 = 0) := c_6
        refine lv_iconst (v := 1) hx hb dX7_stepMayGoOn_75 (by decide) ?_
        refine lv_goto (tgt := 80) hx hb dX7_stepMayGoOn_76 (by decide) ?_
        exact W.zret (v := 1) (ty := .boolean) hx hb hr rfl (fun t ht hW => ⟨1, rfl, Or.inr rfl, ht⟩) (fun q h => by cases h) dX7_stepMayGoOn_80
      · have c_6 : ¬ (z_5 = 0) := c_6
        refine lv_aload_n hx hb dX7_stepMayGoOn_49 rfl (lv_at hl 1 rfl) ?_
        refine va_get (D := (dC, dI)) (ci := 5) (v := .ref ba) (C := RX7) (T := TX7) (N := 10) hx hb hts iX7 hown hK hP 0 rfl rfl 1 (by decide) (hts (.fieldLink RX7 18 "ParkTower" "bays" "[LParkTower$Bay;") (by decide +kernel)) (fun _ h9 => h9) rfl dX7_stepMayGoOn_50 ?_
        refine lv_aload_n hx hb dX7_stepMayGoOn_53 rfl (lv_at hl 1 rfl) ?_
        refine va_get (D := (dC, dI)) (ci := 5) (v := .ref od) (C := RX7) (T := TX7) (N := 10) hx hb hts iX7 hown hK hP 0 rfl rfl 2 (by decide) (hts (.fieldLink RX7 26 "ParkTower" "orders" "LParkTower$Orders;") (by decide +kernel)) (fun _ h9 => h9) rfl dX7_stepMayGoOn_54 ?_
        refine va_getN (D := (dC, dI)) (ci := 2) (v := .ref bs) (C := RX3) (T := TX3) (N := 4) hx hb hts iX3 hown hK hP 7 rfl rfl 1 (by decide) (va_Nw.use rfl (hN.1 (.fieldLinkNest RX7 246 "ParkTower$Orders" "bays" "[I" "ParkTower") (by decide +kernel))) (fun _ h9 => h9) rfl dX7_stepMayGoOn_57 ?_
        refine lv_aload_n hx hb dX7_stepMayGoOn_60 rfl (lv_at hl 1 rfl) ?_
        refine va_get (D := (dC, dI)) (ci := 5) (v := .ref j) (C := RX7) (T := TX7) (N := 10) hx hb hts iX7 hown hK hP 0 rfl rfl 3 (by decide) (hts (.fieldLink RX7 33 "ParkTower" "job" "LParkTower$Job;") (by decide +kernel)) (fun _ h9 => h9) rfl dX7_stepMayGoOn_61 ?_
        refine va_getN (D := (dC, dI)) (ci := 1) (v := .int (nI k)) (C := RX2) (T := TX2) (N := 5) hx hb hts iX2 hown hK hP 11 rfl rfl 1 (by decide) (va_Nw.use rfl (hN.1 (.fieldLinkNest RX7 170 "ParkTower$Job" "order" "I" "ParkTower") (by decide +kernel))) (fun _ h9 => h9) rfl dX7_stepMayGoOn_64 ?_
        refine va_iald hx hb hK hP 9 4 rfl rfl (vp_in_nI (n := k) (by omega) (by decide)) dX7_stepMayGoOn_67 ?_
        refine lv_topi (fun a_7 ea_7 => ?_)
        rcases (show sB a_7 by rw [ea_7]; exact h1 _) with rfl | rfl
        · skip
          refine va_aldq hx hb hK hP 4 2 rfl rfl (vp_in_iff.mpr (by decide)) dX7_stepMayGoOn_68 ?_
          refine W.eq (g2 := F0 m 69 ls [.ref b0]) rfl ?_
          refine pt_cSi (va_runV (As := []) (rest := []) ⟨hx, hb, hml, hown, hts⟩ (s_isSafe l dC dI b0 bd0 bt0 bp0 bk0 bf0 bc0) (cwV 0 hts gX7_stepMayGoOn_X1_isSafe rfl rfl rfl (by decide +kernel) ⟨Nat.le_of_ble_eq_true rfl, Nat.le_of_ble_eq_true rfl⟩) ⟨pt_blind, va_recv hK hP (ci := 0) (q0 := 5) rfl rfl, pt_pre (w := [(b0, .inr (0, [.int bd0, .int bt0, .int bp0, .int bk0, .int bf0, .int bc0]))]) (tys := []) (hP.sub [5] rfl) (hK.sub [] rfl) hN⟩ rfl rfl hl.1 rfl (lv_room (Nat.le_of_ble_eq_true rfl)) dX7_stepMayGoOn_69 ⟨Nat.le_of_ble_eq_true rfl, Nat.le_of_ble_eq_true rfl⟩) (fun r_8 hr_8 => ?_)
          rcases hr_8 with rfl | rfl
          · skip
            refine lv_if_eq (tgt := 79) hx hb dX7_stepMayGoOn_72 (by decide) (fun _ => ?_) (fun c => absurd (by decide) c)
            refine lv_iconst (v := 0) hx hb dX7_stepMayGoOn_79 (by decide) ?_
            exact W.zret (v := 0) (ty := .boolean) hx hb hr rfl (fun t ht hW => ⟨0, rfl, Or.inl rfl, ht⟩) (fun q h => by cases h) dX7_stepMayGoOn_80
          · skip
            refine lv_if_eq (tgt := 79) hx hb dX7_stepMayGoOn_72 (by decide) (fun c => absurd c (by decide)) (fun _ => ?_)
            refine lv_iconst (v := 1) hx hb dX7_stepMayGoOn_75 (by decide) ?_
            refine lv_goto (tgt := 80) hx hb dX7_stepMayGoOn_76 (by decide) ?_
            exact W.zret (v := 1) (ty := .boolean) hx hb hr rfl (fun t ht hW => ⟨1, rfl, Or.inr rfl, ht⟩) (fun q h => by cases h) dX7_stepMayGoOn_80
        · skip
          refine va_aldq hx hb hK hP 4 2 rfl rfl (vp_in_iff.mpr (by decide)) dX7_stepMayGoOn_68 ?_
          refine W.eq (g2 := F0 m 69 ls [.ref b1]) rfl ?_
          refine pt_cSi (va_runV (As := []) (rest := []) ⟨hx, hb, hml, hown, hts⟩ (s_isSafe l dC dI b1 bd1 bt1 bp1 bk1 bf1 bc1) (cwV 0 hts gX7_stepMayGoOn_X1_isSafe rfl rfl rfl (by decide +kernel) ⟨Nat.le_of_ble_eq_true rfl, Nat.le_of_ble_eq_true rfl⟩) ⟨pt_blind, va_recv hK hP (ci := 0) (q0 := 6) rfl rfl, pt_pre (w := [(b1, .inr (0, [.int bd1, .int bt1, .int bp1, .int bk1, .int bf1, .int bc1]))]) (tys := []) (hP.sub [6] rfl) (hK.sub [] rfl) hN⟩ rfl rfl hl.1 rfl (lv_room (Nat.le_of_ble_eq_true rfl)) dX7_stepMayGoOn_69 ⟨Nat.le_of_ble_eq_true rfl, Nat.le_of_ble_eq_true rfl⟩) (fun r_9 hr_9 => ?_)
          rcases hr_9 with rfl | rfl
          · skip
            refine lv_if_eq (tgt := 79) hx hb dX7_stepMayGoOn_72 (by decide) (fun _ => ?_) (fun c => absurd (by decide) c)
            refine lv_iconst (v := 0) hx hb dX7_stepMayGoOn_79 (by decide) ?_
            exact W.zret (v := 0) (ty := .boolean) hx hb hr rfl (fun t ht hW => ⟨0, rfl, Or.inl rfl, ht⟩) (fun q h => by cases h) dX7_stepMayGoOn_80
          · skip
            refine lv_if_eq (tgt := 79) hx hb dX7_stepMayGoOn_72 (by decide) (fun c => absurd c (by decide)) (fun _ => ?_)
            refine lv_iconst (v := 1) hx hb dX7_stepMayGoOn_75 (by decide) ?_
            refine lv_goto (tgt := 80) hx hb dX7_stepMayGoOn_76 (by decide) ?_
            exact W.zret (v := 1) (ty := .boolean) hx hb hr rfl (fun t ht hW => ⟨1, rfl, Or.inr rfl, ht⟩) (fun q h => by cases h) dX7_stepMayGoOn_80
    · have c_4 : ¬ (z_3 = 0) := c_4
      refine lv_aload_n hx hb dX7_stepMayGoOn_19 rfl (lv_at hl 1 rfl) ?_
      refine va_get (D := (dC, dI)) (ci := 5) (v := .ref rk) (C := RX7) (T := TX7) (N := 10) hx hb hts iX7 hown hK hP 0 rfl rfl 0 (by decide) (hts (.fieldLink RX7 10 "ParkTower" "rack" "LParkTower$Rack;") (by decide +kernel)) (fun _ h9 => h9) rfl dX7_stepMayGoOn_20 ?_
      refine va_getN (D := (dC, dI)) (ci := 4) (v := .ref jm) (C := RX5) (T := TX5) (N := 2) hx hb hts iX5 hown hK hP 1 rfl rfl 1 (by decide) (va_Nw.use rfl (hN.1 (.fieldLinkNest RX7 126 "ParkTower$Rack" "jammed" "[Z" "ParkTower") (by decide +kernel))) (fun _ h9 => h9) rfl dX7_stepMayGoOn_23 ?_
      refine lv_aload_n hx hb dX7_stepMayGoOn_26 rfl (lv_at hl 1 rfl) ?_
      refine va_get (D := (dC, dI)) (ci := 5) (v := .ref j) (C := RX7) (T := TX7) (N := 10) hx hb hts iX7 hown hK hP 0 rfl rfl 3 (by decide) (hts (.fieldLink RX7 33 "ParkTower" "job" "LParkTower$Job;") (by decide +kernel)) (fun _ h9 => h9) rfl dX7_stepMayGoOn_27 ?_
      refine va_getN (D := (dC, dI)) (ci := 1) (v := .int (nI jc)) (C := RX2) (T := TX2) (N := 5) hx hb hts iX2 hown hK hP 11 rfl rfl 2 (by decide) (va_Nw.use rfl (hN.1 (.fieldLinkNest RX7 201 "ParkTower$Job" "cell" "I" "ParkTower") (by decide +kernel))) (fun _ h9 => h9) rfl dX7_stepMayGoOn_30 ?_
      refine pt_cSi (va_runS (As := [.int (nI jc)]) (rest := [.ref jm]) ⟨hx, hb, hml, hown, hts⟩ (s_levelOf l dC dI jc (by omega)) (cwS 1 hts gX7_stepMayGoOn_X7_levelOf rfl rfl rfl (by decide +kernel) ⟨Nat.le_of_ble_eq_true rfl, Nat.le_of_ble_eq_true rfl⟩) ⟨pt_blind, pt_pre (w := []) (tys := []) (hP.sub [] rfl) (hK.sub [] rfl) hN⟩ rfl rfl hl.1 rfl (lv_room (Nat.le_of_ble_eq_true rfl)) dX7_stepMayGoOn_33 ⟨Nat.le_of_ble_eq_true rfl, Nat.le_of_ble_eq_true rfl⟩) (fun r_10 hr_10 => ?_)
      obtain rfl : r_10 = nI (jc / 24) := hr_10
      refine va_zald hx hb hK hP 3 1 rfl rfl (vp_in_nI (n := jc / 24) (by omega) (by decide)) dX7_stepMayGoOn_36 ?_
      refine lv_topi (fun a_11 ea_11 => ?_)
      refine lv_if_eq (tgt := 42) hx hb dX7_stepMayGoOn_37 (by decide) (fun c_12 => ?_) (fun c_12 => ?_)
      · have c_12 : (a_11 = 0) := c_12
        refine lv_aload_n hx hb dX7_stepMayGoOn_42 rfl (lv_at hl 0 rfl) ?_
        refine pt_getEN hx hb hEN.1 hi_1 hS hown (q := ("ParkTower$Step", "atBay", "Z", [0, 0, 1, 1, 0, 0, 0])) (by decide) (va_Nw.use rfl (hN.1 (.fieldLinkNest RX7 266 "ParkTower$Step" "atBay" "Z" "ParkTower") (by decide +kernel))) (fun _ h9 => h9) dX7_stepMayGoOn_43 ?_
        refine lv_topi (fun z_13 ez_13 => ?_)
        refine lv_if_eq (tgt := 75) hx hb dX7_stepMayGoOn_46 (by decide) (fun c_14 => ?_) (fun c_14 => ?_)
        · have c_14 : (z_13 = 0) := c_14
          refine lv_iconst (v := 1) hx hb dX7_stepMayGoOn_75 (by decide) ?_
          refine lv_goto (tgt := 80) hx hb dX7_stepMayGoOn_76 (by decide) ?_
          exact W.zret (v := 1) (ty := .boolean) hx hb hr rfl (fun t ht hW => ⟨1, rfl, Or.inr rfl, ht⟩) (fun q h => by cases h) dX7_stepMayGoOn_80
        · have c_14 : ¬ (z_13 = 0) := c_14
          refine lv_aload_n hx hb dX7_stepMayGoOn_49 rfl (lv_at hl 1 rfl) ?_
          refine va_get (D := (dC, dI)) (ci := 5) (v := .ref ba) (C := RX7) (T := TX7) (N := 10) hx hb hts iX7 hown hK hP 0 rfl rfl 1 (by decide) (hts (.fieldLink RX7 18 "ParkTower" "bays" "[LParkTower$Bay;") (by decide +kernel)) (fun _ h9 => h9) rfl dX7_stepMayGoOn_50 ?_
          refine lv_aload_n hx hb dX7_stepMayGoOn_53 rfl (lv_at hl 1 rfl) ?_
          refine va_get (D := (dC, dI)) (ci := 5) (v := .ref od) (C := RX7) (T := TX7) (N := 10) hx hb hts iX7 hown hK hP 0 rfl rfl 2 (by decide) (hts (.fieldLink RX7 26 "ParkTower" "orders" "LParkTower$Orders;") (by decide +kernel)) (fun _ h9 => h9) rfl dX7_stepMayGoOn_54 ?_
          refine va_getN (D := (dC, dI)) (ci := 2) (v := .ref bs) (C := RX3) (T := TX3) (N := 4) hx hb hts iX3 hown hK hP 7 rfl rfl 1 (by decide) (va_Nw.use rfl (hN.1 (.fieldLinkNest RX7 246 "ParkTower$Orders" "bays" "[I" "ParkTower") (by decide +kernel))) (fun _ h9 => h9) rfl dX7_stepMayGoOn_57 ?_
          refine lv_aload_n hx hb dX7_stepMayGoOn_60 rfl (lv_at hl 1 rfl) ?_
          refine va_get (D := (dC, dI)) (ci := 5) (v := .ref j) (C := RX7) (T := TX7) (N := 10) hx hb hts iX7 hown hK hP 0 rfl rfl 3 (by decide) (hts (.fieldLink RX7 33 "ParkTower" "job" "LParkTower$Job;") (by decide +kernel)) (fun _ h9 => h9) rfl dX7_stepMayGoOn_61 ?_
          refine va_getN (D := (dC, dI)) (ci := 1) (v := .int (nI k)) (C := RX2) (T := TX2) (N := 5) hx hb hts iX2 hown hK hP 11 rfl rfl 1 (by decide) (va_Nw.use rfl (hN.1 (.fieldLinkNest RX7 170 "ParkTower$Job" "order" "I" "ParkTower") (by decide +kernel))) (fun _ h9 => h9) rfl dX7_stepMayGoOn_64 ?_
          refine va_iald hx hb hK hP 9 4 rfl rfl (vp_in_nI (n := k) (by omega) (by decide)) dX7_stepMayGoOn_67 ?_
          refine lv_topi (fun a_15 ea_15 => ?_)
          rcases (show sB a_15 by rw [ea_15]; exact h1 _) with rfl | rfl
          · skip
            refine va_aldq hx hb hK hP 4 2 rfl rfl (vp_in_iff.mpr (by decide)) dX7_stepMayGoOn_68 ?_
            refine W.eq (g2 := F0 m 69 ls [.ref b0]) rfl ?_
            refine pt_cSi (va_runV (As := []) (rest := []) ⟨hx, hb, hml, hown, hts⟩ (s_isSafe l dC dI b0 bd0 bt0 bp0 bk0 bf0 bc0) (cwV 0 hts gX7_stepMayGoOn_X1_isSafe rfl rfl rfl (by decide +kernel) ⟨Nat.le_of_ble_eq_true rfl, Nat.le_of_ble_eq_true rfl⟩) ⟨pt_blind, va_recv hK hP (ci := 0) (q0 := 5) rfl rfl, pt_pre (w := [(b0, .inr (0, [.int bd0, .int bt0, .int bp0, .int bk0, .int bf0, .int bc0]))]) (tys := []) (hP.sub [5] rfl) (hK.sub [] rfl) hN⟩ rfl rfl hl.1 rfl (lv_room (Nat.le_of_ble_eq_true rfl)) dX7_stepMayGoOn_69 ⟨Nat.le_of_ble_eq_true rfl, Nat.le_of_ble_eq_true rfl⟩) (fun r_16 hr_16 => ?_)
            rcases hr_16 with rfl | rfl
            · skip
              refine lv_if_eq (tgt := 79) hx hb dX7_stepMayGoOn_72 (by decide) (fun _ => ?_) (fun c => absurd (by decide) c)
              refine lv_iconst (v := 0) hx hb dX7_stepMayGoOn_79 (by decide) ?_
              exact W.zret (v := 0) (ty := .boolean) hx hb hr rfl (fun t ht hW => ⟨0, rfl, Or.inl rfl, ht⟩) (fun q h => by cases h) dX7_stepMayGoOn_80
            · skip
              refine lv_if_eq (tgt := 79) hx hb dX7_stepMayGoOn_72 (by decide) (fun c => absurd c (by decide)) (fun _ => ?_)
              refine lv_iconst (v := 1) hx hb dX7_stepMayGoOn_75 (by decide) ?_
              refine lv_goto (tgt := 80) hx hb dX7_stepMayGoOn_76 (by decide) ?_
              exact W.zret (v := 1) (ty := .boolean) hx hb hr rfl (fun t ht hW => ⟨1, rfl, Or.inr rfl, ht⟩) (fun q h => by cases h) dX7_stepMayGoOn_80
          · skip
            refine va_aldq hx hb hK hP 4 2 rfl rfl (vp_in_iff.mpr (by decide)) dX7_stepMayGoOn_68 ?_
            refine W.eq (g2 := F0 m 69 ls [.ref b1]) rfl ?_
            refine pt_cSi (va_runV (As := []) (rest := []) ⟨hx, hb, hml, hown, hts⟩ (s_isSafe l dC dI b1 bd1 bt1 bp1 bk1 bf1 bc1) (cwV 0 hts gX7_stepMayGoOn_X1_isSafe rfl rfl rfl (by decide +kernel) ⟨Nat.le_of_ble_eq_true rfl, Nat.le_of_ble_eq_true rfl⟩) ⟨pt_blind, va_recv hK hP (ci := 0) (q0 := 6) rfl rfl, pt_pre (w := [(b1, .inr (0, [.int bd1, .int bt1, .int bp1, .int bk1, .int bf1, .int bc1]))]) (tys := []) (hP.sub [6] rfl) (hK.sub [] rfl) hN⟩ rfl rfl hl.1 rfl (lv_room (Nat.le_of_ble_eq_true rfl)) dX7_stepMayGoOn_69 ⟨Nat.le_of_ble_eq_true rfl, Nat.le_of_ble_eq_true rfl⟩) (fun r_17 hr_17 => ?_)
            rcases hr_17 with rfl | rfl
            · skip
              refine lv_if_eq (tgt := 79) hx hb dX7_stepMayGoOn_72 (by decide) (fun _ => ?_) (fun c => absurd (by decide) c)
              refine lv_iconst (v := 0) hx hb dX7_stepMayGoOn_79 (by decide) ?_
              exact W.zret (v := 0) (ty := .boolean) hx hb hr rfl (fun t ht hW => ⟨0, rfl, Or.inl rfl, ht⟩) (fun q h => by cases h) dX7_stepMayGoOn_80
            · skip
              refine lv_if_eq (tgt := 79) hx hb dX7_stepMayGoOn_72 (by decide) (fun c => absurd c (by decide)) (fun _ => ?_)
              refine lv_iconst (v := 1) hx hb dX7_stepMayGoOn_75 (by decide) ?_
              refine lv_goto (tgt := 80) hx hb dX7_stepMayGoOn_76 (by decide) ?_
              exact W.zret (v := 1) (ty := .boolean) hx hb hr rfl (fun t ht hW => ⟨1, rfl, Or.inr rfl, ht⟩) (fun q h => by cases h) dX7_stepMayGoOn_80
      · have c_12 : ¬ (a_11 = 0) := c_12
        refine lv_iconst (v := 0) hx hb dX7_stepMayGoOn_40 (by decide) ?_
        exact W.zret (v := 0) (ty := .boolean) hx hb hr rfl (fun t ht hW => ⟨0, rfl, Or.inl rfl, ht⟩) (fun q h => by cases h) dX7_stepMayGoOn_41
set_option maxHeartbeats 4000000 in
set_option maxRecDepth 100000 in
theorem s_beginStep (l : Launch) (dC : Nat → ClassId) (dI : Nat → Nat → Nat) (sz : Nat) (ad : Nat → Nat) (sm : Nat) (x rk ba od j ap : Nat) (li pw rs tm : Int32) (sr : Nat) (pl k s5 jc : Nat) (jt : Int32) (ts bs ks : Nat) (c1 c2 c3 : ClassId) (ft fb fk : Nat → Int32) (n : Nat) (pf pg : Nat) (c4 c5 : ClassId) (ff fg : Nat → Int32) (pz : Int32) (hn : n ≤ 24) (hk0 : k < n) (hj : jc < 96) (h5 : s5 ≤ 5) (hz : sP pz) (h6 : ∀ i, sC (ff i)) (h7 : ∀ i, sC (fg i)) : Met l yX7_beginStep wsX7_beginStep ({ frames := 3, cells := 0, slots := 0, locals := 65 }) (va_Pc [.ref x] (pt_BQE (dC, dI) [(x, .inr (5, [.ref rk, .ref ba, .ref od, .ref j, .ref ap, .int li, .int pw, .int rs, .int tm, .int (nI sr)])), (j, .inr (1, [.ref pl, .int (nI k), .int (nI jc), .int (nI s5), .int jt])), (od, .inr (2, [.ref ts, .ref bs, .ref ks, .int (nI n)])), (ts, .inl (c1, 24, .inl ft)), (bs, .inl (c2, 24, .inl fb)), (ks, .inl (c3, 24, .inl fk)), (pl, .inr (3, [.ref pf, .ref pg, .int pz])), (pf, .inl (c4, 2, .inl ff)), (pg, .inl (c5, 2, .inl fg))] [(c1, .int), (c2, .int), (c3, .int), (c4, .int), (c5, .int)] sz ad sm)) (va_Qv (fun (u : Nat × Int32) => u.1 ≤ 5) (fun u t => pt_at (dC, dI) (va_A [(x, .inr (5, [.ref rk, .ref ba, .ref od, .ref j, .ref ap, .int li, .int pw, .int rs, .int tm, .int (nI sr)])), (j, .inr (1, [.ref pl, .int (nI k), .int (nI jc), .int (nI s5), .int jt])), (od, .inr (2, [.ref ts, .ref bs, .ref ks, .int (nI n)])), (ts, .inl (c1, 24, .inl ft)), (bs, .inl (c2, 24, .inl fb)), (ks, .inl (c3, 24, .inl fk)), (pl, .inr (3, [.ref pf, .ref pg, .int pz])), (pf, .inl (c4, 2, .inl ff)), (pg, .inl (c5, 2, .inl fg))] sz) [(x, .inr (5, [.ref rk, .ref ba, .ref od, .ref j, .ref ap, .int li, .int pw, .int rs, .int tm, .int (nI sr)])), (j, .inr (1, [.ref pl, .int (nI k), .int (nI jc), .int (nI u.1), .int u.2])), (od, .inr (2, [.ref ts, .ref bs, .ref ks, .int (nI n)])), (ts, .inl (c1, 24, .inl ft)), (bs, .inl (c2, 24, .inl fb)), (ks, .inl (c3, 24, .inl fk)), (pl, .inr (3, [.ref pf, .ref pg, .int pz])), (pf, .inl (c4, 2, .inl ff)), (pg, .inl (c5, 2, .inl fg))] [] t) (va_A [(x, .inr (5, [.ref rk, .ref ba, .ref od, .ref j, .ref ap, .int li, .int pw, .int rs, .int tm, .int (nI sr)])), (j, .inr (1, [.ref pl, .int (nI k), .int (nI jc), .int (nI s5), .int jt])), (od, .inr (2, [.ref ts, .ref bs, .ref ks, .int (nI n)])), (ts, .inl (c1, 24, .inl ft)), (bs, .inl (c2, 24, .inl fb)), (ks, .inl (c3, 24, .inl fk)), (pl, .inr (3, [.ref pf, .ref pg, .int pz])), (pf, .inl (c4, 2, .inl ff)), (pg, .inl (c5, 2, .inl fg))] sz)) 0 0 (va_A [(x, .inr (5, [.ref rk, .ref ba, .ref od, .ref j, .ref ap, .int li, .int pw, .int rs, .int tm, .int (nI sr)])), (j, .inr (1, [.ref pl, .int (nI k), .int (nI jc), .int (nI s5), .int jt])), (od, .inr (2, [.ref ts, .ref bs, .ref ks, .int (nI n)])), (ts, .inl (c1, 24, .inl ft)), (bs, .inl (c2, 24, .inl fb)), (ks, .inl (c3, 24, .inl fk)), (pl, .inr (3, [.ref pf, .ref pg, .int pz])), (pf, .inl (c4, 2, .inl ff)), (pg, .inl (c5, 2, .inl fg))] sz) := by
  refine Met.ofW (cc := cX7_beginStep) (maxL := 2) (ret := none) (by decide) rfl ?_
  intro p e s m args below meth c s₁ B hml hv
  obtain ⟨rfl, ⟨hsz, hP, hK, hD0, hN⟩, hEN⟩ := hv
  have hx := B.exec
  have hb := B.bytes
  have hr := B.returns
  have hts := atoms_spec (ws := wsX7_beginStep) B.pre
  have hown : s.vm.findClass RX7 = some m.cls := findClass_of_methodNamed B.named
  have hlocks := B.notSynchronized
  have iX2 : ∀ w ∈ wsX20, w ∈ wsX7_beginStep := by decide +kernel
  have iX7 : ∀ w ∈ wsX70, w ∈ wsX7_beginStep := by decide +kernel
  subst hsz
  have hD := hD0.self (sz := s.heap.size)
  generalize hAe : va_A [(x, .inr (5, [.ref rk, .ref ba, .ref od, .ref j, .ref ap, .int li, .int pw, .int rs, .int tm, .int (nI sr)])), (j, .inr (1, [.ref pl, .int (nI k), .int (nI jc), .int (nI s5), .int jt])), (od, .inr (2, [.ref ts, .ref bs, .ref ks, .int (nI n)])), (ts, .inl (c1, 24, .inl ft)), (bs, .inl (c2, 24, .inl fb)), (ks, .inl (c3, 24, .inl fk)), (pl, .inr (3, [.ref pf, .ref pg, .int pz])), (pf, .inl (c4, 2, .inl ff)), (pg, .inl (c5, 2, .inl fg))] s.heap.size = A at hD hEN ⊢
  have hA : ∀ q : Nat, s.heap.size ≤ q → A q := fun q h => by rw [← hAe]; exact Or.inr h
  have hS : va_S A s.heap s.heap [] := va_S.rf
  have hP : va_P (dC, dI) vwCl [(x, .inr (5, [.ref rk, .ref ba, .ref od, .ref j, .ref ap, .int li, .int pw, .int rs, .int tm, .int (nI sr)])), (j, .inr (1, [.ref pl, .int (nI k), .int (nI jc), .int (nI s5), .int jt])), (od, .inr (2, [.ref ts, .ref bs, .ref ks, .int (nI n)])), (ts, .inl (c1, 24, .inl ft)), (bs, .inl (c2, 24, .inl fb)), (ks, .inl (c3, 24, .inl fk)), (pl, .inr (3, [.ref pf, .ref pg, .int pz])), (pf, .inl (c4, 2, .inl ff)), (pg, .inl (c5, 2, .inl fg))] s.heap := hP
  have hK : va_K (dC, dI) vwCl [(c1, .int), (c2, .int), (c3, .int), (c4, .int), (c5, .int)] s := hK
  have hl := lv_entry ([.ref x]) (n := 2) (Nat.le_of_ble_eq_true rfl)
  rw [lg_entry_eq]
  generalize (lg_sl ([.ref x]) ++ List.replicate (2 - (lg_sl ([.ref x])).length) Slot.unset).toArray = ls at hl ⊢
  have hl : lv_has ls 2 [(0, .ref x)] := hl
  refine lv_aload_n hx hb dX7_beginStep_0 rfl (lv_at hl 0 rfl) ?_
  refine pt_cSi (va_runV (As := []) (rest := []) ⟨hx, hb, hml, hown, hts⟩ (s_stepCount l dC dI x rk ba od j ap li pw rs tm sr pl k (nI jc) (nI s5) jt ts bs ks c1 c2 c3 ft fb fk n pf pg c4 c5 ff fg pz hn hk0 hz) (cwV 0 hts gX7_beginStep_X7_stepCount rfl rfl rfl (by decide +kernel) ⟨Nat.le_of_ble_eq_true rfl, Nat.le_of_ble_eq_true rfl⟩) ⟨pt_blind, va_recv hK hP (ci := 5) (q0 := 0) rfl rfl, pt_pre (w := [(x, .inr (5, [.ref rk, .ref ba, .ref od, .ref j, .ref ap, .int li, .int pw, .int rs, .int tm, .int (nI sr)])), (j, .inr (1, [.ref pl, .int (nI k), .int (nI jc), .int (nI s5), .int jt])), (od, .inr (2, [.ref ts, .ref bs, .ref ks, .int (nI n)])), (ts, .inl (c1, 24, .inl ft)), (bs, .inl (c2, 24, .inl fb)), (ks, .inl (c3, 24, .inl fk)), (pl, .inr (3, [.ref pf, .ref pg, .int pz])), (pf, .inl (c4, 2, .inl ff)), (pg, .inl (c5, 2, .inl fg))]) (tys := [(c1, .int), (c2, .int), (c3, .int), (c4, .int), (c5, .int)]) (hP.sub [0, 1, 2, 3, 4, 5, 6, 7, 8] rfl) (hK.sub [0, 1, 2, 3, 4] rfl) hN⟩ rfl rfl hl.1 rfl (lv_room (Nat.le_of_ble_eq_true rfl)) dX7_beginStep_1 ⟨Nat.le_of_ble_eq_true rfl, Nat.le_of_ble_eq_true rfl⟩) (fun r_1 hr_1 => ?_)
  obtain ⟨z_1, hy_1, hz_1, rfl⟩ := hr_1
  refine lv_istore_n (lv' := [(1, .int (nI z_1)), (0, .ref x)]) hx hb dX7_beginStep_4 rfl hl (by decide) rfl (fun ls hl => ?_)
  refine lv_aload_n hx hb dX7_beginStep_5 rfl (lv_at hl 1 rfl) ?_
  refine va_get (D := (dC, dI)) (ci := 5) (v := .ref j) (C := RX7) (T := TX7) (N := 10) hx hb hts iX7 hown hK hP 0 rfl rfl 3 (by decide) (hts (.fieldLink RX7 33 "ParkTower" "job" "LParkTower$Job;") (by decide +kernel)) (fun _ h9 => h9) rfl dX7_beginStep_6 ?_
  refine lv_aload_n hx hb dX7_beginStep_9 rfl (lv_at hl 1 rfl) ?_
  refine lv_aload_n hx hb dX7_beginStep_10 rfl (lv_at hl 1 rfl) ?_
  refine va_cse (va_Run.run (va_runV (As := []) (rest := [.ref x, .ref j]) ⟨hx, hb, hml, hown, hts⟩ (s_stepNow l dC dI ad sm x rk ba od j ap li pw rs tm sr pl k s5 (nI jc) jt ts bs ks c1 c2 c3 ft fb fk n pf pg c4 c5 ff fg pz hn hk0 (by omega) hz) (cwV 0 hts gX7_beginStep_X7_stepNow rfl rfl rfl (by decide +kernel) ⟨Nat.le_of_ble_eq_true rfl, Nat.le_of_ble_eq_true rfl⟩) ⟨pt_blindE, va_recv hK hP (ci := 5) (q0 := 0) rfl rfl, pt_preE (w := [(x, .inr (5, [.ref rk, .ref ba, .ref od, .ref j, .ref ap, .int li, .int pw, .int rs, .int tm, .int (nI sr)])), (j, .inr (1, [.ref pl, .int (nI k), .int (nI jc), .int (nI s5), .int jt])), (od, .inr (2, [.ref ts, .ref bs, .ref ks, .int (nI n)])), (ts, .inl (c1, 24, .inl ft)), (bs, .inl (c2, 24, .inl fb)), (ks, .inl (c3, 24, .inl fk)), (pl, .inr (3, [.ref pf, .ref pg, .int pz])), (pf, .inl (c4, 2, .inl ff)), (pg, .inl (c5, 2, .inl fg))]) (tys := [(c1, .int), (c2, .int), (c3, .int), (c4, .int), (c5, .int)]) (hP.sub [0, 1, 2, 3, 4, 5, 6, 7, 8] rfl) (hK.sub [0, 1, 2, 3, 4] rfl) hN hEN hS⟩ rfl rfl hl.1 rfl (lv_room (Nat.le_of_ble_eq_true rfl)) dX7_beginStep_11 ⟨Nat.le_of_ble_eq_true rfl, Nat.le_of_ble_eq_true rfl⟩)) (fun r_2 hr_2 => ?_)
  obtain ⟨i_2, hi_2, rfl, hm_2⟩ := hr_2
  refine W.eq (g2 := F0 m 14 ls [.ref (ad i_2), .ref x, .ref j]) rfl ?_
  refine pt_cSi (va_runV (As := [.ref (ad i_2)]) (rest := [.ref j]) ⟨hx, hb, hml, hown, hts⟩ (s_ticksOf l dC dI ad sm x rk ba od j ap li pw rs tm sr pl s5 jc (nI k) jt pf pg c4 c5 ff fg pz i_2 hj h6 h7 hi_2 hm_2) (cwV 1 hts gX7_beginStep_X7_ticksOf rfl rfl rfl (by decide +kernel) ⟨Nat.le_of_ble_eq_true rfl, Nat.le_of_ble_eq_true rfl⟩) ⟨pt_blindE, va_recv hK hP (ci := 5) (q0 := 0) rfl rfl, pt_preE (w := [(x, .inr (5, [.ref rk, .ref ba, .ref od, .ref j, .ref ap, .int li, .int pw, .int rs, .int tm, .int (nI sr)])), (j, .inr (1, [.ref pl, .int (nI k), .int (nI jc), .int (nI s5), .int jt])), (pl, .inr (3, [.ref pf, .ref pg, .int pz])), (pf, .inl (c4, 2, .inl ff)), (pg, .inl (c5, 2, .inl fg))]) (tys := [(c4, .int), (c5, .int)]) (hP.sub [0, 1, 6, 7, 8] rfl) (hK.sub [3, 4] rfl) hN hEN hS⟩ rfl rfl hl.1 rfl (lv_room (Nat.le_of_ble_eq_true rfl)) dX7_beginStep_14 ⟨Nat.le_of_ble_eq_true rfl, Nat.le_of_ble_eq_true rfl⟩) (fun r_3 hr_3 => ?_)
  refine va_putN (D := (dC, dI)) (ci := 1) (v := .int r_3) (ty := .int) (C := RX2) (T := TX2) (N := 5) hx hb hts iX2 tyX2 tyX2_ok nmX2 hown hK hP hD hS 1 rfl rfl 4 (by decide) (va_Nw.use rfl (hN.1 (.fieldLinkNest RX7 176 "ParkTower$Job" "ticksLeft" "I" "ParkTower") (by decide +kernel))) (fun _ h9 => h9) rfl (by decide +kernel) rfl rfl (Nat.le_of_ble_eq_true rfl) dX7_beginStep_17 (fun H locs hP hD hS => ?_)
  have hP : va_P (dC, dI) vwCl [(x, .inr (5, [.ref rk, .ref ba, .ref od, .ref j, .ref ap, .int li, .int pw, .int rs, .int tm, .int (nI sr)])), (j, .inr (1, [.ref pl, .int (nI k), .int (nI jc), .int (nI s5), .int r_3])), (od, .inr (2, [.ref ts, .ref bs, .ref ks, .int (nI n)])), (ts, .inl (c1, 24, .inl ft)), (bs, .inl (c2, 24, .inl fb)), (ks, .inl (c3, 24, .inl fk)), (pl, .inr (3, [.ref pf, .ref pg, .int pz])), (pf, .inl (c4, 2, .inl ff)), (pg, .inl (c5, 2, .inl fg))] H := hP
  have hD : va_D A [(x, .inr (5, [.ref rk, .ref ba, .ref od, .ref j, .ref ap, .int li, .int pw, .int rs, .int tm, .int (nI sr)])), (j, .inr (1, [.ref pl, .int (nI k), .int (nI jc), .int (nI s5), .int r_3])), (od, .inr (2, [.ref ts, .ref bs, .ref ks, .int (nI n)])), (ts, .inl (c1, 24, .inl ft)), (bs, .inl (c2, 24, .inl fb)), (ks, .inl (c3, 24, .inl fk)), (pl, .inr (3, [.ref pf, .ref pg, .int pz])), (pf, .inl (c4, 2, .inl ff)), (pg, .inl (c5, 2, .inl fg))] := hD
  refine pt_loopH (5 - s5) (fun kk H locs ls => ∃ (gt : Int32), lv_has ls 2 [(1, .int (nI z_1)), (0, .ref x)] ∧ va_P (dC, dI) vwCl [(x, .inr (5, [.ref rk, .ref ba, .ref od, .ref j, .ref ap, .int li, .int pw, .int rs, .int tm, .int (nI sr)])), (j, .inr (1, [.ref pl, .int (nI k), .int (nI jc), .int (nI (s5 + kk)), .int gt])), (od, .inr (2, [.ref ts, .ref bs, .ref ks, .int (nI n)])), (ts, .inl (c1, 24, .inl ft)), (bs, .inl (c2, 24, .inl fb)), (ks, .inl (c3, 24, .inl fk)), (pl, .inr (3, [.ref pf, .ref pg, .int pz])), (pf, .inl (c4, 2, .inl ff)), (pg, .inl (c5, 2, .inl fg))] H ∧ va_D A [(x, .inr (5, [.ref rk, .ref ba, .ref od, .ref j, .ref ap, .int li, .int pw, .int rs, .int tm, .int (nI sr)])), (j, .inr (1, [.ref pl, .int (nI k), .int (nI jc), .int (nI (s5 + kk)), .int gt])), (od, .inr (2, [.ref ts, .ref bs, .ref ks, .int (nI n)])), (ts, .inl (c1, 24, .inl ft)), (bs, .inl (c2, 24, .inl fb)), (ks, .inl (c3, 24, .inl fk)), (pl, .inr (3, [.ref pf, .ref pg, .int pz])), (pf, .inl (c4, 2, .inl ff)), (pg, .inl (c5, 2, .inl fg))] ∧ va_S A s.heap H locs) (fun H locs ls hI => ?_) (fun kk H locs ls hk hI ih => ?_) ⟨r_3, lv_sub hl [0, 1] rfl, hP.sub [0, 1, 2, 3, 4, 5, 6, 7, 8] rfl, hD.sub [0, 1, 2, 3, 4, 5, 6, 7, 8] (by decide) rfl, hS⟩
  · obtain ⟨gt, hl, hP, hD, hS⟩ := hI
    have hl : lv_has ls 2 [(1, .int (nI z_1)), (0, .ref x)] := hl
    have hP : va_P (dC, dI) vwCl [(x, .inr (5, [.ref rk, .ref ba, .ref od, .ref j, .ref ap, .int li, .int pw, .int rs, .int tm, .int (nI sr)])), (j, .inr (1, [.ref pl, .int (nI k), .int (nI jc), .int (nI (s5 + (5 - s5))), .int gt])), (od, .inr (2, [.ref ts, .ref bs, .ref ks, .int (nI n)])), (ts, .inl (c1, 24, .inl ft)), (bs, .inl (c2, 24, .inl fb)), (ks, .inl (c3, 24, .inl fk)), (pl, .inr (3, [.ref pf, .ref pg, .int pz])), (pf, .inl (c4, 2, .inl ff)), (pg, .inl (c5, 2, .inl fg))] H := hP
    have hD : va_D A [(x, .inr (5, [.ref rk, .ref ba, .ref od, .ref j, .ref ap, .int li, .int pw, .int rs, .int tm, .int (nI sr)])), (j, .inr (1, [.ref pl, .int (nI k), .int (nI jc), .int (nI (s5 + (5 - s5))), .int gt])), (od, .inr (2, [.ref ts, .ref bs, .ref ks, .int (nI n)])), (ts, .inl (c1, 24, .inl ft)), (bs, .inl (c2, 24, .inl fb)), (ks, .inl (c3, 24, .inl fk)), (pl, .inr (3, [.ref pf, .ref pg, .int pz])), (pf, .inl (c4, 2, .inl ff)), (pg, .inl (c5, 2, .inl fg))] := hD
    refine lv_aload_n hx hb dX7_beginStep_20 rfl (lv_at hl 1 rfl) ?_
    refine va_get (D := (dC, dI)) (ci := 5) (v := .ref j) (C := RX7) (T := TX7) (N := 10) hx hb hts iX7 hown hK hP 0 rfl rfl 3 (by decide) (hts (.fieldLink RX7 33 "ParkTower" "job" "LParkTower$Job;") (by decide +kernel)) (fun _ h9 => h9) rfl dX7_beginStep_21 ?_
    refine va_getN (D := (dC, dI)) (ci := 1) (v := .int gt) (C := RX2) (T := TX2) (N := 5) hx hb hts iX2 hown hK hP 1 rfl rfl 4 (by decide) (va_Nw.use rfl (hN.1 (.fieldLinkNest RX7 176 "ParkTower$Job" "ticksLeft" "I" "ParkTower") (by decide +kernel))) (fun _ h9 => h9) rfl dX7_beginStep_24 ?_
    refine lv_if_ne (tgt := 74) hx hb dX7_beginStep_27 (by decide) (fun c_4 => ?_) (fun c_4 => ?_)
    · have c_4 : ¬ (gt = 0) := c_4
      have hP9 := hP.sub (ws' := [(x, .inr (5, [.ref rk, .ref ba, .ref od, .ref j, .ref ap, .int li, .int pw, .int rs, .int tm, .int (nI sr)])), (j, .inr (1, [.ref pl, .int (nI k), .int (nI jc), .int (nI (s5 + (5 - s5))), .int gt])), (od, .inr (2, [.ref ts, .ref bs, .ref ks, .int (nI n)])), (ts, .inl (c1, 24, .inl ft)), (bs, .inl (c2, 24, .inl fb)), (ks, .inl (c3, 24, .inl fk)), (pl, .inr (3, [.ref pf, .ref pg, .int pz])), (pf, .inl (c4, 2, .inl ff)), (pg, .inl (c5, 2, .inl fg))]) [0, 1, 2, 3, 4, 5, 6, 7, 8] rfl
      have hD9 := hD.sub (ws' := [(x, .inr (5, [.ref rk, .ref ba, .ref od, .ref j, .ref ap, .int li, .int pw, .int rs, .int tm, .int (nI sr)])), (j, .inr (1, [.ref pl, .int (nI k), .int (nI jc), .int (nI (s5 + (5 - s5))), .int gt])), (od, .inr (2, [.ref ts, .ref bs, .ref ks, .int (nI n)])), (ts, .inl (c1, 24, .inl ft)), (bs, .inl (c2, 24, .inl fb)), (ks, .inl (c3, 24, .inl fk)), (pl, .inr (3, [.ref pf, .ref pg, .int pz])), (pf, .inl (c4, 2, .inl ff)), (pg, .inl (c5, 2, .inl fg))]) [0, 1, 2, 3, 4, 5, 6, 7, 8] (by decide) rfl
      have hK9 := hK.sub (tys' := []) [] rfl
      refine W.widen (k := 0) (n := 0) (by omega) (by omega) ?_
      exact W.vret hx hb hr (fun t ht hW => ⟨⟨(s5 + (5 - s5), gt), rfl, (show s5 + (5 - s5) ≤ 5 by omega), by rw [ht]; exact hP9, va_K.moved hW.alike hK9, hD9⟩, hS.F ht⟩) hS.2.2 dX7_beginStep_74
    · have c_4 : (gt = 0) := c_4
      refine lv_aload_n hx hb dX7_beginStep_30 rfl (lv_at hl 1 rfl) ?_
      refine va_get (D := (dC, dI)) (ci := 5) (v := .ref j) (C := RX7) (T := TX7) (N := 10) hx hb hts iX7 hown hK hP 0 rfl rfl 3 (by decide) (hts (.fieldLink RX7 33 "ParkTower" "job" "LParkTower$Job;") (by decide +kernel)) (fun _ h9 => h9) rfl dX7_beginStep_31 ?_
      refine va_getN (D := (dC, dI)) (ci := 1) (v := .int (nI (s5 + (5 - s5)))) (C := RX2) (T := TX2) (N := 5) hx hb hts iX2 hown hK hP 1 rfl rfl 3 (by decide) (va_Nw.use rfl (hN.1 (.fieldLinkNest RX7 173 "ParkTower$Job" "stepsEnded" "I" "ParkTower") (by decide +kernel))) (fun _ h9 => h9) rfl dX7_beginStep_34 ?_
      refine lv_iload_n hx hb dX7_beginStep_37 rfl (lv_at hl 0 rfl) ?_
      refine lv_iconst (v := 1) hx hb dX7_beginStep_38 (by decide) ?_
      refine lv_isub hx hb dX7_beginStep_39 ?_
      refine pt_topi (nI (z_1 - 1)) (pk_sub (a := z_1) (b := 1) (by omega)) ?_
      refine lv_icmp_ge (tgt := 74) hx hb dX7_beginStep_40 (by decide) (fun c_5 => ?_) (fun c_5 => ?_)
      · have c_5 : z_1 - 1 ≤ s5 + (5 - s5) := (nI_leI (a := z_1 - 1) (b := s5 + (5 - s5)) (by omega) (by omega)).mp c_5
        have hP9 := hP.sub (ws' := [(x, .inr (5, [.ref rk, .ref ba, .ref od, .ref j, .ref ap, .int li, .int pw, .int rs, .int tm, .int (nI sr)])), (j, .inr (1, [.ref pl, .int (nI k), .int (nI jc), .int (nI (s5 + (5 - s5))), .int gt])), (od, .inr (2, [.ref ts, .ref bs, .ref ks, .int (nI n)])), (ts, .inl (c1, 24, .inl ft)), (bs, .inl (c2, 24, .inl fb)), (ks, .inl (c3, 24, .inl fk)), (pl, .inr (3, [.ref pf, .ref pg, .int pz])), (pf, .inl (c4, 2, .inl ff)), (pg, .inl (c5, 2, .inl fg))]) [0, 1, 2, 3, 4, 5, 6, 7, 8] rfl
        have hD9 := hD.sub (ws' := [(x, .inr (5, [.ref rk, .ref ba, .ref od, .ref j, .ref ap, .int li, .int pw, .int rs, .int tm, .int (nI sr)])), (j, .inr (1, [.ref pl, .int (nI k), .int (nI jc), .int (nI (s5 + (5 - s5))), .int gt])), (od, .inr (2, [.ref ts, .ref bs, .ref ks, .int (nI n)])), (ts, .inl (c1, 24, .inl ft)), (bs, .inl (c2, 24, .inl fb)), (ks, .inl (c3, 24, .inl fk)), (pl, .inr (3, [.ref pf, .ref pg, .int pz])), (pf, .inl (c4, 2, .inl ff)), (pg, .inl (c5, 2, .inl fg))]) [0, 1, 2, 3, 4, 5, 6, 7, 8] (by decide) rfl
        have hK9 := hK.sub (tys' := []) [] rfl
        refine W.widen (k := 0) (n := 0) (by omega) (by omega) ?_
        exact W.vret hx hb hr (fun t ht hW => ⟨⟨(s5 + (5 - s5), gt), rfl, (show s5 + (5 - s5) ≤ 5 by omega), by rw [ht]; exact hP9, va_K.moved hW.alike hK9, hD9⟩, hS.F ht⟩) hS.2.2 dX7_beginStep_74
      · have c_5 : ¬ (z_1 - 1 ≤ s5 + (5 - s5)) := fun q_ => c_5 ((nI_leI (a := z_1 - 1) (b := s5 + (5 - s5)) (by omega) (by omega)).mpr q_)
        exact (by omega : False).elim
  · obtain ⟨gt, hl, hP, hD, hS⟩ := hI
    have hl : lv_has ls 2 [(1, .int (nI z_1)), (0, .ref x)] := hl
    have hP : va_P (dC, dI) vwCl [(x, .inr (5, [.ref rk, .ref ba, .ref od, .ref j, .ref ap, .int li, .int pw, .int rs, .int tm, .int (nI sr)])), (j, .inr (1, [.ref pl, .int (nI k), .int (nI jc), .int (nI (s5 + kk)), .int gt])), (od, .inr (2, [.ref ts, .ref bs, .ref ks, .int (nI n)])), (ts, .inl (c1, 24, .inl ft)), (bs, .inl (c2, 24, .inl fb)), (ks, .inl (c3, 24, .inl fk)), (pl, .inr (3, [.ref pf, .ref pg, .int pz])), (pf, .inl (c4, 2, .inl ff)), (pg, .inl (c5, 2, .inl fg))] H := hP
    have hD : va_D A [(x, .inr (5, [.ref rk, .ref ba, .ref od, .ref j, .ref ap, .int li, .int pw, .int rs, .int tm, .int (nI sr)])), (j, .inr (1, [.ref pl, .int (nI k), .int (nI jc), .int (nI (s5 + kk)), .int gt])), (od, .inr (2, [.ref ts, .ref bs, .ref ks, .int (nI n)])), (ts, .inl (c1, 24, .inl ft)), (bs, .inl (c2, 24, .inl fb)), (ks, .inl (c3, 24, .inl fk)), (pl, .inr (3, [.ref pf, .ref pg, .int pz])), (pf, .inl (c4, 2, .inl ff)), (pg, .inl (c5, 2, .inl fg))] := hD
    refine lv_aload_n hx hb dX7_beginStep_20 rfl (lv_at hl 1 rfl) ?_
    refine va_get (D := (dC, dI)) (ci := 5) (v := .ref j) (C := RX7) (T := TX7) (N := 10) hx hb hts iX7 hown hK hP 0 rfl rfl 3 (by decide) (hts (.fieldLink RX7 33 "ParkTower" "job" "LParkTower$Job;") (by decide +kernel)) (fun _ h9 => h9) rfl dX7_beginStep_21 ?_
    refine va_getN (D := (dC, dI)) (ci := 1) (v := .int gt) (C := RX2) (T := TX2) (N := 5) hx hb hts iX2 hown hK hP 1 rfl rfl 4 (by decide) (va_Nw.use rfl (hN.1 (.fieldLinkNest RX7 176 "ParkTower$Job" "ticksLeft" "I" "ParkTower") (by decide +kernel))) (fun _ h9 => h9) rfl dX7_beginStep_24 ?_
    refine lv_if_ne (tgt := 74) hx hb dX7_beginStep_27 (by decide) (fun c_6 => ?_) (fun c_6 => ?_)
    · have c_6 : ¬ (gt = 0) := c_6
      have hP9 := hP.sub (ws' := [(x, .inr (5, [.ref rk, .ref ba, .ref od, .ref j, .ref ap, .int li, .int pw, .int rs, .int tm, .int (nI sr)])), (j, .inr (1, [.ref pl, .int (nI k), .int (nI jc), .int (nI (s5 + kk)), .int gt])), (od, .inr (2, [.ref ts, .ref bs, .ref ks, .int (nI n)])), (ts, .inl (c1, 24, .inl ft)), (bs, .inl (c2, 24, .inl fb)), (ks, .inl (c3, 24, .inl fk)), (pl, .inr (3, [.ref pf, .ref pg, .int pz])), (pf, .inl (c4, 2, .inl ff)), (pg, .inl (c5, 2, .inl fg))]) [0, 1, 2, 3, 4, 5, 6, 7, 8] rfl
      have hD9 := hD.sub (ws' := [(x, .inr (5, [.ref rk, .ref ba, .ref od, .ref j, .ref ap, .int li, .int pw, .int rs, .int tm, .int (nI sr)])), (j, .inr (1, [.ref pl, .int (nI k), .int (nI jc), .int (nI (s5 + kk)), .int gt])), (od, .inr (2, [.ref ts, .ref bs, .ref ks, .int (nI n)])), (ts, .inl (c1, 24, .inl ft)), (bs, .inl (c2, 24, .inl fb)), (ks, .inl (c3, 24, .inl fk)), (pl, .inr (3, [.ref pf, .ref pg, .int pz])), (pf, .inl (c4, 2, .inl ff)), (pg, .inl (c5, 2, .inl fg))]) [0, 1, 2, 3, 4, 5, 6, 7, 8] (by decide) rfl
      have hK9 := hK.sub (tys' := []) [] rfl
      refine W.widen (k := 0) (n := 0) (by omega) (by omega) ?_
      exact W.vret hx hb hr (fun t ht hW => ⟨⟨(s5 + kk, gt), rfl, (show s5 + kk ≤ 5 by omega), by rw [ht]; exact hP9, va_K.moved hW.alike hK9, hD9⟩, hS.F ht⟩) hS.2.2 dX7_beginStep_74
    · have c_6 : (gt = 0) := c_6
      refine lv_aload_n hx hb dX7_beginStep_30 rfl (lv_at hl 1 rfl) ?_
      refine va_get (D := (dC, dI)) (ci := 5) (v := .ref j) (C := RX7) (T := TX7) (N := 10) hx hb hts iX7 hown hK hP 0 rfl rfl 3 (by decide) (hts (.fieldLink RX7 33 "ParkTower" "job" "LParkTower$Job;") (by decide +kernel)) (fun _ h9 => h9) rfl dX7_beginStep_31 ?_
      refine va_getN (D := (dC, dI)) (ci := 1) (v := .int (nI (s5 + kk))) (C := RX2) (T := TX2) (N := 5) hx hb hts iX2 hown hK hP 1 rfl rfl 3 (by decide) (va_Nw.use rfl (hN.1 (.fieldLinkNest RX7 173 "ParkTower$Job" "stepsEnded" "I" "ParkTower") (by decide +kernel))) (fun _ h9 => h9) rfl dX7_beginStep_34 ?_
      refine lv_iload_n hx hb dX7_beginStep_37 rfl (lv_at hl 0 rfl) ?_
      refine lv_iconst (v := 1) hx hb dX7_beginStep_38 (by decide) ?_
      refine lv_isub hx hb dX7_beginStep_39 ?_
      refine pt_topi (nI (z_1 - 1)) (pk_sub (a := z_1) (b := 1) (by omega)) ?_
      refine lv_icmp_ge (tgt := 74) hx hb dX7_beginStep_40 (by decide) (fun c_7 => ?_) (fun c_7 => ?_)
      · have c_7 : z_1 - 1 ≤ s5 + kk := (nI_leI (a := z_1 - 1) (b := s5 + kk) (by omega) (by omega)).mp c_7
        have hP9 := hP.sub (ws' := [(x, .inr (5, [.ref rk, .ref ba, .ref od, .ref j, .ref ap, .int li, .int pw, .int rs, .int tm, .int (nI sr)])), (j, .inr (1, [.ref pl, .int (nI k), .int (nI jc), .int (nI (s5 + kk)), .int gt])), (od, .inr (2, [.ref ts, .ref bs, .ref ks, .int (nI n)])), (ts, .inl (c1, 24, .inl ft)), (bs, .inl (c2, 24, .inl fb)), (ks, .inl (c3, 24, .inl fk)), (pl, .inr (3, [.ref pf, .ref pg, .int pz])), (pf, .inl (c4, 2, .inl ff)), (pg, .inl (c5, 2, .inl fg))]) [0, 1, 2, 3, 4, 5, 6, 7, 8] rfl
        have hD9 := hD.sub (ws' := [(x, .inr (5, [.ref rk, .ref ba, .ref od, .ref j, .ref ap, .int li, .int pw, .int rs, .int tm, .int (nI sr)])), (j, .inr (1, [.ref pl, .int (nI k), .int (nI jc), .int (nI (s5 + kk)), .int gt])), (od, .inr (2, [.ref ts, .ref bs, .ref ks, .int (nI n)])), (ts, .inl (c1, 24, .inl ft)), (bs, .inl (c2, 24, .inl fb)), (ks, .inl (c3, 24, .inl fk)), (pl, .inr (3, [.ref pf, .ref pg, .int pz])), (pf, .inl (c4, 2, .inl ff)), (pg, .inl (c5, 2, .inl fg))]) [0, 1, 2, 3, 4, 5, 6, 7, 8] (by decide) rfl
        have hK9 := hK.sub (tys' := []) [] rfl
        refine W.widen (k := 0) (n := 0) (by omega) (by omega) ?_
        exact W.vret hx hb hr (fun t ht hW => ⟨⟨(s5 + kk, gt), rfl, (show s5 + kk ≤ 5 by omega), by rw [ht]; exact hP9, va_K.moved hW.alike hK9, hD9⟩, hS.F ht⟩) hS.2.2 dX7_beginStep_74
      · have c_7 : ¬ (z_1 - 1 ≤ s5 + kk) := fun q_ => c_7 ((nI_leI (a := z_1 - 1) (b := s5 + kk) (by omega) (by omega)).mpr q_)
        refine lv_aload_n hx hb dX7_beginStep_43 rfl (lv_at hl 1 rfl) ?_
        refine va_get (D := (dC, dI)) (ci := 5) (v := .ref j) (C := RX7) (T := TX7) (N := 10) hx hb hts iX7 hown hK hP 0 rfl rfl 3 (by decide) (hts (.fieldLink RX7 33 "ParkTower" "job" "LParkTower$Job;") (by decide +kernel)) (fun _ h9 => h9) rfl dX7_beginStep_44 ?_
        refine lv_dup hx hb dX7_beginStep_47 rfl ?_
        refine va_getN (D := (dC, dI)) (ci := 1) (v := .int (nI (s5 + kk))) (C := RX2) (T := TX2) (N := 5) hx hb hts iX2 hown hK hP 1 rfl rfl 3 (by decide) (va_Nw.use rfl (hN.1 (.fieldLinkNest RX7 173 "ParkTower$Job" "stepsEnded" "I" "ParkTower") (by decide +kernel))) (fun _ h9 => h9) rfl dX7_beginStep_48 ?_
        refine lv_iconst (v := 1) hx hb dX7_beginStep_51 (by decide) ?_
        refine lv_iadd hx hb dX7_beginStep_52 ?_
        refine pt_topi (nI (s5 + kk + 1)) (nI_add (s5 + kk) 1) ?_
        refine va_putN (D := (dC, dI)) (ci := 1) (v := .int (nI (s5 + kk + 1))) (ty := .int) (C := RX2) (T := TX2) (N := 5) hx hb hts iX2 tyX2 tyX2_ok nmX2 hown hK hP hD hS 1 rfl rfl 3 (by decide) (va_Nw.use rfl (hN.1 (.fieldLinkNest RX7 173 "ParkTower$Job" "stepsEnded" "I" "ParkTower") (by decide +kernel))) (fun _ h9 => h9) rfl (by decide +kernel) rfl rfl (Nat.le_of_ble_eq_true rfl) dX7_beginStep_53 (fun H locs hP hD hS => ?_)
        have hP : va_P (dC, dI) vwCl [(x, .inr (5, [.ref rk, .ref ba, .ref od, .ref j, .ref ap, .int li, .int pw, .int rs, .int tm, .int (nI sr)])), (j, .inr (1, [.ref pl, .int (nI k), .int (nI jc), .int (nI (s5 + kk + 1)), .int gt])), (od, .inr (2, [.ref ts, .ref bs, .ref ks, .int (nI n)])), (ts, .inl (c1, 24, .inl ft)), (bs, .inl (c2, 24, .inl fb)), (ks, .inl (c3, 24, .inl fk)), (pl, .inr (3, [.ref pf, .ref pg, .int pz])), (pf, .inl (c4, 2, .inl ff)), (pg, .inl (c5, 2, .inl fg))] H := hP
        have hD : va_D A [(x, .inr (5, [.ref rk, .ref ba, .ref od, .ref j, .ref ap, .int li, .int pw, .int rs, .int tm, .int (nI sr)])), (j, .inr (1, [.ref pl, .int (nI k), .int (nI jc), .int (nI (s5 + kk + 1)), .int gt])), (od, .inr (2, [.ref ts, .ref bs, .ref ks, .int (nI n)])), (ts, .inl (c1, 24, .inl ft)), (bs, .inl (c2, 24, .inl fb)), (ks, .inl (c3, 24, .inl fk)), (pl, .inr (3, [.ref pf, .ref pg, .int pz])), (pf, .inl (c4, 2, .inl ff)), (pg, .inl (c5, 2, .inl fg))] := hD
        refine lv_aload_n hx hb dX7_beginStep_56 rfl (lv_at hl 1 rfl) ?_
        refine va_get (D := (dC, dI)) (ci := 5) (v := .ref j) (C := RX7) (T := TX7) (N := 10) hx hb hts iX7 hown hK hP 0 rfl rfl 3 (by decide) (hts (.fieldLink RX7 33 "ParkTower" "job" "LParkTower$Job;") (by decide +kernel)) (fun _ h9 => h9) rfl dX7_beginStep_57 ?_
        refine lv_aload_n hx hb dX7_beginStep_60 rfl (lv_at hl 1 rfl) ?_
        refine lv_aload_n hx hb dX7_beginStep_61 rfl (lv_at hl 1 rfl) ?_
        refine va_cse (va_Run.run (va_runV (As := []) (rest := [.ref x, .ref j]) ⟨hx, hb, hml, hown, hts⟩ (s_stepNow l dC dI ad sm x rk ba od j ap li pw rs tm sr pl k (s5 + kk + 1) (nI jc) gt ts bs ks c1 c2 c3 ft fb fk n pf pg c4 c5 ff fg pz hn hk0 (by omega) hz) (cwV 0 hts gX7_beginStep_X7_stepNow rfl rfl rfl (by decide +kernel) ⟨Nat.le_of_ble_eq_true rfl, Nat.le_of_ble_eq_true rfl⟩) ⟨pt_blindE, va_recv hK hP (ci := 5) (q0 := 0) rfl rfl, pt_preE (w := [(x, .inr (5, [.ref rk, .ref ba, .ref od, .ref j, .ref ap, .int li, .int pw, .int rs, .int tm, .int (nI sr)])), (j, .inr (1, [.ref pl, .int (nI k), .int (nI jc), .int (nI (s5 + kk + 1)), .int gt])), (od, .inr (2, [.ref ts, .ref bs, .ref ks, .int (nI n)])), (ts, .inl (c1, 24, .inl ft)), (bs, .inl (c2, 24, .inl fb)), (ks, .inl (c3, 24, .inl fk)), (pl, .inr (3, [.ref pf, .ref pg, .int pz])), (pf, .inl (c4, 2, .inl ff)), (pg, .inl (c5, 2, .inl fg))]) (tys := [(c1, .int), (c2, .int), (c3, .int), (c4, .int), (c5, .int)]) (hP.sub [0, 1, 2, 3, 4, 5, 6, 7, 8] rfl) (hK.sub [0, 1, 2, 3, 4] rfl) hN hEN hS⟩ rfl rfl hl.1 rfl (lv_room (Nat.le_of_ble_eq_true rfl)) dX7_beginStep_62 ⟨Nat.le_of_ble_eq_true rfl, Nat.le_of_ble_eq_true rfl⟩)) (fun r_8 hr_8 => ?_)
        obtain ⟨i_8, hi_8, rfl, hm_8⟩ := hr_8
        refine W.eq (g2 := F0 m 65 ls [.ref (ad i_8), .ref x, .ref j]) rfl ?_
        refine pt_cSi (va_runV (As := [.ref (ad i_8)]) (rest := [.ref j]) ⟨hx, hb, hml, hown, hts⟩ (s_ticksOf l dC dI ad sm x rk ba od j ap li pw rs tm sr pl (s5 + kk + 1) jc (nI k) gt pf pg c4 c5 ff fg pz i_8 hj h6 h7 hi_8 hm_8) (cwV 1 hts gX7_beginStep_X7_ticksOf rfl rfl rfl (by decide +kernel) ⟨Nat.le_of_ble_eq_true rfl, Nat.le_of_ble_eq_true rfl⟩) ⟨pt_blindE, va_recv hK hP (ci := 5) (q0 := 0) rfl rfl, pt_preE (w := [(x, .inr (5, [.ref rk, .ref ba, .ref od, .ref j, .ref ap, .int li, .int pw, .int rs, .int tm, .int (nI sr)])), (j, .inr (1, [.ref pl, .int (nI k), .int (nI jc), .int (nI (s5 + kk + 1)), .int gt])), (pl, .inr (3, [.ref pf, .ref pg, .int pz])), (pf, .inl (c4, 2, .inl ff)), (pg, .inl (c5, 2, .inl fg))]) (tys := [(c4, .int), (c5, .int)]) (hP.sub [0, 1, 6, 7, 8] rfl) (hK.sub [3, 4] rfl) hN hEN hS⟩ rfl rfl hl.1 rfl (lv_room (Nat.le_of_ble_eq_true rfl)) dX7_beginStep_65 ⟨Nat.le_of_ble_eq_true rfl, Nat.le_of_ble_eq_true rfl⟩) (fun r_9 hr_9 => ?_)
        refine va_putN (D := (dC, dI)) (ci := 1) (v := .int r_9) (ty := .int) (C := RX2) (T := TX2) (N := 5) hx hb hts iX2 tyX2 tyX2_ok nmX2 hown hK hP hD hS 1 rfl rfl 4 (by decide) (va_Nw.use rfl (hN.1 (.fieldLinkNest RX7 176 "ParkTower$Job" "ticksLeft" "I" "ParkTower") (by decide +kernel))) (fun _ h9 => h9) rfl (by decide +kernel) rfl rfl (Nat.le_of_ble_eq_true rfl) dX7_beginStep_68 (fun H locs hP hD hS => ?_)
        have hP : va_P (dC, dI) vwCl [(x, .inr (5, [.ref rk, .ref ba, .ref od, .ref j, .ref ap, .int li, .int pw, .int rs, .int tm, .int (nI sr)])), (j, .inr (1, [.ref pl, .int (nI k), .int (nI jc), .int (nI (s5 + kk + 1)), .int r_9])), (od, .inr (2, [.ref ts, .ref bs, .ref ks, .int (nI n)])), (ts, .inl (c1, 24, .inl ft)), (bs, .inl (c2, 24, .inl fb)), (ks, .inl (c3, 24, .inl fk)), (pl, .inr (3, [.ref pf, .ref pg, .int pz])), (pf, .inl (c4, 2, .inl ff)), (pg, .inl (c5, 2, .inl fg))] H := hP
        have hD : va_D A [(x, .inr (5, [.ref rk, .ref ba, .ref od, .ref j, .ref ap, .int li, .int pw, .int rs, .int tm, .int (nI sr)])), (j, .inr (1, [.ref pl, .int (nI k), .int (nI jc), .int (nI (s5 + kk + 1)), .int r_9])), (od, .inr (2, [.ref ts, .ref bs, .ref ks, .int (nI n)])), (ts, .inl (c1, 24, .inl ft)), (bs, .inl (c2, 24, .inl fb)), (ks, .inl (c3, 24, .inl fk)), (pl, .inr (3, [.ref pf, .ref pg, .int pz])), (pf, .inl (c4, 2, .inl ff)), (pg, .inl (c5, 2, .inl fg))] := hD
        refine lv_goto (tgt := 20) hx hb dX7_beginStep_71 (by decide) ?_
        exact ih H locs ls ⟨r_9, lv_sub hl [0, 1] rfl, hP.sub [0, 1, 2, 3, 4, 5, 6, 7, 8] rfl, hD.sub [0, 1, 2, 3, 4, 5, 6, 7, 8] (by decide) rfl, hS⟩
