/-! what a method that may throw takes of a state beside its cells -/
def pt_xw : List Cond := [.declares ⟨"java/lang/RuntimeException", "<init>", "()V"⟩, .declares ⟨"java/lang/Exception", "<init>", "()V"⟩, .declares ⟨"java/lang/Throwable", "<init>", "()V"⟩, .castable "java/lang/IllegalArgumentException" "java/lang/IllegalArgumentException", .castable "java/lang/IllegalStateException" "java/lang/IllegalStateException"]
def pt_E (U : State) : Prop := (∀ w ∈ pt_xw, va_Nw w U) ∧ va_Nc "java/lang/IllegalStateException" "java/lang/IllegalArgumentException" U
theorem pt_xw_ot : ∀ w ∈ pt_xw, w.onTables = true := by decide +kernel
theorem pt_E.warm {s U : State} (hW : s.WarmedH U.vm) (h : pt_E s) : pt_E U := by
  refine ⟨?_, va_Nc.moved hW.alike h.2⟩
  intro w hw
  have h1 := h.1 w hw
  simp only [pt_xw, List.mem_cons, List.not_mem_nil, or_false] at hw
  rcases hw with rfl | rfl | rfl | rfl | rfl <;> first | exact va_Nw.warmD hW h1 | exact va_Nw.warmC hW h1
theorem pt_E.same {u U : State} (h : u.vm = U.vm) (hE : pt_E u) : pt_E U := ⟨fun w hw => va_Nw.same (pt_xw_ot w hw) h (hE.1 w hw), va_Nc.moved (by rw [h]; exact Vm.Alike.refl _) hE.2⟩
/-- Throwable's two statics, in a heap of which nothing below sz may change -/
def pt_Z (sz : Nat) (U : State) (H : Heap) : Prop := vx_Zq Bundle.tN "UNASSIGNED_STACK" Bundle.steD (fun q => sz ≤ q) U H ∧ vx_Zq Bundle.tN "SUPPRESSED_SENTINEL" Bundle.listD (fun q => sz ≤ q) U H
theorem pt_Z.moved {sz : Nat} {u U : State} {H : Heap} (h : u.vm.Alike U.vm) (hZ : pt_Z sz u H) : pt_Z sz U H := ⟨vx_Zq.moved h hZ.1, vx_Zq.moved h hZ.2⟩
theorem pt_Z.up {sz : Nat} {U : State} {H H1 : Heap} (hZ : pt_Z sz U H) (hk : ∀ q : Nat, q < H.size → ¬ sz ≤ q → H1[q]? = H[q]?) (hs : sz ≤ H1.size) : pt_Z H1.size U H1 := ⟨vx_Zq.narrow (vx_Zq.kept hZ.1 hk) (fun _ h => Nat.le_trans hs h), vx_Zq.narrow (vx_Zq.kept hZ.2 hk) (fun _ h => Nat.le_trans hs h)⟩
def pt_BT (D : va_G) (w : va_W) (tys : List (ClassId × FieldType)) (sz : Nat) (U : State) : Prop := U.heap.size = sz ∧ va_P D vwCl w U.heap ∧ va_K D vwCl tys U ∧ va_D (fun _ => True) w ∧ pt_N U ∧ pt_E U ∧ pt_Z sz U U.heap
theorem pt_blindT {As : List Value} {D : va_G} {w : va_W} {tys : List (ClassId × FieldType)} {sz : Nat} : FrameBlind (va_Pc As (pt_BT D w tys sz)) := fun a U g mk h => ⟨h.1, h.2.1, h.2.2.1, va_K.moved (u := U) (U := U.calling g mk a) (Vm.Alike.refl U.vm) h.2.2.2.1, h.2.2.2.2.1, pt_N.same (u := U) (U := U.calling g mk a) rfl h.2.2.2.2.2.1, pt_E.same (u := U) (U := U.calling g mk a) rfl h.2.2.2.2.2.2.1, pt_Z.moved (u := U) (U := U.calling g mk a) (Vm.Alike.refl U.vm) h.2.2.2.2.2.2.2⟩
theorem pt_preT {As : List Value} {D : va_G} {A : Nat → Prop} {w : va_W} {tys : List (ClassId × FieldType)} {s : State} {H : Heap} (hP : va_P D vwCl w H) (hK : va_K D vwCl tys s) (hD : va_D A w) (hN : pt_N s) (hE : pt_E s) (hZ : pt_Z H.size s H) : ∀ U : State, U.heap = H → s.WarmedH U.vm → va_Pc As (pt_BT D w tys H.size) As.toArray U := fun U hU hW => ⟨rfl, by rw [hU], by rw [hU]; exact hP, va_K.moved hW.alike hK, hD.weaken (fun _ _ _ _ => trivial), hN.warm hW, hE.warm hW, by rw [hU]; exact hZ.moved hW.alike⟩
/-- what lies in a heap stays there over a throw -/
theorem pt_stay {D : va_G} {w : va_W} {H H1 : Heap} (hP : va_P D vwCl w H) (hk : ∀ q : Nat, q < H.size → ¬ H.size ≤ q → H1[q]? = H[q]?) : va_P D vwCl w H1 := hP.kept (fun k q h => hk q.1 (vx_lt hP h) (Nat.not_le.mpr (vx_lt hP h)))
/-- the words of a throw of these two kinds, out of a method's list and of pt_E -/
theorem pt_hat {args : Array Value} {s : State} {own cls : String} {ic : Nat} {ws : List Cond} (hts : ∀ w ∈ ws, w.before args s = true) (hin : ∀ w ∈ (vx_at0 own ic cls ["java/lang/RuntimeException", "java/lang/Exception"]).filter goodWord, w ∈ ws)
    (hno : ∀ w ∈ (vx_at0 own ic cls ["java/lang/RuntimeException", "java/lang/Exception"]).filter (fun w => !goodWord w), w ∈ pt_xw) (hE : pt_E s) : ∀ w ∈ vx_at0 own ic cls ["java/lang/RuntimeException", "java/lang/Exception"], w.before args s = true :=
  vx_hat (B := pt_xw) (fun w h => hts w (hin w h)) hno (fun w h => va_Nw.use (pt_xw_ot w h) (hE.1 w h))
theorem pt_no54 : ∀ w ∈ (vx_at0 RX7 54 "java/lang/IllegalArgumentException" ["java/lang/RuntimeException", "java/lang/Exception"]).filter (fun w => !goodWord w), w ∈ pt_xw := by decide +kernel
theorem pt_no100 : ∀ w ∈ (vx_at0 RX7 100 "java/lang/IllegalStateException" ["java/lang/RuntimeException", "java/lang/Exception"]).filter (fun w => !goodWord w), w ∈ pt_xw := by decide +kernel
theorem pt_ok54 : ∀ w ∈ Cond.classLink RX7 52 "java/lang/IllegalArgumentException" :: Cond.initialized "java/lang/IllegalArgumentException" :: vx_at0 RX7 54 "java/lang/IllegalArgumentException" ["java/lang/RuntimeException", "java/lang/Exception"], vx_ot w = true := by decide +kernel
theorem pt_ok100 : ∀ w ∈ Cond.classLink RX7 98 "java/lang/IllegalStateException" :: Cond.initialized "java/lang/IllegalStateException" :: vx_at0 RX7 100 "java/lang/IllegalStateException" ["java/lang/RuntimeException", "java/lang/Exception"], vx_ot w = true := by decide +kernel
/-- a walk cut in two: what comes behind is laid once -/
theorem pt_cut {p : Program} {l : Launch} {e : Env} {R : Room} {s : State} {m : MethodId} {args : Array Value} {below : List Frame} {meth : Method} {c : Code} {H : Heap} {locs : List Loc} {cells slots : Nat} {Q : State → Prop} {g : JFrame} (nL pc' : Nat) (L : List (Nat × Value)) (rest' : List Value)
    (h : ∀ ls, lv_has ls nL L → W p l e R s m args below meth c H locs cells slots Q (F0 m pc' ls rest')) (k : (∀ ls, lv_has ls nL L → W p l e R s m args below meth c H locs cells slots Q (F0 m pc' ls rest')) → W p l e R s m args below meth c H locs cells slots Q g) : W p l e R s m args below meth c H locs cells slots Q g := k h
theorem pt_nle {x : Int32} (h : ¬ x < 1) : ¬ x ≤ 0 := Int32.not_le.mpr (pt_pos h)
theorem pt_nle' {x : Int32} (h : ¬ x ≤ 0) : ¬ x < 1 := by
  have a := Int32.lt_iff_toInt_lt.mp (Int32.not_le.mp h)
  refine Int32.not_lt.mpr (Int32.le_iff_toInt_le.mpr ?_)
  have e0 : (0 : Int32).toInt = 0 := by decide
  have e1 : (1 : Int32).toInt = 1 := by decide
  omega
theorem pt_bay2 {b : Int32} (h0 : ¬ b < 0) (h1 : ¬ 1 < b) : b = 0 ∨ b = 1 := pt_bay (Int32.not_lt.mp h0) (by
  have a := Int32.le_iff_toInt_le.mp (Int32.not_lt.mp h1)
  refine Int32.lt_iff_toInt_lt.mpr ?_
  have e1 : (1 : Int32).toInt = 1 := by decide
  have e2 : (2 : Int32).toInt = 2 := by decide
  omega)
