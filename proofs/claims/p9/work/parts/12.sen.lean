/-! the steps: constants from the start -/
def st_nm : List String := ["LIFT_TO_GROUND", "LIFT_TO_LEVEL", "FROM_BAY", "INTO_BAY", "FROM_CELL", "INTO_CELL", "MOVE"]
def st_F : List (String × String × String × List Int32) := [("java/lang/Enum", "ordinal", "I", [0, 1, 2, 3, 4, 5, 6]), ("ParkTower$Step", "atBay", "Z", [0, 0, 1, 1, 0, 0, 0]), ("ParkTower$Step", "atLevel", "Z", [0, 0, 0, 0, 1, 1, 1])]
def st_map : Nat → Value := fun i => .int ([1, 2, 6, 0, 4, 5, 3].getD i 0)
def pt_EN (ad : Nat → Nat) (sm : Nat) (A : Nat → Prop) (U : State) (H : Heap) : Prop := va_En "ParkTower$Step" "LParkTower$Step;" st_nm st_F ad A U H ∧ va_Z "ParkTower$1" "$SwitchMap$ParkTower$Step" "[I" (.ref sm) A U H ∧ va_T .int sm 7 st_map A U H
theorem pt_EN.moved {ad : Nat → Nat} {sm : Nat} {A : Nat → Prop} {u U : State} {H : Heap} (hvm : u.vm.Alike U.vm) (h : pt_EN ad sm A u H) : pt_EN ad sm A U H := ⟨va_En.moved hvm h.1, va_Z.moved hvm h.2.1, va_T.moved hvm h.2.2⟩
theorem pt_EN.kept {ad : Nat → Nat} {sm : Nat} {A : Nat → Prop} {U : State} {H H1 : Heap} (h : pt_EN ad sm A U H) (hq : ∀ a : Nat, a < H.size → ¬ A a → H1[a]? = H[a]?) : pt_EN ad sm A U H1 := ⟨h.1.kept hq, h.2.1.kept hq, h.2.2.kept hq⟩
theorem pt_EN.narrow {ad : Nat → Nat} {sm : Nat} {A B : Nat → Prop} {U : State} {H : Heap} (h : pt_EN ad sm A U H) (hAB : ∀ q, B q → A q) : pt_EN ad sm B U H := ⟨h.1.narrow hAB, h.2.1.narrow hAB, h.2.2.narrow hAB⟩
def pt_BE (D : va_G) (w : va_W) (tys : List (ClassId × FieldType)) (ad : Nat → Nat) (sm : Nat) (U : State) : Prop := pt_B D w tys U ∧ pt_EN ad sm (fun _ => False) U U.heap
theorem pt_blindE {As : List Value} {D : va_G} {w : va_W} {tys : List (ClassId × FieldType)} {ad : Nat → Nat} {sm : Nat} : FrameBlind (va_Pc As (pt_BE D w tys ad sm)) := fun a U g mk h => ⟨h.1, ⟨h.2.1.1, va_K.moved (u := U) (U := U.calling g mk a) (Vm.Alike.refl U.vm) h.2.1.2.1, pt_N.same (u := U) (U := U.calling g mk a) rfl h.2.1.2.2⟩, pt_EN.moved (u := U) (U := U.calling g mk a) (Vm.Alike.refl U.vm) h.2.2⟩
theorem pt_preE {As : List Value} {D : va_G} {w : va_W} {tys : List (ClassId × FieldType)} {ad : Nat → Nat} {sm : Nat} {A : Nat → Prop} {s : State} {H : Heap} {locs : List Loc} (hP : va_P D vwCl w H) (hK : va_K D vwCl tys s) (hN : pt_N s) (hE : pt_EN ad sm A s s.heap) (hS : va_S A s.heap H locs) : ∀ U : State, U.heap = H → s.WarmedH U.vm → va_Pc As (pt_BE D w tys ad sm) As.toArray U := fun U hU hW => ⟨rfl, ⟨by rw [hU]; exact hP, va_K.moved hW.alike hK, hN.warm hW⟩, by rw [hU]; exact ((hE.kept hS.2.1).narrow (fun _ q => q.elim)).moved hW.alike⟩
def pt_BQE (D : va_G) (w : va_W) (tys : List (ClassId × FieldType)) (sz : Nat) (ad : Nat → Nat) (sm : Nat) (U : State) : Prop := pt_BQ D w tys sz U ∧ pt_EN ad sm (va_A w sz) U U.heap
theorem pt_blindQE {As : List Value} {D : va_G} {w : va_W} {tys : List (ClassId × FieldType)} {sz : Nat} {ad : Nat → Nat} {sm : Nat} : FrameBlind (va_Pc As (pt_BQE D w tys sz ad sm)) := fun a U g mk h => ⟨h.1, ⟨h.2.1.1, h.2.1.2.1, va_K.moved (u := U) (U := U.calling g mk a) (Vm.Alike.refl U.vm) h.2.1.2.2.1, h.2.1.2.2.2.1, pt_N.same (u := U) (U := U.calling g mk a) rfl h.2.1.2.2.2.2⟩, pt_EN.moved (u := U) (U := U.calling g mk a) (Vm.Alike.refl U.vm) h.2.2⟩
theorem pt_preQE {As : List Value} {D : va_G} {A : Nat → Prop} {w : va_W} {tys : List (ClassId × FieldType)} {ad : Nat → Nat} {sm : Nat} {s : State} {H : Heap} {locs : List Loc} (hP : va_P D vwCl w H) (hK : va_K D vwCl tys s) (hD : va_D A w) (hN : pt_N s) (hE : pt_EN ad sm A s s.heap) (hS : va_S A s.heap H locs) (hF : ∀ q, va_A w H.size q → A q) : ∀ U : State, U.heap = H → s.WarmedH U.vm → va_Pc As (pt_BQE D w tys H.size ad sm) As.toArray U := fun U hU hW => ⟨rfl, ⟨by rw [hU], by rw [hU]; exact hP, va_K.moved hW.alike hK, hD.weaken (fun _ _ _ _ => trivial), hN.warm hW⟩, by rw [hU]; exact ((hE.kept hS.2.1).narrow hF).moved hW.alike⟩
theorem dJo_0 : decode cJx29ce0_ordinal_8abf5 0 = .ok (.aload_n 0, 1) := by decide +kernel
theorem dJo_1 : decode cJx29ce0_ordinal_8abf5 1 = .ok (.getfield 7, 3) := by decide +kernel
theorem dJo_4 : decode cJx29ce0_ordinal_8abf5 4 = .ok (.ireturn, 1) := by decide +kernel
set_option maxHeartbeats 4000000 in
set_option maxRecDepth 100000 in
theorem s_ordinal (l : Launch) (dC : Nat → ClassId) (dI : Nat → Nat → Nat) (ad : Nat → Nat) (sm i : Nat) (hi : i < 7) : Met l yJx29ce0_ordinal_8abf5 wsJx29ce0_ordinal_8abf5 ({ frames := 0, cells := 0, slots := 0, locals := 0 }) (va_Pc [.ref (ad i)] (pt_BE (dC, dI) [] [] ad sm)) (vp_Si (fun r : Int32 => r = [0, 1, 2, 3, 4, 5, 6].getD i 0)) 0 0 (fun _ => False) := by
  refine Met.ofW (cc := cJx29ce0_ordinal_8abf5) (maxL := 1) (ret := (some .int)) (by decide) rfl ?_
  intro p e s m args below meth c s₁ B hml hv
  obtain ⟨rfl, ⟨hP, hK, hN⟩, hEN⟩ := hv
  have hx := B.exec
  have hb := B.bytes
  have hr := B.returns
  have hts := atoms_spec (ws := wsJx29ce0_ordinal_8abf5) B.pre
  have hown : s.vm.findClass RJx29ce0 = some m.cls := findClass_of_methodNamed B.named
  have hlocks := B.notSynchronized
  have hS : va_S (fun _ => False) s.heap s.heap [] := va_S.rf
  have hl := lv_entry ([.ref (ad i)]) (n := 1) (Nat.le_of_ble_eq_true rfl)
  rw [lg_entry_eq]
  generalize (lg_sl ([.ref (ad i)]) ++ List.replicate (1 - (lg_sl ([.ref (ad i)])).length) Slot.unset).toArray = ls at hl ⊢
  have hl : lv_has ls 1 [(0, .ref (ad i))] := hl
  refine lv_aload_n hx hb dJo_0 rfl (lv_at hl 0 rfl) ?_
  refine va_getE hx hb hEN.1 hi hS hown (q := ("java/lang/Enum", "ordinal", "I", [0, 1, 2, 3, 4, 5, 6])) (by decide) (hts (.fieldLink RJx29ce0 7 "java/lang/Enum" "ordinal" "I") (by decide +kernel)) (fun _ h => h) dJo_1 ?_
  exact W.iret (v := [0, 1, 2, 3, 4, 5, 6].getD i 0) hx hb hr (fun t ht hW => ⟨_, rfl, rfl, ht⟩) (fun q h => by cases h) dJo_4
theorem ggX7_ticksOf_Jx29ce0_ordinal_8abf5 : GoodIn wsX7_ticksOf wsJx29ce0_ordinal_8abf5 := goodIn_r _ [13, 14] (by decide +kernel) (by decide +kernel)
theorem gX7_ticksOf_Jx29ce0_ordinal_8abf5_u324X6 : GoodIn wsX7_ticksOf (va_wsU RX7 324 RX6 "java/lang/Enum" ⟨"ParkTower$Step", "ordinal", "()I"⟩ yJx29ce0_ordinal_8abf5 wsJx29ce0_ordinal_8abf5) := goodIn_app (goodIn_of _ (by decide +kernel)) ggX7_ticksOf_Jx29ce0_ordinal_8abf5
theorem ggX7_endStep_Jx29ce0_ordinal_8abf5 : GoodIn wsX7_endStep wsJx29ce0_ordinal_8abf5 := goodIn_r _ [12, 13] (by decide +kernel) (by decide +kernel)
theorem gX7_endStep_Jx29ce0_ordinal_8abf5_u324X6 : GoodIn wsX7_endStep (va_wsU RX7 324 RX6 "java/lang/Enum" ⟨"ParkTower$Step", "ordinal", "()I"⟩ yJx29ce0_ordinal_8abf5 wsJx29ce0_ordinal_8abf5) := goodIn_app (goodIn_of _ (by decide +kernel)) ggX7_endStep_Jx29ce0_ordinal_8abf5
