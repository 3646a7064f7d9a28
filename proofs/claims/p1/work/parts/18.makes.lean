/-! Lists and the reference's objects, made. -/
def ml_Pre (D : va_G) (cA : ClassId) (E : Nat) (sz : Nat) (ws : va_W) (U : State) : Prop := gi_Pre D cA sz ws U ∧ va_Z "java/util/ArrayList" "DEFAULTCAPACITY_EMPTY_ELEMENTDATA" "[Ljava/lang/Object;" (.ref E) (va_A ws sz) U U.heap
theorem ml_blind (As : List Value) (D : va_G) (cA : ClassId) (E sz : Nat) (ws : va_W) : FrameBlind (va_Pc As (ml_Pre D cA E sz ws)) := fun a U g mk q => ⟨q.1, ⟨q.2.1.1, q.2.1.2.1, va_K.moved (u := U) (U := U.calling g mk a) (Vm.Alike.refl U.vm) q.2.1.2.2.1, q.2.1.2.2.2⟩, va_Z.moved (u := U) (U := U.calling g mk a) (Vm.Alike.refl U.vm) q.2.2⟩
theorem ml_pre {D : va_G} {cA : ClassId} {E : Nat} {wc : va_W} {s : State} {H : Heap} {locs : List Loc} {A : Nat → Prop} (hP : va_P D vwCl wc H) (hK : va_K D vwCl [(cA, .int)] s) (hD : va_D A wc) (hZ : va_Z "java/util/ArrayList" "DEFAULTCAPACITY_EMPTY_ELEMENTDATA" "[Ljava/lang/Object;" (.ref E) A s s.heap) (hS : va_S A s.heap H locs) (hF : ∀ q, va_A wc H.size q → A q) : ∀ U : State, U.heap = H → s.WarmedH U.vm → ml_Pre D cA E H.size wc U := fun U hU hW => ⟨gi_pre hP hK hD U hU hW, by rw [hU]; exact va_Z.moved hW.alike (va_Z.narrow (va_Z.kept hZ hS.2.1) hF)⟩
theorem gx_X9 : ∀ w ∈ u_ws RX9 TX9 6, w ∈ gw_L := gw_pl [1631, 1633, 1635, 1637, 1639, 1641] (by decide +kernel) (by decide +kernel)
theorem gx_X10 : ∀ w ∈ u_ws RX10 TX10 2, w ∈ gw_L := gw_pl [1509, 1511] (by decide +kernel) (by decide +kernel)
theorem gi_dfX11 : ∀ j, j < 5 → defaultValue (tyX11 j) = vp_V [.null, .null, .null, .null, .int 0] j := fun j hj => by rcases (show j = 0 ∨ j = 1 ∨ j = 2 ∨ j = 3 ∨ j = 4 by omega) with rfl | rfl | rfl | rfl | rfl <;> rfl
theorem gi_dfJx4a65c : ∀ j, j < 3 → defaultValue (tyJx4a65c j) = vp_V [.int 0, .null, .int 0] j := fun j hj => by rcases (show j = 0 ∨ j = 1 ∨ j = 2 by omega) with rfl | rfl | rfl <;> rfl
theorem gi_dfX9 : ∀ j, j < 6 → defaultValue (tyX9 j) = vp_V [.int 0, .int 0, .int 0, .int 0, .int 0, .int 0] j := fun j hj => by rcases (show j = 0 ∨ j = 1 ∨ j = 2 ∨ j = 3 ∨ j = 4 ∨ j = 5 by omega) with rfl | rfl | rfl | rfl | rfl | rfl <;> rfl
theorem gi_dfX10 : ∀ j, j < 2 → defaultValue (tyX10 j) = vp_V [.null, .int 0] j := fun j hj => by rcases (show j = 0 ∨ j = 1 by omega) with rfl | rfl <;> rfl
theorem gv_1157 : Cond.methodLink RJxa1e45 1 objectInit ∈ gw_L := gw_tab 1157 (by decide +kernel) (by decide +kernel)
theorem gv_1156 : Cond.code yJxa1e45_init_da8c8 cJxa1e45_init_da8c8 1 none ∈ gw_L := gw_tab 1156 (by decide +kernel) (by decide +kernel)
theorem gv_11 : Cond.initialized yJxa1e45_init_da8c8.cls ∈ gw_L := gw_tab 11 (by decide +kernel) (by decide +kernel)
theorem gk_Jxa1e45_init_da8c8 : gw_K yJxa1e45_init_da8c8 cJxa1e45_init_da8c8 1 none 0 := ⟨gv_1156, gv_11, by decide +kernel, by decide +kernel⟩
theorem gv_1154 : Cond.methodLink RJxc12de 1 yJxa1e45_init_da8c8 ∈ gw_L := gw_tab 1154 (by decide +kernel) (by decide +kernel)
theorem gv_1155 : Cond.instanceMethod yJxa1e45_init_da8c8 ∈ gw_L := gw_tab 1155 (by decide +kernel) (by decide +kernel)
theorem gv_1164 : Cond.fieldLink RJxc12de 7 "java/util/AbstractList" "modCount" "I" ∈ gw_L := gw_tab 1164 (by decide +kernel) (by decide +kernel)
theorem gv_1153 : Cond.code yJxc12de_init_da8c8 cJxc12de_init_da8c8 1 none ∈ gw_L := gw_tab 1153 (by decide +kernel) (by decide +kernel)
theorem gv_12 : Cond.initialized yJxc12de_init_da8c8.cls ∈ gw_L := gw_tab 12 (by decide +kernel) (by decide +kernel)
theorem gk_Jxc12de_init_da8c8 : gw_K yJxc12de_init_da8c8 cJxc12de_init_da8c8 1 none 0 := ⟨gv_1153, gv_12, by decide +kernel, by decide +kernel⟩
theorem gv_1151 : Cond.methodLink RJx4a65c 1 yJxc12de_init_da8c8 ∈ gw_L := gw_tab 1151 (by decide +kernel) (by decide +kernel)
theorem gv_1152 : Cond.instanceMethod yJxc12de_init_da8c8 ∈ gw_L := gw_tab 1152 (by decide +kernel) (by decide +kernel)
theorem gv_1158 : Cond.fieldLink RJx4a65c 39 "java/util/ArrayList" "DEFAULTCAPACITY_EMPTY_ELEMENTDATA" "[Ljava/lang/Object;" ∈ gw_L := gw_tab 1158 (by decide +kernel) (by decide +kernel)
theorem gv_1145 : Cond.methodLink RX11 1 objectInit ∈ gw_L := gw_tab 1145 (by decide +kernel) (by decide +kernel)
theorem gv_1146 : Cond.classLink RX11 7 RJx4a65c ∈ gw_L := gw_tab 1146 (by decide +kernel) (by decide +kernel)
theorem gv_1147 : Cond.instantiable RJx4a65c 3 ∈ gw_L := gw_tab 1147 (by decide +kernel) (by decide +kernel)
theorem gv_1150 : Cond.code yJx4a65c_init_da8c8 cJx4a65c_init_da8c8 1 none ∈ gw_L := gw_tab 1150 (by decide +kernel) (by decide +kernel)
theorem gk_Jx4a65c_init_da8c8 : gw_K yJx4a65c_init_da8c8 cJx4a65c_init_da8c8 1 none 0 := ⟨gv_1150, gv_13, by decide +kernel, by decide +kernel⟩
theorem gv_1148 : Cond.methodLink RX11 9 yJx4a65c_init_da8c8 ∈ gw_L := gw_tab 1148 (by decide +kernel) (by decide +kernel)
theorem gv_1149 : Cond.instanceMethod yJx4a65c_init_da8c8 ∈ gw_L := gw_tab 1149 (by decide +kernel) (by decide +kernel)
theorem gv_1502 : Cond.methodLink RX10 3 objectInit ∈ gw_L := gw_tab 1502 (by decide +kernel) (by decide +kernel)
theorem gv_1503 : Cond.classLink RX10 9 RJx4a65c ∈ gw_L := gw_tab 1503 (by decide +kernel) (by decide +kernel)
theorem gv_1504 : Cond.methodLink RX10 11 yJx4a65c_init_da8c8 ∈ gw_L := gw_tab 1504 (by decide +kernel) (by decide +kernel)
theorem gv_1505 : Cond.fieldLink RX10 12 "GenericwoodModel$Name" "pairs" "Ljava/util/List;" ∈ gw_L := gw_tab 1505 (by decide +kernel) (by decide +kernel)
theorem gv_1507 : Cond.fieldLink RX10 18 "GenericwoodModel$Name" "code" "I" ∈ gw_L := gw_tab 1507 (by decide +kernel) (by decide +kernel)
theorem gv_1618 : Cond.methodLink RX9 1 objectInit ∈ gw_L := gw_tab 1618 (by decide +kernel) (by decide +kernel)
theorem gv_1629 : Cond.fieldLink RX9 7 "GenericwoodModel$Formula" "depth" "I" ∈ gw_L := gw_tab 1629 (by decide +kernel) (by decide +kernel)
theorem gv_1619 : Cond.fieldLink RX9 13 "GenericwoodModel$Formula" "kind" "C" ∈ gw_L := gw_tab 1619 (by decide +kernel) (by decide +kernel)
theorem gv_1621 : Cond.fieldLink RX9 17 "GenericwoodModel$Formula" "one" "I" ∈ gw_L := gw_tab 1621 (by decide +kernel) (by decide +kernel)
theorem gv_1623 : Cond.fieldLink RX9 20 "GenericwoodModel$Formula" "other" "I" ∈ gw_L := gw_tab 1623 (by decide +kernel) (by decide +kernel)
theorem gv_1625 : Cond.fieldLink RX9 23 "GenericwoodModel$Formula" "letter" "I" ∈ gw_L := gw_tab 1625 (by decide +kernel) (by decide +kernel)
theorem gv_1627 : Cond.fieldLink RX9 26 "GenericwoodModel$Formula" "bound" "I" ∈ gw_L := gw_tab 1627 (by decide +kernel) (by decide +kernel)
set_option maxHeartbeats 4000000 in
set_option maxRecDepth 100000 in
theorem gi_Jxa1e45_init_da8c8_Jx4a65c (l : Launch) (D : va_G) (cA : ClassId) (h0 : Nat) (sz : Nat) : Met l yJxa1e45_init_da8c8 (.code yJxa1e45_init_da8c8 cJxa1e45_init_da8c8 1 none :: gw_L) { frames := 1, cells := 0, slots := 0, locals := 13 } (va_Pc [.ref h0] (gi_Pre D cA sz [(h0, .inr (2, [.int 0, .null, .int 0]))])) (va_Qv (fun (_ : Unit) => True) (fun _ t => va_P D vwCl [(h0, .inr (2, [.int 0, .null, .int 0]))] t.heap ∧ va_D (va_A [(h0, .inr (2, [.int 0, .null, .int 0]))] sz) [(h0, .inr (2, [.int 0, .null, .int 0]))]) (va_A [(h0, .inr (2, [.int 0, .null, .int 0]))] sz)) 0 0 (va_A [(h0, .inr (2, [.int 0, .null, .int 0]))] sz) := by
  refine Met.ofW (cc := cJxa1e45_init_da8c8) (maxL := 1) (ret := none) (by decide +kernel) rfl ?_
  intro p e s m args below meth c s₁ B hml hv
  obtain ⟨rfl, hsz, hP, hK, hD0⟩ := hv
  have hx := B.exec
  have hb := B.bytes
  have hr := B.returns
  have hts0 := atoms_spec (ws := .code yJxa1e45_init_da8c8 cJxa1e45_init_da8c8 1 none :: gw_L) B.pre
  have hts : ∀ w ∈ gw_L, w.before _ s = true := fun w hw => hts0 w (List.mem_cons_of_mem _ hw)
  have hown : s.vm.findClass RJxa1e45 = some m.cls := findClass_of_methodNamed B.named
  have hlocks := B.notSynchronized
  have hin : meth.name = "<init>" := (name_of_methodNamed B.named B.method).1
  subst hsz
  have hD := hD0.self (sz := s.heap.size)
  generalize hAe : va_A [(h0, .inr (2, [.int 0, .null, .int 0]))] s.heap.size = A at hD ⊢
  have hA : ∀ q : Nat, s.heap.size ≤ q → A q := fun q h => by rw [← hAe]; exact Or.inr h
  have hS : va_S A s.heap s.heap [] := va_S.rf
  have hP : va_P D vwCl [(h0, .inr (2, [.int 0, .null, .int 0]))] s.heap := hP
  have hl := lv_entry ([.ref h0]) (n := 1) (Nat.le_of_ble_eq_true rfl)
  rw [lg_entry_eq]
  generalize (lg_sl ([.ref h0]) ++ List.replicate (1 - (lg_sl ([.ref h0])).length) Slot.unset).toArray = ls at hl ⊢
  have hl : lv_has ls 1 [(0, .ref h0)] := hl
  refine lv_aload_n hx hb dJxa1e45_init_da8c8_0 rfl (lv_at hl 0 rfl) ?_
  refine W.objInit hx hb hown (hts _ gv_1157) (hts _ gi_o1) (hts _ gi_o2) rfl (by rw [hml]; exact hl.1) rfl dJxa1e45_init_da8c8_1 (Nat.le_of_ble_eq_true rfl) (Nat.le_of_ble_eq_true rfl) ?_
  refine W.eq (g2 := F0 m 4 ls []) rfl ?_
  exact W.vret hx hb hr (fun t ht hW => ⟨⟨(), rfl, trivial, by rw [ht]; exact hP, hD⟩, hS.F ht⟩) hS.2.2 dJxa1e45_init_da8c8_4
set_option maxHeartbeats 4000000 in
set_option maxRecDepth 100000 in
theorem gi_Jxc12de_init_da8c8_Jx4a65c (l : Launch) (D : va_G) (cA : ClassId) (h0 : Nat) (sz : Nat) : Met l yJxc12de_init_da8c8 (.code yJxc12de_init_da8c8 cJxc12de_init_da8c8 1 none :: gw_L) { frames := 2, cells := 0, slots := 0, locals := 33 } (va_Pc [.ref h0] (gi_Pre D cA sz [(h0, .inr (2, [.int 0, .null, .int 0]))])) (va_Qv (fun (_ : Unit) => True) (fun _ t => va_P D vwCl [(h0, .inr (2, [.int 0, .null, .int 0]))] t.heap ∧ va_D (va_A [(h0, .inr (2, [.int 0, .null, .int 0]))] sz) [(h0, .inr (2, [.int 0, .null, .int 0]))]) (va_A [(h0, .inr (2, [.int 0, .null, .int 0]))] sz)) 0 0 (va_A [(h0, .inr (2, [.int 0, .null, .int 0]))] sz) := by
  refine Met.ofW (cc := cJxc12de_init_da8c8) (maxL := 1) (ret := none) (by decide +kernel) rfl ?_
  intro p e s m args below meth c s₁ B hml hv
  obtain ⟨rfl, hsz, hP, hK, hD0⟩ := hv
  have hx := B.exec
  have hb := B.bytes
  have hr := B.returns
  have hts0 := atoms_spec (ws := .code yJxc12de_init_da8c8 cJxc12de_init_da8c8 1 none :: gw_L) B.pre
  have hts : ∀ w ∈ gw_L, w.before _ s = true := fun w hw => hts0 w (List.mem_cons_of_mem _ hw)
  have hown : s.vm.findClass RJxc12de = some m.cls := findClass_of_methodNamed B.named
  have hlocks := B.notSynchronized
  have hin : meth.name = "<init>" := (name_of_methodNamed B.named B.method).1
  subst hsz
  have hD := hD0.self (sz := s.heap.size)
  generalize hAe : va_A [(h0, .inr (2, [.int 0, .null, .int 0]))] s.heap.size = A at hD ⊢
  have hA : ∀ q : Nat, s.heap.size ≤ q → A q := fun q h => by rw [← hAe]; exact Or.inr h
  have hS : va_S A s.heap s.heap [] := va_S.rf
  have hP : va_P D vwCl [(h0, .inr (2, [.int 0, .null, .int 0]))] s.heap := hP
  have hl := lv_entry ([.ref h0]) (n := 1) (Nat.le_of_ble_eq_true rfl)
  rw [lg_entry_eq]
  generalize (lg_sl ([.ref h0]) ++ List.replicate (1 - (lg_sl ([.ref h0])).length) Slot.unset).toArray = ls at hl ⊢
  have hl : lv_has ls 1 [(0, .ref h0)] := hl
  refine lv_aload_n hx hb dJxc12de_init_da8c8_0 rfl (lv_at hl 0 rfl) ?_
  have hPc := hP.sub (ws' := [(h0, .inr (2, [.int 0, .null, .int 0]))]) [0] rfl
  have hDc := hD.sub (ws' := [(h0, .inr (2, [.int 0, .null, .int 0]))]) [0] (by decide) rfl
  have hFc := va_free (wc := [(h0, .inr (2, [.int 0, .null, .int 0]))]) hD hS hA [0] rfl
  refine va_callv (va_runI (As := []) (rest := []) ⟨hx, hb, hml, hown, hts⟩ (gi_Jxa1e45_init_da8c8_Jx4a65c l D cA h0  s.heap.size) (gi_cw hts gk_Jxa1e45_init_da8c8 gv_1154 gv_1155 (by decide +kernel) rfl rfl ⟨Nat.le_of_ble_eq_true rfl, Nat.le_of_ble_eq_true rfl⟩) ⟨gi_blind _ _ _ _ _, fun U hU hW => ⟨rfl, gi_pre hPc hK hDc U hU hW⟩⟩ rfl rfl hl.1 rfl (lv_room (Nat.le_of_ble_eq_true rfl)) dJxc12de_init_da8c8_1 ⟨Nat.le_of_ble_eq_true rfl, Nat.le_of_ble_eq_true rfl⟩) hS (fun q _ h => hFc q h) hFc (fun u t H1 locs ht hvm hw hB hz1 hk1 hS => ?_)
  obtain ⟨hP1, hD1⟩ := hB
  rw [ht] at hP1
  obtain ⟨hP, hD⟩ := va_join (wr := []) (w1 := [(h0, .inr (2, [.int 0, .null, .int 0]))]) hP hD [0] [] rfl rfl (by decide) (by decide) hk1 hFc hP1 hD1
  generalize H1 = H at hP hS ⊢
  have hP : va_P D vwCl [(h0, .inr (2, [.int 0, .null, .int 0]))] H := hP
  have hD : va_D A [(h0, .inr (2, [.int 0, .null, .int 0]))] := hD
  refine W.widen (k := 0) (n := 0) (Nat.le_of_ble_eq_true rfl) (Nat.le_of_ble_eq_true rfl) ?_
  refine lv_aload_n hx hb dJxc12de_init_da8c8_4 rfl (lv_at hl 0 rfl) ?_
  refine lv_iconst (v := 0) hx hb dJxc12de_init_da8c8_5 (by decide) ?_
  refine va_put (D := D) (ci := 2) (v := .int 0) (ty := .int) (C := RJx4a65c) (T := TJx4a65c) (N := 3) hx hb hts gx_Jx4a65c tyJx4a65c tyJx4a65c_ok nmJx4a65c hown hK hP hD hS 0 rfl rfl 0 (by decide) (hts _ gv_1164) (fun _ h9 => h9) rfl (by decide +kernel) rfl rfl (Nat.le_of_ble_eq_true rfl) dJxc12de_init_da8c8_6 (fun H locs hP hD hS => ?_)
  have hP : va_P D vwCl [(h0, .inr (2, [.int 0, .null, .int 0]))] H := hP
  have hD : va_D A [(h0, .inr (2, [.int 0, .null, .int 0]))] := hD
  exact W.vret hx hb hr (fun t ht hW => ⟨⟨(), rfl, trivial, by rw [ht]; exact hP, hD⟩, hS.F ht⟩) hS.2.2 dJxc12de_init_da8c8_9
set_option maxHeartbeats 4000000 in
set_option maxRecDepth 100000 in
theorem gi_Jx4a65c_init_da8c8 (l : Launch) (D : va_G) (cA : ClassId) (E : Nat) (h0 : Nat) (sz : Nat) : Met l yJx4a65c_init_da8c8 (.code yJx4a65c_init_da8c8 cJx4a65c_init_da8c8 1 none :: gw_L) { frames := 3, cells := 0, slots := 0, locals := 53 } (va_Pc [.ref h0] (ml_Pre D cA E sz [(h0, .inr (2, [.int 0, .null, .int 0]))])) (va_Qv (fun (_ : Unit) => True) (fun _ t => va_P D vwCl [(h0, .inr (2, [.int 0, .ref E, .int 0]))] t.heap ∧ va_D (va_A [(h0, .inr (2, [.int 0, .null, .int 0]))] sz) [(h0, .inr (2, [.int 0, .ref E, .int 0]))]) (va_A [(h0, .inr (2, [.int 0, .null, .int 0]))] sz)) 0 0 (va_A [(h0, .inr (2, [.int 0, .null, .int 0]))] sz) := by
  refine Met.ofW (cc := cJx4a65c_init_da8c8) (maxL := 1) (ret := none) (by decide +kernel) rfl ?_
  intro p e s m args below meth c s₁ B hml hv
  obtain ⟨rfl, ⟨hsz, hP, hK, hD0⟩, hZ⟩ := hv
  have hx := B.exec
  have hb := B.bytes
  have hr := B.returns
  have hts0 := atoms_spec (ws := .code yJx4a65c_init_da8c8 cJx4a65c_init_da8c8 1 none :: gw_L) B.pre
  have hts : ∀ w ∈ gw_L, w.before _ s = true := fun w hw => hts0 w (List.mem_cons_of_mem _ hw)
  have hown : s.vm.findClass RJx4a65c = some m.cls := findClass_of_methodNamed B.named
  have hlocks := B.notSynchronized
  have hin : meth.name = "<init>" := (name_of_methodNamed B.named B.method).1
  subst hsz
  have hD := hD0.self (sz := s.heap.size)
  generalize hAe : va_A [(h0, .inr (2, [.int 0, .null, .int 0]))] s.heap.size = A at hD hZ ⊢
  have hA : ∀ q : Nat, s.heap.size ≤ q → A q := fun q h => by rw [← hAe]; exact Or.inr h
  have hS : va_S A s.heap s.heap [] := va_S.rf
  have hP : va_P D vwCl [(h0, .inr (2, [.int 0, .null, .int 0]))] s.heap := hP
  have hl := lv_entry ([.ref h0]) (n := 1) (Nat.le_of_ble_eq_true rfl)
  rw [lg_entry_eq]
  generalize (lg_sl ([.ref h0]) ++ List.replicate (1 - (lg_sl ([.ref h0])).length) Slot.unset).toArray = ls at hl ⊢
  have hl : lv_has ls 1 [(0, .ref h0)] := hl
  refine lv_aload_n hx hb dJx4a65c_init_da8c8_0 rfl (lv_at hl 0 rfl) ?_
  have hPc := hP.sub (ws' := [(h0, .inr (2, [.int 0, .null, .int 0]))]) [0] rfl
  have hDc := hD.sub (ws' := [(h0, .inr (2, [.int 0, .null, .int 0]))]) [0] (by decide) rfl
  have hFc := va_free (wc := [(h0, .inr (2, [.int 0, .null, .int 0]))]) hD hS hA [0] rfl
  refine va_callv (va_runI (As := []) (rest := []) ⟨hx, hb, hml, hown, hts⟩ (gi_Jxc12de_init_da8c8_Jx4a65c l D cA h0  s.heap.size) (gi_cw hts gk_Jxc12de_init_da8c8 gv_1151 gv_1152 (by decide +kernel) rfl rfl ⟨Nat.le_of_ble_eq_true rfl, Nat.le_of_ble_eq_true rfl⟩) ⟨gi_blind _ _ _ _ _, fun U hU hW => ⟨rfl, gi_pre hPc hK hDc U hU hW⟩⟩ rfl rfl hl.1 rfl (lv_room (Nat.le_of_ble_eq_true rfl)) dJx4a65c_init_da8c8_1 ⟨Nat.le_of_ble_eq_true rfl, Nat.le_of_ble_eq_true rfl⟩) hS (fun q _ h => hFc q h) hFc (fun u t H1 locs ht hvm hw hB hz1 hk1 hS => ?_)
  obtain ⟨hP1, hD1⟩ := hB
  rw [ht] at hP1
  obtain ⟨hP, hD⟩ := va_join (wr := []) (w1 := [(h0, .inr (2, [.int 0, .null, .int 0]))]) hP hD [0] [] rfl rfl (by decide) (by decide) hk1 hFc hP1 hD1
  generalize H1 = H at hP hS ⊢
  have hP : va_P D vwCl [(h0, .inr (2, [.int 0, .null, .int 0]))] H := hP
  have hD : va_D A [(h0, .inr (2, [.int 0, .null, .int 0]))] := hD
  refine W.widen (k := 0) (n := 0) (Nat.le_of_ble_eq_true rfl) (Nat.le_of_ble_eq_true rfl) ?_
  refine lv_aload_n hx hb dJx4a65c_init_da8c8_4 rfl (lv_at hl 0 rfl) ?_
  refine va_gets hx hb hZ hS hown (hts _ gv_1158) (fun _ h9 => h9) dJx4a65c_init_da8c8_5 ?_
  refine va_put (D := D) (ci := 2) (v := .ref E) (ty := .array (.object "java/lang/Object")) (C := RJx4a65c) (T := TJx4a65c) (N := 3) hx hb hts gx_Jx4a65c tyJx4a65c tyJx4a65c_ok nmJx4a65c hown hK hP hD hS 0 rfl rfl 1 (by decide) (hts _ gv_1160) (fun _ h9 => h9) rfl (by decide +kernel) rfl rfl (Nat.le_of_ble_eq_true rfl) dJx4a65c_init_da8c8_8 (fun H locs hP hD hS => ?_)
  have hP : va_P D vwCl [(h0, .inr (2, [.int 0, .ref E, .int 0]))] H := hP
  have hD : va_D A [(h0, .inr (2, [.int 0, .ref E, .int 0]))] := hD
  exact W.vret hx hb hr (fun t ht hW => ⟨⟨(), rfl, trivial, by rw [ht]; exact hP, hD⟩, hS.F ht⟩) hS.2.2 dJx4a65c_init_da8c8_11
set_option maxHeartbeats 4000000 in
set_option maxRecDepth 100000 in
theorem gi_X11_init (l : Launch) (D : va_G) (cA : ClassId) (E : Nat) (h0 : Nat) (sz : Nat) : Met l yX11_init (.code yX11_init cX11_init 1 none :: gw_L) { frames := 4, cells := 4, slots := 16, locals := 73 } (va_Pc [.ref h0] (ml_Pre D cA E sz [(h0, .inr (13, [.null, .null, .null, .null, .int 0]))])) (va_Qv (fun (_ : Unit) => True) (fun _ t => ∃ q5 q16 q27 q40 : Nat, va_P D vwCl [(h0, .inr (13, [.ref q5, .ref q16, .ref q27, .ref q40, .int 0])), (q5, .inr (2, [.int 0, .ref E, .int 0])), (q16, .inr (2, [.int 0, .ref E, .int 0])), (q27, .inr (2, [.int 0, .ref E, .int 0])), (q40, .inl (cA, 7, .inl (upd (upd (upd (upd (upd (upd (upd (fun _ => 0) (0 : Int32).toNatClampNeg 0) (1 : Int32).toNatClampNeg 1) (2 : Int32).toNatClampNeg 2) (3 : Int32).toNatClampNeg 3) (4 : Int32).toNatClampNeg 4) (5 : Int32).toNatClampNeg 5) (6 : Int32).toNatClampNeg 6)))] t.heap ∧ va_D (va_A [(h0, .inr (13, [.null, .null, .null, .null, .int 0]))] sz) [(h0, .inr (13, [.ref q5, .ref q16, .ref q27, .ref q40, .int 0])), (q5, .inr (2, [.int 0, .ref E, .int 0])), (q16, .inr (2, [.int 0, .ref E, .int 0])), (q27, .inr (2, [.int 0, .ref E, .int 0])), (q40, .inl (cA, 7, .inl (upd (upd (upd (upd (upd (upd (upd (fun _ => 0) (0 : Int32).toNatClampNeg 0) (1 : Int32).toNatClampNeg 1) (2 : Int32).toNatClampNeg 2) (3 : Int32).toNatClampNeg 3) (4 : Int32).toNatClampNeg 4) (5 : Int32).toNatClampNeg 5) (6 : Int32).toNatClampNeg 6)))]) (va_A [(h0, .inr (13, [.null, .null, .null, .null, .int 0]))] sz)) 4 16 (va_A [(h0, .inr (13, [.null, .null, .null, .null, .int 0]))] sz) := by
  refine Met.ofW (cc := cX11_init) (maxL := 1) (ret := none) (by decide +kernel) rfl ?_
  intro p e s m args below meth c s₁ B hml hv
  obtain ⟨rfl, ⟨hsz, hP, hK, hD0⟩, hZ⟩ := hv
  have hx := B.exec
  have hb := B.bytes
  have hr := B.returns
  have hts0 := atoms_spec (ws := .code yX11_init cX11_init 1 none :: gw_L) B.pre
  have hts : ∀ w ∈ gw_L, w.before _ s = true := fun w hw => hts0 w (List.mem_cons_of_mem _ hw)
  have hown : s.vm.findClass RX11 = some m.cls := findClass_of_methodNamed B.named
  have hlocks := B.notSynchronized
  have hin : meth.name = "<init>" := (name_of_methodNamed B.named B.method).1
  subst hsz
  have hD := hD0.self (sz := s.heap.size)
  generalize hAe : va_A [(h0, .inr (13, [.null, .null, .null, .null, .int 0]))] s.heap.size = A at hD hZ ⊢
  have hA : ∀ q : Nat, s.heap.size ≤ q → A q := fun q h => by rw [← hAe]; exact Or.inr h
  have hS : va_S A s.heap s.heap [] := va_S.rf
  have hP : va_P D vwCl [(h0, .inr (13, [.null, .null, .null, .null, .int 0]))] s.heap := hP
  have hl := lv_entry ([.ref h0]) (n := 1) (Nat.le_of_ble_eq_true rfl)
  rw [lg_entry_eq]
  generalize (lg_sl ([.ref h0]) ++ List.replicate (1 - (lg_sl ([.ref h0])).length) Slot.unset).toArray = ls at hl ⊢
  have hl : lv_has ls 1 [(0, .ref h0)] := hl
  refine lv_aload_n hx hb dX11_init_0 rfl (lv_at hl 0 rfl) ?_
  refine W.objInit hx hb hown (hts _ gv_1145) (hts _ gi_o1) (hts _ gi_o2) rfl (by rw [hml]; exact hl.1) rfl dX11_init_1 (Nat.le_of_ble_eq_true rfl) (Nat.le_of_ble_eq_true rfl) ?_
  refine W.eq (g2 := F0 m 4 ls []) rfl ?_
  refine lv_aload_n hx hb dX11_init_4 rfl (lv_at hl 0 rfl) ?_
  refine va_new (ci := 2) (fs := [.int 0, .null, .int 0]) (C := RJx4a65c) (T := TJx4a65c) (N := 3) hx hb hts gx_Jx4a65c tyJx4a65c tyJx4a65c_ok hown (hts _ gv_1146) (hts _ gv_1147) (hts _ gv_13) hK hP hD hS hA rfl (gi_dfJx4a65c) (Nat.le_of_ble_eq_true rfl) (Nat.le_of_ble_eq_true rfl) dX11_init_5 (fun q5 H hP hD hS => ?_)
  have hP : va_P D vwCl [(h0, .inr (13, [.null, .null, .null, .null, .int 0])), (q5, .inr (2, [.int 0, .null, .int 0]))] H := hP
  have hD : va_D A [(h0, .inr (13, [.null, .null, .null, .null, .int 0])), (q5, .inr (2, [.int 0, .null, .int 0]))] := hD
  refine W.widen (k := 1) (n := 3) (Nat.le_of_ble_eq_true rfl) (Nat.le_of_ble_eq_true rfl) ?_
  refine lv_dup hx hb dX11_init_8 rfl ?_
  have hPc := hP.sub (ws' := [(q5, .inr (2, [.int 0, .null, .int 0]))]) [1] rfl
  have hDc := hD.sub (ws' := [(q5, .inr (2, [.int 0, .null, .int 0]))]) [1] (by decide) rfl
  have hFc := va_free (wc := [(q5, .inr (2, [.int 0, .null, .int 0]))]) hD hS hA [1] rfl
  refine va_callv (va_runI (As := []) (rest := [.ref q5, .ref h0]) ⟨hx, hb, hml, hown, hts⟩ (gi_Jx4a65c_init_da8c8 l D cA E q5  H.size) (gi_cw hts gk_Jx4a65c_init_da8c8 gv_1148 gv_1149 (by decide +kernel) rfl rfl ⟨Nat.le_of_ble_eq_true rfl, Nat.le_of_ble_eq_true rfl⟩) ⟨ml_blind _ _ _ _ _ _, fun U hU hW => ⟨rfl, ml_pre hPc hK hDc hZ hS hFc U hU hW⟩⟩ rfl rfl hl.1 rfl (lv_room (Nat.le_of_ble_eq_true rfl)) dX11_init_9 ⟨Nat.le_of_ble_eq_true rfl, Nat.le_of_ble_eq_true rfl⟩) hS (fun q _ h => hFc q h) hFc (fun u t H1 locs ht hvm hw hB hz1 hk1 hS => ?_)
  obtain ⟨hP1, hD1⟩ := hB
  rw [ht] at hP1
  obtain ⟨hP, hD⟩ := va_join (wr := [(h0, .inr (13, [.null, .null, .null, .null, .int 0]))]) (w1 := [(q5, .inr (2, [.int 0, .ref E, .int 0]))]) hP hD [1] [0] rfl rfl (by decide) (by decide) hk1 hFc hP1 hD1
  generalize H1 = H at hP hS ⊢
  have hP : va_P D vwCl [(h0, .inr (13, [.null, .null, .null, .null, .int 0])), (q5, .inr (2, [.int 0, .ref E, .int 0]))] H := hP
  have hD : va_D A [(h0, .inr (13, [.null, .null, .null, .null, .int 0])), (q5, .inr (2, [.int 0, .ref E, .int 0]))] := hD
  refine W.widen (k := 1) (n := 3) (Nat.le_of_ble_eq_true rfl) (Nat.le_of_ble_eq_true rfl) ?_
  refine va_putF (D := D) (ci := 13) (v := .ref q5) (ty := .object "java/util/List") (C := RX11) (T := TX11) (N := 5) hx hb hts gx_X11 tyX11 tyX11_ok nmX11 hown hK hP hD hS 0 rfl rfl 0 (by decide) (hts _ gv_1175) (fun _ h9 => h9) rfl hin rfl (by decide +kernel) rfl rfl (Nat.le_of_ble_eq_true rfl) dX11_init_12 (fun H locs hP hD hS => ?_)
  have hP : va_P D vwCl [(h0, .inr (13, [.ref q5, .null, .null, .null, .int 0])), (q5, .inr (2, [.int 0, .ref E, .int 0]))] H := hP
  have hD : va_D A [(h0, .inr (13, [.ref q5, .null, .null, .null, .int 0])), (q5, .inr (2, [.int 0, .ref E, .int 0]))] := hD
  refine lv_aload_n hx hb dX11_init_15 rfl (lv_at hl 0 rfl) ?_
  refine va_new (ci := 2) (fs := [.int 0, .null, .int 0]) (C := RJx4a65c) (T := TJx4a65c) (N := 3) hx hb hts gx_Jx4a65c tyJx4a65c tyJx4a65c_ok hown (hts _ gv_1146) (hts _ gv_1147) (hts _ gv_13) hK hP hD hS hA rfl (gi_dfJx4a65c) (Nat.le_of_ble_eq_true rfl) (Nat.le_of_ble_eq_true rfl) dX11_init_16 (fun q16 H hP hD hS => ?_)
  have hP : va_P D vwCl [(h0, .inr (13, [.ref q5, .null, .null, .null, .int 0])), (q5, .inr (2, [.int 0, .ref E, .int 0])), (q16, .inr (2, [.int 0, .null, .int 0]))] H := hP
  have hD : va_D A [(h0, .inr (13, [.ref q5, .null, .null, .null, .int 0])), (q5, .inr (2, [.int 0, .ref E, .int 0])), (q16, .inr (2, [.int 0, .null, .int 0]))] := hD
  refine W.widen (k := 2) (n := 6) (Nat.le_of_ble_eq_true rfl) (Nat.le_of_ble_eq_true rfl) ?_
  refine lv_dup hx hb dX11_init_19 rfl ?_
  have hPc := hP.sub (ws' := [(q16, .inr (2, [.int 0, .null, .int 0]))]) [2] rfl
  have hDc := hD.sub (ws' := [(q16, .inr (2, [.int 0, .null, .int 0]))]) [2] (by decide) rfl
  have hFc := va_free (wc := [(q16, .inr (2, [.int 0, .null, .int 0]))]) hD hS hA [2] rfl
  refine va_callv (va_runI (As := []) (rest := [.ref q16, .ref h0]) ⟨hx, hb, hml, hown, hts⟩ (gi_Jx4a65c_init_da8c8 l D cA E q16  H.size) (gi_cw hts gk_Jx4a65c_init_da8c8 gv_1148 gv_1149 (by decide +kernel) rfl rfl ⟨Nat.le_of_ble_eq_true rfl, Nat.le_of_ble_eq_true rfl⟩) ⟨ml_blind _ _ _ _ _ _, fun U hU hW => ⟨rfl, ml_pre hPc hK hDc hZ hS hFc U hU hW⟩⟩ rfl rfl hl.1 rfl (lv_room (Nat.le_of_ble_eq_true rfl)) dX11_init_20 ⟨Nat.le_of_ble_eq_true rfl, Nat.le_of_ble_eq_true rfl⟩) hS (fun q _ h => hFc q h) hFc (fun u t H1 locs ht hvm hw hB hz1 hk1 hS => ?_)
  obtain ⟨hP1, hD1⟩ := hB
  rw [ht] at hP1
  obtain ⟨hP, hD⟩ := va_join (wr := [(h0, .inr (13, [.ref q5, .null, .null, .null, .int 0])), (q5, .inr (2, [.int 0, .ref E, .int 0]))]) (w1 := [(q16, .inr (2, [.int 0, .ref E, .int 0]))]) hP hD [2] [0, 1] rfl rfl (by decide) (by decide) hk1 hFc hP1 hD1
  generalize H1 = H at hP hS ⊢
  have hP : va_P D vwCl [(h0, .inr (13, [.ref q5, .null, .null, .null, .int 0])), (q5, .inr (2, [.int 0, .ref E, .int 0])), (q16, .inr (2, [.int 0, .ref E, .int 0]))] H := hP
  have hD : va_D A [(h0, .inr (13, [.ref q5, .null, .null, .null, .int 0])), (q5, .inr (2, [.int 0, .ref E, .int 0])), (q16, .inr (2, [.int 0, .ref E, .int 0]))] := hD
  refine W.widen (k := 2) (n := 6) (Nat.le_of_ble_eq_true rfl) (Nat.le_of_ble_eq_true rfl) ?_
  refine va_putF (D := D) (ci := 13) (v := .ref q16) (ty := .object "java/util/List") (C := RX11) (T := TX11) (N := 5) hx hb hts gx_X11 tyX11 tyX11_ok nmX11 hown hK hP hD hS 0 rfl rfl 1 (by decide) (hts _ gv_1176) (fun _ h9 => h9) rfl hin rfl (by decide +kernel) rfl rfl (Nat.le_of_ble_eq_true rfl) dX11_init_23 (fun H locs hP hD hS => ?_)
  have hP : va_P D vwCl [(h0, .inr (13, [.ref q5, .ref q16, .null, .null, .int 0])), (q5, .inr (2, [.int 0, .ref E, .int 0])), (q16, .inr (2, [.int 0, .ref E, .int 0]))] H := hP
  have hD : va_D A [(h0, .inr (13, [.ref q5, .ref q16, .null, .null, .int 0])), (q5, .inr (2, [.int 0, .ref E, .int 0])), (q16, .inr (2, [.int 0, .ref E, .int 0]))] := hD
  refine lv_aload_n hx hb dX11_init_26 rfl (lv_at hl 0 rfl) ?_
  refine va_new (ci := 2) (fs := [.int 0, .null, .int 0]) (C := RJx4a65c) (T := TJx4a65c) (N := 3) hx hb hts gx_Jx4a65c tyJx4a65c tyJx4a65c_ok hown (hts _ gv_1146) (hts _ gv_1147) (hts _ gv_13) hK hP hD hS hA rfl (gi_dfJx4a65c) (Nat.le_of_ble_eq_true rfl) (Nat.le_of_ble_eq_true rfl) dX11_init_27 (fun q27 H hP hD hS => ?_)
  have hP : va_P D vwCl [(h0, .inr (13, [.ref q5, .ref q16, .null, .null, .int 0])), (q5, .inr (2, [.int 0, .ref E, .int 0])), (q16, .inr (2, [.int 0, .ref E, .int 0])), (q27, .inr (2, [.int 0, .null, .int 0]))] H := hP
  have hD : va_D A [(h0, .inr (13, [.ref q5, .ref q16, .null, .null, .int 0])), (q5, .inr (2, [.int 0, .ref E, .int 0])), (q16, .inr (2, [.int 0, .ref E, .int 0])), (q27, .inr (2, [.int 0, .null, .int 0]))] := hD
  refine W.widen (k := 3) (n := 9) (Nat.le_of_ble_eq_true rfl) (Nat.le_of_ble_eq_true rfl) ?_
  refine lv_dup hx hb dX11_init_30 rfl ?_
  have hPc := hP.sub (ws' := [(q27, .inr (2, [.int 0, .null, .int 0]))]) [3] rfl
  have hDc := hD.sub (ws' := [(q27, .inr (2, [.int 0, .null, .int 0]))]) [3] (by decide) rfl
  have hFc := va_free (wc := [(q27, .inr (2, [.int 0, .null, .int 0]))]) hD hS hA [3] rfl
  refine va_callv (va_runI (As := []) (rest := [.ref q27, .ref h0]) ⟨hx, hb, hml, hown, hts⟩ (gi_Jx4a65c_init_da8c8 l D cA E q27  H.size) (gi_cw hts gk_Jx4a65c_init_da8c8 gv_1148 gv_1149 (by decide +kernel) rfl rfl ⟨Nat.le_of_ble_eq_true rfl, Nat.le_of_ble_eq_true rfl⟩) ⟨ml_blind _ _ _ _ _ _, fun U hU hW => ⟨rfl, ml_pre hPc hK hDc hZ hS hFc U hU hW⟩⟩ rfl rfl hl.1 rfl (lv_room (Nat.le_of_ble_eq_true rfl)) dX11_init_31 ⟨Nat.le_of_ble_eq_true rfl, Nat.le_of_ble_eq_true rfl⟩) hS (fun q _ h => hFc q h) hFc (fun u t H1 locs ht hvm hw hB hz1 hk1 hS => ?_)
  obtain ⟨hP1, hD1⟩ := hB
  rw [ht] at hP1
  obtain ⟨hP, hD⟩ := va_join (wr := [(h0, .inr (13, [.ref q5, .ref q16, .null, .null, .int 0])), (q5, .inr (2, [.int 0, .ref E, .int 0])), (q16, .inr (2, [.int 0, .ref E, .int 0]))]) (w1 := [(q27, .inr (2, [.int 0, .ref E, .int 0]))]) hP hD [3] [0, 1, 2] rfl rfl (by decide) (by decide) hk1 hFc hP1 hD1
  generalize H1 = H at hP hS ⊢
  have hP : va_P D vwCl [(h0, .inr (13, [.ref q5, .ref q16, .null, .null, .int 0])), (q5, .inr (2, [.int 0, .ref E, .int 0])), (q16, .inr (2, [.int 0, .ref E, .int 0])), (q27, .inr (2, [.int 0, .ref E, .int 0]))] H := hP
  have hD : va_D A [(h0, .inr (13, [.ref q5, .ref q16, .null, .null, .int 0])), (q5, .inr (2, [.int 0, .ref E, .int 0])), (q16, .inr (2, [.int 0, .ref E, .int 0])), (q27, .inr (2, [.int 0, .ref E, .int 0]))] := hD
  refine W.widen (k := 3) (n := 9) (Nat.le_of_ble_eq_true rfl) (Nat.le_of_ble_eq_true rfl) ?_
  refine va_putF (D := D) (ci := 13) (v := .ref q27) (ty := .object "java/util/List") (C := RX11) (T := TX11) (N := 5) hx hb hts gx_X11 tyX11 tyX11_ok nmX11 hown hK hP hD hS 0 rfl rfl 2 (by decide) (hts _ gv_1177) (fun _ h9 => h9) rfl hin rfl (by decide +kernel) rfl rfl (Nat.le_of_ble_eq_true rfl) dX11_init_34 (fun H locs hP hD hS => ?_)
  have hP : va_P D vwCl [(h0, .inr (13, [.ref q5, .ref q16, .ref q27, .null, .int 0])), (q5, .inr (2, [.int 0, .ref E, .int 0])), (q16, .inr (2, [.int 0, .ref E, .int 0])), (q27, .inr (2, [.int 0, .ref E, .int 0]))] H := hP
  have hD : va_D A [(h0, .inr (13, [.ref q5, .ref q16, .ref q27, .null, .int 0])), (q5, .inr (2, [.int 0, .ref E, .int 0])), (q16, .inr (2, [.int 0, .ref E, .int 0])), (q27, .inr (2, [.int 0, .ref E, .int 0]))] := hD
  refine lv_aload_n hx hb dX11_init_37 rfl (lv_at hl 0 rfl) ?_
  refine lv_bipush (v := 7) hx hb dX11_init_38 (by decide) ?_
  refine gi_new (N := 7) hx hb (hts _ gi_int) hK hP hD hS hA (by decide) (by decide) (Nat.le_of_ble_eq_true rfl) (Nat.le_of_ble_eq_true rfl) (Nat.le_of_ble_eq_true rfl) dX11_init_40 (fun q40 H hP hD hS => ?_)
  have hP : va_P D vwCl [(h0, .inr (13, [.ref q5, .ref q16, .ref q27, .null, .int 0])), (q5, .inr (2, [.int 0, .ref E, .int 0])), (q16, .inr (2, [.int 0, .ref E, .int 0])), (q27, .inr (2, [.int 0, .ref E, .int 0])), (q40, .inl (cA, 7, .inl (fun _ => 0)))] H := hP
  have hD : va_D A [(h0, .inr (13, [.ref q5, .ref q16, .ref q27, .null, .int 0])), (q5, .inr (2, [.int 0, .ref E, .int 0])), (q16, .inr (2, [.int 0, .ref E, .int 0])), (q27, .inr (2, [.int 0, .ref E, .int 0])), (q40, .inl (cA, 7, .inl (fun _ => 0)))] := hD
  refine W.widen (k := 4) (n := 16) (Nat.le_of_ble_eq_true rfl) (Nat.le_of_ble_eq_true rfl) ?_
  refine lv_dup hx hb dX11_init_42 rfl ?_
  refine lv_iconst (v := 0) hx hb dX11_init_43 (by decide) ?_
  refine lv_iconst (v := 0) hx hb dX11_init_44 (by decide) ?_
  refine va_iast (D := D) hx hb hK hP hD hS 4 0 rfl rfl (by unfold vp_in; decide) dX11_init_45 (fun H locs hP hD hS => ?_)
  have hP : va_P D vwCl [(h0, .inr (13, [.ref q5, .ref q16, .ref q27, .null, .int 0])), (q5, .inr (2, [.int 0, .ref E, .int 0])), (q16, .inr (2, [.int 0, .ref E, .int 0])), (q27, .inr (2, [.int 0, .ref E, .int 0])), (q40, .inl (cA, 7, .inl (upd (fun _ => 0) (0 : Int32).toNatClampNeg 0)))] H := hP
  have hD : va_D A [(h0, .inr (13, [.ref q5, .ref q16, .ref q27, .null, .int 0])), (q5, .inr (2, [.int 0, .ref E, .int 0])), (q16, .inr (2, [.int 0, .ref E, .int 0])), (q27, .inr (2, [.int 0, .ref E, .int 0])), (q40, .inl (cA, 7, .inl (upd (fun _ => 0) (0 : Int32).toNatClampNeg 0)))] := hD
  refine lv_dup hx hb dX11_init_46 rfl ?_
  refine lv_iconst (v := 1) hx hb dX11_init_47 (by decide) ?_
  refine lv_iconst (v := 1) hx hb dX11_init_48 (by decide) ?_
  refine va_iast (D := D) hx hb hK hP hD hS 4 0 rfl rfl (by unfold vp_in; decide) dX11_init_49 (fun H locs hP hD hS => ?_)
  have hP : va_P D vwCl [(h0, .inr (13, [.ref q5, .ref q16, .ref q27, .null, .int 0])), (q5, .inr (2, [.int 0, .ref E, .int 0])), (q16, .inr (2, [.int 0, .ref E, .int 0])), (q27, .inr (2, [.int 0, .ref E, .int 0])), (q40, .inl (cA, 7, .inl (upd (upd (fun _ => 0) (0 : Int32).toNatClampNeg 0) (1 : Int32).toNatClampNeg 1)))] H := hP
  have hD : va_D A [(h0, .inr (13, [.ref q5, .ref q16, .ref q27, .null, .int 0])), (q5, .inr (2, [.int 0, .ref E, .int 0])), (q16, .inr (2, [.int 0, .ref E, .int 0])), (q27, .inr (2, [.int 0, .ref E, .int 0])), (q40, .inl (cA, 7, .inl (upd (upd (fun _ => 0) (0 : Int32).toNatClampNeg 0) (1 : Int32).toNatClampNeg 1)))] := hD
  refine lv_dup hx hb dX11_init_50 rfl ?_
  refine lv_iconst (v := 2) hx hb dX11_init_51 (by decide) ?_
  refine lv_iconst (v := 2) hx hb dX11_init_52 (by decide) ?_
  refine va_iast (D := D) hx hb hK hP hD hS 4 0 rfl rfl (by unfold vp_in; decide) dX11_init_53 (fun H locs hP hD hS => ?_)
  have hP : va_P D vwCl [(h0, .inr (13, [.ref q5, .ref q16, .ref q27, .null, .int 0])), (q5, .inr (2, [.int 0, .ref E, .int 0])), (q16, .inr (2, [.int 0, .ref E, .int 0])), (q27, .inr (2, [.int 0, .ref E, .int 0])), (q40, .inl (cA, 7, .inl (upd (upd (upd (fun _ => 0) (0 : Int32).toNatClampNeg 0) (1 : Int32).toNatClampNeg 1) (2 : Int32).toNatClampNeg 2)))] H := hP
  have hD : va_D A [(h0, .inr (13, [.ref q5, .ref q16, .ref q27, .null, .int 0])), (q5, .inr (2, [.int 0, .ref E, .int 0])), (q16, .inr (2, [.int 0, .ref E, .int 0])), (q27, .inr (2, [.int 0, .ref E, .int 0])), (q40, .inl (cA, 7, .inl (upd (upd (upd (fun _ => 0) (0 : Int32).toNatClampNeg 0) (1 : Int32).toNatClampNeg 1) (2 : Int32).toNatClampNeg 2)))] := hD
  refine lv_dup hx hb dX11_init_54 rfl ?_
  refine lv_iconst (v := 3) hx hb dX11_init_55 (by decide) ?_
  refine lv_iconst (v := 3) hx hb dX11_init_56 (by decide) ?_
  refine va_iast (D := D) hx hb hK hP hD hS 4 0 rfl rfl (by unfold vp_in; decide) dX11_init_57 (fun H locs hP hD hS => ?_)
  have hP : va_P D vwCl [(h0, .inr (13, [.ref q5, .ref q16, .ref q27, .null, .int 0])), (q5, .inr (2, [.int 0, .ref E, .int 0])), (q16, .inr (2, [.int 0, .ref E, .int 0])), (q27, .inr (2, [.int 0, .ref E, .int 0])), (q40, .inl (cA, 7, .inl (upd (upd (upd (upd (fun _ => 0) (0 : Int32).toNatClampNeg 0) (1 : Int32).toNatClampNeg 1) (2 : Int32).toNatClampNeg 2) (3 : Int32).toNatClampNeg 3)))] H := hP
  have hD : va_D A [(h0, .inr (13, [.ref q5, .ref q16, .ref q27, .null, .int 0])), (q5, .inr (2, [.int 0, .ref E, .int 0])), (q16, .inr (2, [.int 0, .ref E, .int 0])), (q27, .inr (2, [.int 0, .ref E, .int 0])), (q40, .inl (cA, 7, .inl (upd (upd (upd (upd (fun _ => 0) (0 : Int32).toNatClampNeg 0) (1 : Int32).toNatClampNeg 1) (2 : Int32).toNatClampNeg 2) (3 : Int32).toNatClampNeg 3)))] := hD
  refine lv_dup hx hb dX11_init_58 rfl ?_
  refine lv_iconst (v := 4) hx hb dX11_init_59 (by decide) ?_
  refine lv_iconst (v := 4) hx hb dX11_init_60 (by decide) ?_
  refine va_iast (D := D) hx hb hK hP hD hS 4 0 rfl rfl (by unfold vp_in; decide) dX11_init_61 (fun H locs hP hD hS => ?_)
  have hP : va_P D vwCl [(h0, .inr (13, [.ref q5, .ref q16, .ref q27, .null, .int 0])), (q5, .inr (2, [.int 0, .ref E, .int 0])), (q16, .inr (2, [.int 0, .ref E, .int 0])), (q27, .inr (2, [.int 0, .ref E, .int 0])), (q40, .inl (cA, 7, .inl (upd (upd (upd (upd (upd (fun _ => 0) (0 : Int32).toNatClampNeg 0) (1 : Int32).toNatClampNeg 1) (2 : Int32).toNatClampNeg 2) (3 : Int32).toNatClampNeg 3) (4 : Int32).toNatClampNeg 4)))] H := hP
  have hD : va_D A [(h0, .inr (13, [.ref q5, .ref q16, .ref q27, .null, .int 0])), (q5, .inr (2, [.int 0, .ref E, .int 0])), (q16, .inr (2, [.int 0, .ref E, .int 0])), (q27, .inr (2, [.int 0, .ref E, .int 0])), (q40, .inl (cA, 7, .inl (upd (upd (upd (upd (upd (fun _ => 0) (0 : Int32).toNatClampNeg 0) (1 : Int32).toNatClampNeg 1) (2 : Int32).toNatClampNeg 2) (3 : Int32).toNatClampNeg 3) (4 : Int32).toNatClampNeg 4)))] := hD
  refine lv_dup hx hb dX11_init_62 rfl ?_
  refine lv_iconst (v := 5) hx hb dX11_init_63 (by decide) ?_
  refine lv_iconst (v := 5) hx hb dX11_init_64 (by decide) ?_
  refine va_iast (D := D) hx hb hK hP hD hS 4 0 rfl rfl (by unfold vp_in; decide) dX11_init_65 (fun H locs hP hD hS => ?_)
  have hP : va_P D vwCl [(h0, .inr (13, [.ref q5, .ref q16, .ref q27, .null, .int 0])), (q5, .inr (2, [.int 0, .ref E, .int 0])), (q16, .inr (2, [.int 0, .ref E, .int 0])), (q27, .inr (2, [.int 0, .ref E, .int 0])), (q40, .inl (cA, 7, .inl (upd (upd (upd (upd (upd (upd (fun _ => 0) (0 : Int32).toNatClampNeg 0) (1 : Int32).toNatClampNeg 1) (2 : Int32).toNatClampNeg 2) (3 : Int32).toNatClampNeg 3) (4 : Int32).toNatClampNeg 4) (5 : Int32).toNatClampNeg 5)))] H := hP
  have hD : va_D A [(h0, .inr (13, [.ref q5, .ref q16, .ref q27, .null, .int 0])), (q5, .inr (2, [.int 0, .ref E, .int 0])), (q16, .inr (2, [.int 0, .ref E, .int 0])), (q27, .inr (2, [.int 0, .ref E, .int 0])), (q40, .inl (cA, 7, .inl (upd (upd (upd (upd (upd (upd (fun _ => 0) (0 : Int32).toNatClampNeg 0) (1 : Int32).toNatClampNeg 1) (2 : Int32).toNatClampNeg 2) (3 : Int32).toNatClampNeg 3) (4 : Int32).toNatClampNeg 4) (5 : Int32).toNatClampNeg 5)))] := hD
  refine lv_dup hx hb dX11_init_66 rfl ?_
  refine lv_bipush (v := 6) hx hb dX11_init_67 (by decide) ?_
  refine lv_bipush (v := 6) hx hb dX11_init_69 (by decide) ?_
  refine va_iast (D := D) hx hb hK hP hD hS 4 0 rfl rfl (by unfold vp_in; decide) dX11_init_71 (fun H locs hP hD hS => ?_)
  have hP : va_P D vwCl [(h0, .inr (13, [.ref q5, .ref q16, .ref q27, .null, .int 0])), (q5, .inr (2, [.int 0, .ref E, .int 0])), (q16, .inr (2, [.int 0, .ref E, .int 0])), (q27, .inr (2, [.int 0, .ref E, .int 0])), (q40, .inl (cA, 7, .inl (upd (upd (upd (upd (upd (upd (upd (fun _ => 0) (0 : Int32).toNatClampNeg 0) (1 : Int32).toNatClampNeg 1) (2 : Int32).toNatClampNeg 2) (3 : Int32).toNatClampNeg 3) (4 : Int32).toNatClampNeg 4) (5 : Int32).toNatClampNeg 5) (6 : Int32).toNatClampNeg 6)))] H := hP
  have hD : va_D A [(h0, .inr (13, [.ref q5, .ref q16, .ref q27, .null, .int 0])), (q5, .inr (2, [.int 0, .ref E, .int 0])), (q16, .inr (2, [.int 0, .ref E, .int 0])), (q27, .inr (2, [.int 0, .ref E, .int 0])), (q40, .inl (cA, 7, .inl (upd (upd (upd (upd (upd (upd (upd (fun _ => 0) (0 : Int32).toNatClampNeg 0) (1 : Int32).toNatClampNeg 1) (2 : Int32).toNatClampNeg 2) (3 : Int32).toNatClampNeg 3) (4 : Int32).toNatClampNeg 4) (5 : Int32).toNatClampNeg 5) (6 : Int32).toNatClampNeg 6)))] := hD
  refine va_putF (D := D) (ci := 13) (v := .ref q40) (ty := .array .int) (C := RX11) (T := TX11) (N := 5) hx hb hts gx_X11 tyX11 tyX11_ok nmX11 hown hK hP hD hS 0 rfl rfl 3 (by decide) (hts _ gv_1178) (fun _ h9 => h9) rfl hin rfl (by decide +kernel) rfl rfl (Nat.le_of_ble_eq_true rfl) dX11_init_72 (fun H locs hP hD hS => ?_)
  have hP : va_P D vwCl [(h0, .inr (13, [.ref q5, .ref q16, .ref q27, .ref q40, .int 0])), (q5, .inr (2, [.int 0, .ref E, .int 0])), (q16, .inr (2, [.int 0, .ref E, .int 0])), (q27, .inr (2, [.int 0, .ref E, .int 0])), (q40, .inl (cA, 7, .inl (upd (upd (upd (upd (upd (upd (upd (fun _ => 0) (0 : Int32).toNatClampNeg 0) (1 : Int32).toNatClampNeg 1) (2 : Int32).toNatClampNeg 2) (3 : Int32).toNatClampNeg 3) (4 : Int32).toNatClampNeg 4) (5 : Int32).toNatClampNeg 5) (6 : Int32).toNatClampNeg 6)))] H := hP
  have hD : va_D A [(h0, .inr (13, [.ref q5, .ref q16, .ref q27, .ref q40, .int 0])), (q5, .inr (2, [.int 0, .ref E, .int 0])), (q16, .inr (2, [.int 0, .ref E, .int 0])), (q27, .inr (2, [.int 0, .ref E, .int 0])), (q40, .inl (cA, 7, .inl (upd (upd (upd (upd (upd (upd (upd (fun _ => 0) (0 : Int32).toNatClampNeg 0) (1 : Int32).toNatClampNeg 1) (2 : Int32).toNatClampNeg 2) (3 : Int32).toNatClampNeg 3) (4 : Int32).toNatClampNeg 4) (5 : Int32).toNatClampNeg 5) (6 : Int32).toNatClampNeg 6)))] := hD
  exact W.vret hx hb hr (fun t ht hW => ⟨⟨(), rfl, trivial, q5, q16, q27, q40, by rw [ht]; exact hP, hD⟩, hS.F ht⟩) hS.2.2 dX11_init_75
set_option maxHeartbeats 4000000 in
set_option maxRecDepth 100000 in
theorem gi_X10_init (l : Launch) (D : va_G) (cA : ClassId) (E : Nat) (h0 : Nat) (sz : Nat) : Met l yX10_init (.code yX10_init cX10_init 1 none :: gw_L) { frames := 4, cells := 1, slots := 3, locals := 73 } (va_Pc [.ref h0] (ml_Pre D cA E sz [(h0, .inr (12, [.null, .int 0]))])) (va_Qv (fun (_ : Unit) => True) (fun _ t => ∃ q5 : Nat, va_P D vwCl [(h0, .inr (12, [.ref q5, .int (-1)])), (q5, .inr (2, [.int 0, .ref E, .int 0]))] t.heap ∧ va_D (va_A [(h0, .inr (12, [.null, .int 0]))] sz) [(h0, .inr (12, [.ref q5, .int (-1)])), (q5, .inr (2, [.int 0, .ref E, .int 0]))]) (va_A [(h0, .inr (12, [.null, .int 0]))] sz)) 1 3 (va_A [(h0, .inr (12, [.null, .int 0]))] sz) := by
  refine Met.ofW (cc := cX10_init) (maxL := 1) (ret := none) (by decide +kernel) rfl ?_
  intro p e s m args below meth c s₁ B hml hv
  obtain ⟨rfl, ⟨hsz, hP, hK, hD0⟩, hZ⟩ := hv
  have hx := B.exec
  have hb := B.bytes
  have hr := B.returns
  have hts0 := atoms_spec (ws := .code yX10_init cX10_init 1 none :: gw_L) B.pre
  have hts : ∀ w ∈ gw_L, w.before _ s = true := fun w hw => hts0 w (List.mem_cons_of_mem _ hw)
  have hown : s.vm.findClass RX10 = some m.cls := findClass_of_methodNamed B.named
  have hlocks := B.notSynchronized
  have hin : meth.name = "<init>" := (name_of_methodNamed B.named B.method).1
  subst hsz
  have hD := hD0.self (sz := s.heap.size)
  generalize hAe : va_A [(h0, .inr (12, [.null, .int 0]))] s.heap.size = A at hD hZ ⊢
  have hA : ∀ q : Nat, s.heap.size ≤ q → A q := fun q h => by rw [← hAe]; exact Or.inr h
  have hS : va_S A s.heap s.heap [] := va_S.rf
  have hP : va_P D vwCl [(h0, .inr (12, [.null, .int 0]))] s.heap := hP
  have hl := lv_entry ([.ref h0]) (n := 1) (Nat.le_of_ble_eq_true rfl)
  rw [lg_entry_eq]
  generalize (lg_sl ([.ref h0]) ++ List.replicate (1 - (lg_sl ([.ref h0])).length) Slot.unset).toArray = ls at hl ⊢
  have hl : lv_has ls 1 [(0, .ref h0)] := hl
  refine lv_aload_n hx hb dX10_init_0 rfl (lv_at hl 0 rfl) ?_
  refine W.objInit hx hb hown (hts _ gv_1502) (hts _ gi_o1) (hts _ gi_o2) rfl (by rw [hml]; exact hl.1) rfl dX10_init_1 (Nat.le_of_ble_eq_true rfl) (Nat.le_of_ble_eq_true rfl) ?_
  refine W.eq (g2 := F0 m 4 ls []) rfl ?_
  refine lv_aload_n hx hb dX10_init_4 rfl (lv_at hl 0 rfl) ?_
  refine va_new (ci := 2) (fs := [.int 0, .null, .int 0]) (C := RJx4a65c) (T := TJx4a65c) (N := 3) hx hb hts gx_Jx4a65c tyJx4a65c tyJx4a65c_ok hown (hts _ gv_1503) (hts _ gv_1147) (hts _ gv_13) hK hP hD hS hA rfl (gi_dfJx4a65c) (Nat.le_of_ble_eq_true rfl) (Nat.le_of_ble_eq_true rfl) dX10_init_5 (fun q5 H hP hD hS => ?_)
  have hP : va_P D vwCl [(h0, .inr (12, [.null, .int 0])), (q5, .inr (2, [.int 0, .null, .int 0]))] H := hP
  have hD : va_D A [(h0, .inr (12, [.null, .int 0])), (q5, .inr (2, [.int 0, .null, .int 0]))] := hD
  refine W.widen (k := 1) (n := 3) (Nat.le_of_ble_eq_true rfl) (Nat.le_of_ble_eq_true rfl) ?_
  refine lv_dup hx hb dX10_init_8 rfl ?_
  have hPc := hP.sub (ws' := [(q5, .inr (2, [.int 0, .null, .int 0]))]) [1] rfl
  have hDc := hD.sub (ws' := [(q5, .inr (2, [.int 0, .null, .int 0]))]) [1] (by decide) rfl
  have hFc := va_free (wc := [(q5, .inr (2, [.int 0, .null, .int 0]))]) hD hS hA [1] rfl
  refine va_callv (va_runI (As := []) (rest := [.ref q5, .ref h0]) ⟨hx, hb, hml, hown, hts⟩ (gi_Jx4a65c_init_da8c8 l D cA E q5  H.size) (gi_cw hts gk_Jx4a65c_init_da8c8 gv_1504 gv_1149 (by decide +kernel) rfl rfl ⟨Nat.le_of_ble_eq_true rfl, Nat.le_of_ble_eq_true rfl⟩) ⟨ml_blind _ _ _ _ _ _, fun U hU hW => ⟨rfl, ml_pre hPc hK hDc hZ hS hFc U hU hW⟩⟩ rfl rfl hl.1 rfl (lv_room (Nat.le_of_ble_eq_true rfl)) dX10_init_9 ⟨Nat.le_of_ble_eq_true rfl, Nat.le_of_ble_eq_true rfl⟩) hS (fun q _ h => hFc q h) hFc (fun u t H1 locs ht hvm hw hB hz1 hk1 hS => ?_)
  obtain ⟨hP1, hD1⟩ := hB
  rw [ht] at hP1
  obtain ⟨hP, hD⟩ := va_join (wr := [(h0, .inr (12, [.null, .int 0]))]) (w1 := [(q5, .inr (2, [.int 0, .ref E, .int 0]))]) hP hD [1] [0] rfl rfl (by decide) (by decide) hk1 hFc hP1 hD1
  generalize H1 = H at hP hS ⊢
  have hP : va_P D vwCl [(h0, .inr (12, [.null, .int 0])), (q5, .inr (2, [.int 0, .ref E, .int 0]))] H := hP
  have hD : va_D A [(h0, .inr (12, [.null, .int 0])), (q5, .inr (2, [.int 0, .ref E, .int 0]))] := hD
  refine W.widen (k := 1) (n := 3) (Nat.le_of_ble_eq_true rfl) (Nat.le_of_ble_eq_true rfl) ?_
  refine va_putF (D := D) (ci := 12) (v := .ref q5) (ty := .object "java/util/List") (C := RX10) (T := TX10) (N := 2) hx hb hts gx_X10 tyX10 tyX10_ok nmX10 hown hK hP hD hS 0 rfl rfl 0 (by decide) (hts _ gv_1505) (fun _ h9 => h9) rfl hin rfl (by decide +kernel) rfl rfl (Nat.le_of_ble_eq_true rfl) dX10_init_12 (fun H locs hP hD hS => ?_)
  have hP : va_P D vwCl [(h0, .inr (12, [.ref q5, .int 0])), (q5, .inr (2, [.int 0, .ref E, .int 0]))] H := hP
  have hD : va_D A [(h0, .inr (12, [.ref q5, .int 0])), (q5, .inr (2, [.int 0, .ref E, .int 0]))] := hD
  refine lv_aload_n hx hb dX10_init_15 rfl (lv_at hl 0 rfl) ?_
  refine lv_iconst (v := -1) hx hb dX10_init_16 (by decide) ?_
  refine va_put (D := D) (ci := 12) (v := .int (-1)) (ty := .int) (C := RX10) (T := TX10) (N := 2) hx hb hts gx_X10 tyX10 tyX10_ok nmX10 hown hK hP hD hS 0 rfl rfl 1 (by decide) (hts _ gv_1507) (fun _ h9 => h9) rfl (by decide +kernel) rfl rfl (Nat.le_of_ble_eq_true rfl) dX10_init_17 (fun H locs hP hD hS => ?_)
  have hP : va_P D vwCl [(h0, .inr (12, [.ref q5, .int (-1)])), (q5, .inr (2, [.int 0, .ref E, .int 0]))] H := hP
  have hD : va_D A [(h0, .inr (12, [.ref q5, .int (-1)])), (q5, .inr (2, [.int 0, .ref E, .int 0]))] := hD
  exact W.vret hx hb hr (fun t ht hW => ⟨⟨(), rfl, trivial, q5, by rw [ht]; exact hP, hD⟩, hS.F ht⟩) hS.2.2 dX10_init_20
set_option maxHeartbeats 4000000 in
set_option maxRecDepth 100000 in
theorem gi_X9_init (l : Launch) (D : va_G) (cA : ClassId) (h0 : Nat) (h1 : Int32) (h2 : Int32) (h3 : Int32) (h4 : Int32) (h5 : Int32) (hch : narrow .char (.int h1) = .int h1 ∧ fits .char (.int h1) = true) (sz : Nat) : Met l yX9_init (.code yX9_init cX9_init 6 none :: gw_L) { frames := 1, cells := 0, slots := 0, locals := 13 } (va_Pc [.ref h0, .int h1, .int h2, .int h3, .int h4, .int h5] (gi_Pre D cA sz [(h0, .inr (11, [.int 0, .int 0, .int 0, .int 0, .int 0, .int 0]))])) (va_Qv (fun (_ : Unit) => True) (fun _ t => va_P D vwCl [(h0, .inr (11, [.int h1, .int h2, .int h3, .int h4, .int h5, .int 1]))] t.heap ∧ va_D (va_A [(h0, .inr (11, [.int 0, .int 0, .int 0, .int 0, .int 0, .int 0]))] sz) [(h0, .inr (11, [.int h1, .int h2, .int h3, .int h4, .int h5, .int 1]))]) (va_A [(h0, .inr (11, [.int 0, .int 0, .int 0, .int 0, .int 0, .int 0]))] sz)) 0 0 (va_A [(h0, .inr (11, [.int 0, .int 0, .int 0, .int 0, .int 0, .int 0]))] sz) := by
  refine Met.ofW (cc := cX9_init) (maxL := 6) (ret := none) (by decide +kernel) rfl ?_
  intro p e s m args below meth c s₁ B hml hv
  obtain ⟨rfl, hsz, hP, hK, hD0⟩ := hv
  have hx := B.exec
  have hb := B.bytes
  have hr := B.returns
  have hts0 := atoms_spec (ws := .code yX9_init cX9_init 6 none :: gw_L) B.pre
  have hts : ∀ w ∈ gw_L, w.before _ s = true := fun w hw => hts0 w (List.mem_cons_of_mem _ hw)
  have hown : s.vm.findClass RX9 = some m.cls := findClass_of_methodNamed B.named
  have hlocks := B.notSynchronized
  have hin : meth.name = "<init>" := (name_of_methodNamed B.named B.method).1
  subst hsz
  have hD := hD0.self (sz := s.heap.size)
  generalize hAe : va_A [(h0, .inr (11, [.int 0, .int 0, .int 0, .int 0, .int 0, .int 0]))] s.heap.size = A at hD ⊢
  have hA : ∀ q : Nat, s.heap.size ≤ q → A q := fun q h => by rw [← hAe]; exact Or.inr h
  have hS : va_S A s.heap s.heap [] := va_S.rf
  have hP : va_P D vwCl [(h0, .inr (11, [.int 0, .int 0, .int 0, .int 0, .int 0, .int 0]))] s.heap := hP
  have hl := lv_entry ([.ref h0, .int h1, .int h2, .int h3, .int h4, .int h5]) (n := 6) (Nat.le_of_ble_eq_true rfl)
  rw [lg_entry_eq]
  generalize (lg_sl ([.ref h0, .int h1, .int h2, .int h3, .int h4, .int h5]) ++ List.replicate (6 - (lg_sl ([.ref h0, .int h1, .int h2, .int h3, .int h4, .int h5])).length) Slot.unset).toArray = ls at hl ⊢
  have hl : lv_has ls 6 [(0, .ref h0), (1, .int h1), (2, .int h2), (3, .int h3), (4, .int h4), (5, .int h5)] := hl
  refine lv_aload_n hx hb dX9_init_0 rfl (lv_at hl 0 rfl) ?_
  refine W.objInit hx hb hown (hts _ gv_1618) (hts _ gi_o1) (hts _ gi_o2) rfl (by rw [hml]; exact hl.1) rfl dX9_init_1 (Nat.le_of_ble_eq_true rfl) (Nat.le_of_ble_eq_true rfl) ?_
  refine W.eq (g2 := F0 m 4 ls []) rfl ?_
  refine lv_aload_n hx hb dX9_init_4 rfl (lv_at hl 0 rfl) ?_
  refine lv_iconst (v := 1) hx hb dX9_init_5 (by decide) ?_
  refine va_put (D := D) (ci := 11) (v := .int 1) (ty := .int) (C := RX9) (T := TX9) (N := 6) hx hb hts gx_X9 tyX9 tyX9_ok nmX9 hown hK hP hD hS 0 rfl rfl 5 (by decide) (hts _ gv_1629) (fun _ h9 => h9) rfl (by decide +kernel) rfl rfl (Nat.le_of_ble_eq_true rfl) dX9_init_6 (fun H locs hP hD hS => ?_)
  have hP : va_P D vwCl [(h0, .inr (11, [.int 0, .int 0, .int 0, .int 0, .int 0, .int 1]))] H := hP
  have hD : va_D A [(h0, .inr (11, [.int 0, .int 0, .int 0, .int 0, .int 0, .int 1]))] := hD
  refine lv_aload_n hx hb dX9_init_9 rfl (lv_at hl 0 rfl) ?_
  refine lv_iload_n hx hb dX9_init_10 rfl (lv_at hl 1 rfl) ?_
  refine va_putF (D := D) (ci := 11) (v := .int h1) (ty := .char) (C := RX9) (T := TX9) (N := 6) hx hb hts gx_X9 tyX9 tyX9_ok nmX9 hown hK hP hD hS 0 rfl rfl 0 (by decide) (hts _ gv_1619) (fun _ h9 => h9) rfl hin rfl (by decide +kernel) hch.1 hch.2 (Nat.le_of_ble_eq_true rfl) dX9_init_11 (fun H locs hP hD hS => ?_)
  have hP : va_P D vwCl [(h0, .inr (11, [.int h1, .int 0, .int 0, .int 0, .int 0, .int 1]))] H := hP
  have hD : va_D A [(h0, .inr (11, [.int h1, .int 0, .int 0, .int 0, .int 0, .int 1]))] := hD
  refine lv_aload_n hx hb dX9_init_14 rfl (lv_at hl 0 rfl) ?_
  refine lv_iload_n hx hb dX9_init_15 rfl (lv_at hl 2 rfl) ?_
  refine va_putF (D := D) (ci := 11) (v := .int h2) (ty := .int) (C := RX9) (T := TX9) (N := 6) hx hb hts gx_X9 tyX9 tyX9_ok nmX9 hown hK hP hD hS 0 rfl rfl 1 (by decide) (hts _ gv_1621) (fun _ h9 => h9) rfl hin rfl (by decide +kernel) rfl rfl (Nat.le_of_ble_eq_true rfl) dX9_init_16 (fun H locs hP hD hS => ?_)
  have hP : va_P D vwCl [(h0, .inr (11, [.int h1, .int h2, .int 0, .int 0, .int 0, .int 1]))] H := hP
  have hD : va_D A [(h0, .inr (11, [.int h1, .int h2, .int 0, .int 0, .int 0, .int 1]))] := hD
  refine lv_aload_n hx hb dX9_init_19 rfl (lv_at hl 0 rfl) ?_
  refine lv_iload_n hx hb dX9_init_20 rfl (lv_at hl 3 rfl) ?_
  refine va_putF (D := D) (ci := 11) (v := .int h3) (ty := .int) (C := RX9) (T := TX9) (N := 6) hx hb hts gx_X9 tyX9 tyX9_ok nmX9 hown hK hP hD hS 0 rfl rfl 2 (by decide) (hts _ gv_1623) (fun _ h9 => h9) rfl hin rfl (by decide +kernel) rfl rfl (Nat.le_of_ble_eq_true rfl) dX9_init_21 (fun H locs hP hD hS => ?_)
  have hP : va_P D vwCl [(h0, .inr (11, [.int h1, .int h2, .int h3, .int 0, .int 0, .int 1]))] H := hP
  have hD : va_D A [(h0, .inr (11, [.int h1, .int h2, .int h3, .int 0, .int 0, .int 1]))] := hD
  refine lv_aload_n hx hb dX9_init_24 rfl (lv_at hl 0 rfl) ?_
  refine lv_iload hx hb dX9_init_25 (lv_at hl 4 rfl) ?_
  refine va_putF (D := D) (ci := 11) (v := .int h4) (ty := .int) (C := RX9) (T := TX9) (N := 6) hx hb hts gx_X9 tyX9 tyX9_ok nmX9 hown hK hP hD hS 0 rfl rfl 3 (by decide) (hts _ gv_1625) (fun _ h9 => h9) rfl hin rfl (by decide +kernel) rfl rfl (Nat.le_of_ble_eq_true rfl) dX9_init_27 (fun H locs hP hD hS => ?_)
  have hP : va_P D vwCl [(h0, .inr (11, [.int h1, .int h2, .int h3, .int h4, .int 0, .int 1]))] H := hP
  have hD : va_D A [(h0, .inr (11, [.int h1, .int h2, .int h3, .int h4, .int 0, .int 1]))] := hD
  refine lv_aload_n hx hb dX9_init_30 rfl (lv_at hl 0 rfl) ?_
  refine lv_iload hx hb dX9_init_31 (lv_at hl 5 rfl) ?_
  refine va_putF (D := D) (ci := 11) (v := .int h5) (ty := .int) (C := RX9) (T := TX9) (N := 6) hx hb hts gx_X9 tyX9 tyX9_ok nmX9 hown hK hP hD hS 0 rfl rfl 4 (by decide) (hts _ gv_1627) (fun _ h9 => h9) rfl hin rfl (by decide +kernel) rfl rfl (Nat.le_of_ble_eq_true rfl) dX9_init_33 (fun H locs hP hD hS => ?_)
  have hP : va_P D vwCl [(h0, .inr (11, [.int h1, .int h2, .int h3, .int h4, .int h5, .int 1]))] H := hP
  have hD : va_D A [(h0, .inr (11, [.int h1, .int h2, .int h3, .int h4, .int h5, .int 1]))] := hD
  exact W.vret hx hb hr (fun t ht hW => ⟨⟨(), rfl, trivial, by rw [ht]; exact hP, hD⟩, hS.F ht⟩) hS.2.2 dX9_init_36
