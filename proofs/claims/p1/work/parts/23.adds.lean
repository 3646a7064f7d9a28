/-! The reference's lists: the first element that one takes. -/
def la_Z (E : Nat) (A : Nat → Prop) (U : State) (H : Heap) : Prop := va_Z "java/util/ArrayList" "DEFAULTCAPACITY_EMPTY_ELEMENTDATA" "[Ljava/lang/Object;" (.ref E) A U H ∧ va_T (.object "java/lang/Object") E 0 (fun _ => .null) A U H
theorem la_Z.call {E : Nat} {A : Nat → Prop} {U : State} {H : Heap} {g : JFrame} {mk : MethodId} {a : Array Value} (h : la_Z E A U H) : la_Z E A (U.calling g mk a) H := ⟨va_Z.moved (u := U) (U := U.calling g mk a) (Vm.Alike.refl U.vm) h.1, va_T.moved (u := U) (U := U.calling g mk a) (Vm.Alike.refl U.vm) h.2⟩
theorem la_Z.go {E : Nat} {A B : Nat → Prop} {s U : State} {H0 H : Heap} (h : la_Z E A s H0) (hk : ∀ a : Nat, a < H0.size → ¬ A a → H[a]? = H0[a]?) (hAB : ∀ q, B q → A q) (hvm : s.vm.Alike U.vm) : la_Z E B U H := ⟨va_Z.moved hvm (va_Z.narrow (va_Z.kept h.1 hk) hAB), va_T.moved hvm (va_T.narrow (va_T.kept h.2 hk) hAB)⟩
def la_Pre (D : va_G) (E : Nat) (sz : Nat) (ws : va_W) (U : State) : Prop := U.heap.size = sz ∧ va_P D vwCl ws U.heap ∧ va_K D vwCl [] U ∧ va_AO "java/lang/Object" U ∧ la_Z E (va_A ws sz) U U.heap ∧ va_D (fun _ => True) ws
theorem la_blind (As : List Value) (D : va_G) (E sz : Nat) (ws : va_W) : FrameBlind (va_Pc As (la_Pre D E sz ws)) := fun a U g mk q => ⟨q.1, q.2.1, q.2.2.1, va_K.moved (u := U) (U := U.calling g mk a) (Vm.Alike.refl U.vm) q.2.2.2.1, va_AO.moved (u := U) (U := U.calling g mk a) (Vm.Alike.refl U.vm) q.2.2.2.2.1, q.2.2.2.2.2.1.call, q.2.2.2.2.2.2⟩
theorem la_pre {D : va_G} {E : Nat} {wc : va_W} {s : State} {H : Heap} {locs : List Loc} {A : Nat → Prop} (hP : va_P D vwCl wc H) (hK : va_K D vwCl [] s) (hO : va_AO "java/lang/Object" s) (hD : va_D A wc) (hZ : la_Z E A s s.heap) (hS : va_S A s.heap H locs) (hF : ∀ q, va_A wc H.size q → A q) : ∀ U : State, U.heap = H → s.WarmedH U.vm → la_Pre D E H.size wc U := fun U hU hW => by
  subst hU
  exact ⟨rfl, hP, hK.moved hW.alike, hO.moved hW.alike, hZ.go hS.2.1 hF hW.alike, hD.weaken (fun _ _ _ _ => trivial)⟩
theorem la_cw {R : Room} {s : State} {args : Array Value} {own C : String} {index maxL n mc ms : Nat} {y : MethodName} {bytes : ByteArray} {ret : Option FieldType} {rm : Room} (hts : ∀ w ∈ gw_L, w.before args s = true) (q : gw_K y bytes maxL ret n) (hl : Cond.methodLink own index y ∈ gw_L) (hv : Cond.instanceMethod y ∈ gw_L ∧ Cond.selects C y y ∈ gw_L) (hrc : rm.cells = mc) (hrs : rm.slots = ms) (hR : rm.frames + 1 ≤ R.frames ∧ 8 + (maxL + 11) + rm.locals ≤ R.locals) :
    CallW R s args own C index y bytes maxL ret (.code y bytes maxL ret :: gw_L) rm mc ms n :=
  ⟨⟨hrc, hrs, hR.1, hR.2, fun w hw a' U hW => (List.mem_cons.mp hw).elim (fun e => by rw [e]; exact gw_all hW hts _ q.1) (fun h => gw_all hW hts _ h), List.mem_cons_self, hts _ q.1, hts _ q.2.1, q.2.2.1, gw_sig q.2.2.2, hts _ hl⟩, hts _ hv.1, hts _ hv.2⟩
theorem ga_1160 : Cond.fieldLink RJx4a65c 9 "java/util/ArrayList" "elementData" "[Ljava/lang/Object;" ∈ gw_L := gw_tab 1160 (by decide +kernel) (by decide +kernel)
theorem ga_1158 : Cond.fieldLink RJx4a65c 39 "java/util/ArrayList" "DEFAULTCAPACITY_EMPTY_ELEMENTDATA" "[Ljava/lang/Object;" ∈ gw_L := gw_tab 1158 (by decide +kernel) (by decide +kernel)
theorem ga_1163 : Cond.fieldLink RJx4a65c 48 "java/util/ArrayList" "size" "I" ∈ gw_L := gw_tab 1163 (by decide +kernel) (by decide +kernel)
theorem ga_1167 : Cond.fieldLink RJx4a65c 63 "java/util/ArrayList" "modCount" "I" ∈ gw_L := gw_tab 1167 (by decide +kernel) (by decide +kernel)
theorem ga_1166 : Cond.sameField "java/util/ArrayList" "java/util/AbstractList" "modCount" "I" ∈ gw_L := gw_tab 1166 (by decide +kernel) (by decide +kernel)
theorem ga_1300 : Cond.methodLink RJx4a65c 79 Lib.Math.max.name ∈ gw_L := gw_tab 1300 (by decide +kernel) (by decide +kernel)
theorem ga_1301 : Cond.classLink RJx4a65c 7 "java/lang/Object" ∈ gw_L := gw_tab 1301 (by decide +kernel) (by decide +kernel)
theorem ga_13 : Cond.initialized RJx4a65c ∈ gw_L := gw_tab 13 (by decide +kernel) (by decide +kernel)
theorem ga_k1 : gw_K yJx4a65c_grow_92f84 cJx4a65c_grow_92f84 4 (some (.array (.object "java/lang/Object"))) 1 := ⟨gw_tab 1253 (by decide +kernel) (by decide +kernel), ga_13, by decide +kernel, by decide +kernel⟩
theorem ga_k2 : gw_K yJx4a65c_grow_d5877 cJx4a65c_grow_d5877 1 (some (.array (.object "java/lang/Object"))) 0 := ⟨gw_tab 1249 (by decide +kernel) (by decide +kernel), ga_13, by decide +kernel, by decide +kernel⟩
theorem ga_k3 : gw_K yJx4a65c_add_72be8 cJx4a65c_add_72be8 4 none 3 := ⟨gw_tab 1245 (by decide +kernel) (by decide +kernel), ga_13, by decide +kernel, by decide +kernel⟩
theorem ga_k4 : gw_K yJx4a65c_add_9ea2d cJx4a65c_add_9ea2d 2 (some .boolean) 1 := ⟨gw_tab 1241 (by decide +kernel) (by decide +kernel), ga_13, by decide +kernel, by decide +kernel⟩
theorem ga_l1 : Cond.methodLink RJx4a65c 69 yJx4a65c_grow_92f84 ∈ gw_L := gw_tab 1250 (by decide +kernel) (by decide +kernel)
theorem ga_l2 : Cond.methodLink RJx4a65c 129 yJx4a65c_grow_d5877 ∈ gw_L := gw_tab 1246 (by decide +kernel) (by decide +kernel)
theorem ga_l3 : Cond.methodLink RJx4a65c 131 yJx4a65c_add_72be8 ∈ gw_L := gw_tab 1242 (by decide +kernel) (by decide +kernel)
theorem ga_v1 : Cond.instanceMethod yJx4a65c_grow_92f84 ∈ gw_L ∧ Cond.selects RJx4a65c yJx4a65c_grow_92f84 yJx4a65c_grow_92f84 ∈ gw_L := ⟨gw_tab 1252 (by decide +kernel) (by decide +kernel), gw_sel 25 (by decide +kernel) (by decide +kernel)⟩
theorem ga_v2 : Cond.instanceMethod yJx4a65c_grow_d5877 ∈ gw_L ∧ Cond.selects RJx4a65c yJx4a65c_grow_d5877 yJx4a65c_grow_d5877 ∈ gw_L := ⟨gw_tab 1248 (by decide +kernel) (by decide +kernel), gw_sel 24 (by decide +kernel) (by decide +kernel)⟩
theorem ga_v3 : Cond.instanceMethod yJx4a65c_add_72be8 ∈ gw_L ∧ Cond.selects RJx4a65c yJx4a65c_add_72be8 yJx4a65c_add_72be8 ∈ gw_L := ⟨gw_tab 1244 (by decide +kernel) (by decide +kernel), gw_sel 23 (by decide +kernel) (by decide +kernel)⟩
/-- behind it the list has a row of its own -/
def la_B (D : va_G) (h : Nat) (mc : Int32) (sz : Nat) (u : ClassId) (a : Nat) (t : State) : Prop := va_P D vwCl [(h, .inr (2, [.int mc, .ref a, .int 0])), (a, .inl (u, 10, .inr (.inr (.inr (.inr (fun _ => none))))))] t.heap ∧ va_K D vwCl [(u, .object "java/lang/Object")] t ∧ va_D (fun q => q = h ∨ sz ≤ q) [(h, .inr (2, [.int mc, .ref a, .int 0])), (a, .inl (u, 10, .inr (.inr (.inr (.inr (fun _ => none))))))]
theorem la_Ah (h sz : Nat) (x : va_E) : ∀ q, va_A [(h, x)] sz q ↔ (q = h ∨ sz ≤ q) := fun q => ⟨fun z => z.elim (fun ⟨k, e, hk⟩ => by
    have h1 := (List.getElem?_eq_some_iff.mp hk).1
    have h2 : k < 1 := h1
    have h3 : k = 0 := by omega
    subst h3
    have h4 : (h, x) = (q, e) := Option.some.inj hk
    exact Or.inl (congrArg Prod.fst h4).symm) Or.inr, fun z => z.elim (fun e => Or.inl ⟨0, x, by rw [e]; rfl⟩) Or.inr⟩
set_option maxHeartbeats 4000000 in
set_option maxRecDepth 100000 in
theorem la_grow1 (l : Launch) (D : va_G) (E h : Nat) (mc : Int32) (sz : Nat) : Met l yJx4a65c_grow_92f84 (.code yJx4a65c_grow_92f84 cJx4a65c_grow_92f84 4 (some (.array (.object "java/lang/Object"))) :: gw_L) { frames := 1, cells := 1, slots := 10, locals := 40 } (va_Pc [.ref h, .int 1] (la_Pre D E sz [(h, .inr (2, [.int mc, .ref E, .int 0]))])) (va_Qr (fun (_ : ClassId) => True) (la_B D h mc sz) (fun q => q = h ∨ sz ≤ q)) 1 10 (fun q => q = h ∨ sz ≤ q) := by
  refine Met.ofW (cc := cJx4a65c_grow_92f84) (maxL := 4) (ret := some (.array (.object "java/lang/Object"))) (by decide +kernel) rfl ?_
  intro p e s m args below meth c s₁ B hml hv
  obtain ⟨rfl, hsz, hP, hK, hO, hZ, hD0⟩ := hv
  have hx := B.exec
  have hb := B.bytes
  have hr := B.returns
  have hts0 := atoms_spec (ws := .code yJx4a65c_grow_92f84 cJx4a65c_grow_92f84 4 (some (.array (.object "java/lang/Object"))) :: gw_L) B.pre
  have hts : ∀ w ∈ gw_L, w.before _ s = true := fun w hw => hts0 w (List.mem_cons_of_mem _ hw)
  have hown : s.vm.findClass RJx4a65c = some m.cls := findClass_of_methodNamed B.named
  have hlocks := B.notSynchronized
  subst hsz
  have hD := hD0.self (sz := s.heap.size)
  have hAe : (va_A [(h, .inr (2, [.int mc, .ref E, .int 0]))] s.heap.size) = (fun q => q = h ∨ s.heap.size ≤ q) := funext fun q => propext (la_Ah h s.heap.size _ q)
  rw [hAe] at hD hZ
  generalize hAA : (fun q : Nat => q = h ∨ s.heap.size ≤ q) = A at hD hZ ⊢
  have hA : ∀ q : Nat, s.heap.size ≤ q → A q := fun q h => by rw [← hAA]; exact Or.inr h
  have hS : va_S A s.heap s.heap [] := va_S.rf
  have hl := lv_entry ([.ref h, .int 1]) (n := 4) (Nat.le_of_ble_eq_true rfl)
  rw [lg_entry_eq]
  generalize (lg_sl ([.ref h, .int 1]) ++ List.replicate (4 - (lg_sl ([.ref h, .int 1])).length) Slot.unset).toArray = ls at hl ⊢
  have hl : lv_has ls 4 [(0, .ref h), (1, .int 1)] := hl
  refine lv_aload_n hx hb dJx4a65c_grow_92f84_0 rfl (lv_at hl 0 rfl) ?_
  refine va_get (D := D) (ci := 2) (v := .ref E) (C := RJx4a65c) (T := TJx4a65c) (N := 3) hx hb hts gx_Jx4a65c hown hK hP 0 rfl rfl 1 (by decide) (hts _ ga_1160) (fun _ h9 => h9) rfl dJx4a65c_grow_92f84_1 ?_
  refine va_tlen (v := 0) hx hb hZ.2 hS rfl dJx4a65c_grow_92f84_4 ?_
  refine lv_istore_n (lv' := [(2, .int 0), (0, .ref h), (1, .int 1)]) hx hb dJx4a65c_grow_92f84_5 rfl hl (by decide) rfl (fun ls hl => ?_)
  refine lv_iload_n hx hb dJx4a65c_grow_92f84_6 rfl (lv_at hl 0 rfl) ?_
  refine lv_if_gt (tgt := 20) hx hb dJx4a65c_grow_92f84_7 (by decide) (fun z => absurd z (by decide)) (fun _ => ?_)
  refine lv_aload_n hx hb dJx4a65c_grow_92f84_10 rfl (lv_at hl 1 rfl) ?_
  refine va_get (D := D) (ci := 2) (v := .ref E) (C := RJx4a65c) (T := TJx4a65c) (N := 3) hx hb hts gx_Jx4a65c hown hK hP 0 rfl rfl 1 (by decide) (hts _ ga_1160) (fun _ h9 => h9) rfl dJx4a65c_grow_92f84_11 ?_
  refine va_gets hx hb hZ.1 hS hown (hts _ ga_1158) (fun _ h9 => h9) dJx4a65c_grow_92f84_14 ?_
  refine lv_acmp_eq (rx := some E) (ry := some E) (tgt := 45) hx hb dJx4a65c_grow_92f84_17 (by decide) (fun _ => ?_) (fun z => absurd rfl z)
  refine lv_aload_n hx hb dJx4a65c_grow_92f84_45 rfl (lv_at hl 1 rfl) ?_
  refine lv_bipush (v := 10) hx hb dJx4a65c_grow_92f84_46 (by decide) ?_
  refine lv_iload_n hx hb dJx4a65c_grow_92f84_48 rfl (lv_at hl 2 rfl) ?_
  refine va_mmax hx hb (hml.trans hl.1.symm) hown (hts _ ga_1300) (hts _ gx_mm1) (hts _ gx_mm2) (hts _ gx_mm3) (Nat.le_of_ble_eq_true rfl) (Nat.le_of_ble_eq_true rfl) (Nat.le_of_ble_eq_true rfl) (Nat.le_of_ble_eq_true rfl) dJx4a65c_grow_92f84_49 ?_
  rw [show (if (10 : Int32) < 1 then (1 : Int32) else 10) = 10 from rfl]
  refine va_newq (N' := 10) hx hb hown (hts _ ga_1301) hO hK hP hD hS hA (by decide) rfl (Nat.le_of_ble_eq_true rfl) (Nat.le_of_ble_eq_true rfl) (Nat.le_of_ble_eq_true rfl) dJx4a65c_grow_92f84_52 (fun q u H1 hK1 hP hD hS => ?_)
  refine lv_dup_x1 hx hb dJx4a65c_grow_92f84_55 rfl rfl ?_
  refine va_put (D := D) (ci := 2) (v := .ref q) (ty := .array (.object "java/lang/Object")) (C := RJx4a65c) (T := TJx4a65c) (N := 3) hx hb hts gx_Jx4a65c tyJx4a65c tyJx4a65c_ok nmJx4a65c hown hK1 hP hD hS 0 rfl rfl 1 (by decide) (hts _ ga_1160) (fun _ h9 => h9) rfl (by decide +kernel) rfl rfl (Nat.le_of_ble_eq_true rfl) dJx4a65c_grow_92f84_56 (fun H locs hP hD hS => ?_)
  exact W.aret hx hb hr (Or.inr ⟨_, rfl⟩) (Or.inr ⟨_, rfl⟩) (fun t ht hW => ⟨⟨u, q, rfl, trivial, by rw [ht]; exact hP, hK1.moved hW.alike, by rw [hAA]; exact hD⟩, hS.F ht⟩) hS.2.2 dJx4a65c_grow_92f84_59
set_option maxHeartbeats 4000000 in
set_option maxRecDepth 100000 in
theorem la_grow0 (l : Launch) (D : va_G) (E h : Nat) (mc : Int32) (sz : Nat) : Met l yJx4a65c_grow_d5877 (.code yJx4a65c_grow_d5877 cJx4a65c_grow_d5877 1 (some (.array (.object "java/lang/Object"))) :: gw_L) { frames := 2, cells := 1, slots := 10, locals := 70 } (va_Pc [.ref h] (la_Pre D E sz [(h, .inr (2, [.int mc, .ref E, .int 0]))])) (va_Qr (fun (_ : ClassId) => True) (la_B D h mc sz) (fun q => q = h ∨ sz ≤ q)) 1 10 (fun q => q = h ∨ sz ≤ q) := by
  refine Met.ofW (cc := cJx4a65c_grow_d5877) (maxL := 1) (ret := some (.array (.object "java/lang/Object"))) (by decide +kernel) rfl ?_
  intro p e s m args below meth c s₁ B hml hv
  obtain ⟨rfl, hsz, hP, hK, hO, hZ, hD0⟩ := hv
  have hx := B.exec
  have hb := B.bytes
  have hr := B.returns
  have hts0 := atoms_spec (ws := .code yJx4a65c_grow_d5877 cJx4a65c_grow_d5877 1 (some (.array (.object "java/lang/Object"))) :: gw_L) B.pre
  have hts : ∀ w ∈ gw_L, w.before _ s = true := fun w hw => hts0 w (List.mem_cons_of_mem _ hw)
  have hown : s.vm.findClass RJx4a65c = some m.cls := findClass_of_methodNamed B.named
  have hlocks := B.notSynchronized
  subst hsz
  have hD := hD0.self (sz := s.heap.size)
  have hAe := la_Ah h s.heap.size (.inr (2, [.int mc, .ref E, .int 0]))
  have hS : va_S (va_A [(h, .inr (2, [.int mc, .ref E, .int 0]))] s.heap.size) s.heap s.heap [] := va_S.rf
  have hl := lv_entry ([.ref h]) (n := 1) (Nat.le_of_ble_eq_true rfl)
  rw [lg_entry_eq]
  generalize (lg_sl ([.ref h]) ++ List.replicate (1 - (lg_sl ([.ref h])).length) Slot.unset).toArray = ls at hl ⊢
  have hl : lv_has ls 1 [(0, .ref h)] := hl
  refine lv_aload_n hx hb dJx4a65c_grow_d5877_0 rfl (lv_at hl 0 rfl) ?_
  refine lv_aload_n hx hb dJx4a65c_grow_d5877_1 rfl (lv_at hl 0 rfl) ?_
  refine va_get (D := D) (ci := 2) (v := .int 0) (C := RJx4a65c) (T := TJx4a65c) (N := 3) hx hb hts gx_Jx4a65c hown hK hP 0 rfl rfl 2 (by decide) (hts _ ga_1163) (fun _ h9 => h9) rfl dJx4a65c_grow_d5877_2 ?_
  refine lv_iconst (v := 1) hx hb dJx4a65c_grow_d5877_5 (by decide) ?_
  refine lv_iadd hx hb dJx4a65c_grow_d5877_6 ?_
  rw [show (0 + 1 : Int32) = 1 from rfl]
  refine va_callr (va_runV (C := RJx4a65c) (As := [.int 1]) (rest := []) ⟨hx, hb, hml, hown, hts⟩ (la_grow1 l D E h mc s.heap.size) (la_cw hts ga_k1 ga_l1 ga_v1 rfl rfl ⟨Nat.le_of_ble_eq_true rfl, Nat.le_of_ble_eq_true rfl⟩) ⟨la_blind _ D E _ _, va_recv hK hP (ci := 2) (q0 := 0) rfl rfl, fun U hU hW => ⟨rfl, la_pre hP hK hO hD hZ hS (fun _ z => z) U hU hW⟩⟩ rfl rfl hl.1 rfl (lv_room (Nat.le_of_ble_eq_true rfl)) dJx4a65c_grow_d5877_7 ⟨Nat.le_of_ble_eq_true rfl, Nat.le_of_ble_eq_true rfl⟩) hS (fun q _ z => (hAe q).mpr z) (fun q z => (hAe q).mpr z) (fun u ra t H1 locs1 ht hvm hp hB hz hk hS => ?_)
  obtain ⟨hB1, hB2, hB3⟩ := hB
  exact W.aret hx hb hr (Or.inr ⟨_, rfl⟩) (Or.inr ⟨_, rfl⟩) (fun t2 ht2 hW => ⟨⟨u, ra, rfl, trivial, by rw [ht2, ← ht]; exact hB1, (hB2.moved hvm.symm).moved hW.alike, hB3⟩, ⟨by rw [ht2]; exact hS.1, fun q h1 h2 => by rw [ht2]; exact hS.2.1 q h1 (fun z => h2 ((hAe q).mp z))⟩⟩) (fun z hz => (hAe _).mp (hS.2.2 z hz)) dJx4a65c_grow_d5877_10
/-- what is put in -/
def la_V (h sz v : Nat) (U : State) : Prop := va_Any "java/lang/Object" U U.heap v ∧ v ≠ h ∧ v < sz
theorem va_Any_go {E : String} {s U : State} {H H1 : Heap} {v : Nat} (h : va_Any E s H v) (hk : H1[v]? = H[v]?) (hvm : s.vm.Alike U.vm) : va_Any E U H1 v := by
  obtain ⟨cell, h1, h2, ⟨kC, h3⟩, h4⟩ := h
  obtain ⟨k9, h9, -⟩ := hvm.2.2 _ _ h3
  refine ⟨cell, by rw [hk]; exact h1, h2, ⟨k9, h9⟩, fun comp hc => ?_⟩
  rw [hvm.assignable]
  exact h4 comp (by rw [← hvm.findClass]; exact hc)
theorem la_blindV (As : List Value) (D : va_G) (E sz h v : Nat) (ws : va_W) : FrameBlind (va_Pc As (fun U => la_Pre D E sz ws U ∧ la_V h sz v U)) := fun a U g mk q => ⟨q.1, (la_blind As D E sz ws a U g mk ⟨q.1, q.2.1⟩).2, va_Any_go (U := U.calling g mk a) q.2.2.1 rfl (Vm.Alike.refl U.vm), q.2.2.2⟩
set_option maxHeartbeats 4000000 in
set_option maxRecDepth 100000 in
theorem la_add3 (l : Launch) (D : va_G) (E h v : Nat) (mc : Int32) (sz : Nat) : Met l yJx4a65c_add_72be8 (.code yJx4a65c_add_72be8 cJx4a65c_add_72be8 4 none :: gw_L) { frames := 3, cells := 1, slots := 10, locals := 100 } (va_Pc [.ref h, .ref v, .ref E, .int 0] (fun U => la_Pre D E sz [(h, .inr (2, [.int mc, .ref E, .int 0]))] U ∧ la_V h sz v U)) (va_Qv (fun (_ : Unit) => True) (fun _ t => ∃ a : Nat, va_P D vwCl [(h, .inr (2, [.int mc, .ref a, .int 1]))] t.heap) (fun q => q = h ∨ sz ≤ q)) 1 10 (fun q => q = h ∨ sz ≤ q) := by
  refine Met.ofW (cc := cJx4a65c_add_72be8) (maxL := 4) (ret := none) (by decide +kernel) rfl ?_
  intro p e s m args below meth c s₁ B hml hv
  obtain ⟨rfl, ⟨hsz, hP, hK, hO, hZ, hD0⟩, hV⟩ := hv
  have hx := B.exec
  have hb := B.bytes
  have hr := B.returns
  have hts0 := atoms_spec (ws := .code yJx4a65c_add_72be8 cJx4a65c_add_72be8 4 none :: gw_L) B.pre
  have hts : ∀ w ∈ gw_L, w.before _ s = true := fun w hw => hts0 w (List.mem_cons_of_mem _ hw)
  have hown : s.vm.findClass RJx4a65c = some m.cls := findClass_of_methodNamed B.named
  have hlocks := B.notSynchronized
  subst hsz
  have hD := hD0.self (sz := s.heap.size)
  have hAe : (va_A [(h, .inr (2, [.int mc, .ref E, .int 0]))] s.heap.size) = (fun q => q = h ∨ s.heap.size ≤ q) := funext fun q => propext (la_Ah h s.heap.size _ q)
  rw [hAe] at hD hZ
  have hS : va_S (fun q => q = h ∨ s.heap.size ≤ q) s.heap s.heap [] := va_S.rf
  have hl := lv_entry ([.ref h, .ref v, .ref E, .int 0]) (n := 4) (Nat.le_of_ble_eq_true rfl)
  rw [lg_entry_eq]
  generalize (lg_sl ([.ref h, .ref v, .ref E, .int 0]) ++ List.replicate (4 - (lg_sl ([.ref h, .ref v, .ref E, .int 0])).length) Slot.unset).toArray = ls at hl ⊢
  have hl : lv_has ls 4 [(0, .ref h), (1, .ref v), (2, .ref E), (3, .int 0)] := hl
  refine lv_iload_n hx hb dJx4a65c_add_72be8_0 rfl (lv_at hl 3 rfl) ?_
  refine lv_aload_n hx hb dJx4a65c_add_72be8_1 rfl (lv_at hl 2 rfl) ?_
  refine va_tlen (v := 0) hx hb hZ.2 hS rfl dJx4a65c_add_72be8_2 ?_
  refine lv_icmp_ne (tgt := 11) hx hb dJx4a65c_add_72be8_3 (by decide) (fun z => absurd rfl z) (fun _ => ?_)
  refine lv_aload_n hx hb dJx4a65c_add_72be8_6 rfl (lv_at hl 0 rfl) ?_
  refine va_callr (va_runV (C := RJx4a65c) (As := []) (rest := []) ⟨hx, hb, hml, hown, hts⟩ (la_grow0 l D E h mc s.heap.size) (la_cw hts ga_k2 ga_l2 ga_v2 rfl rfl ⟨Nat.le_of_ble_eq_true rfl, Nat.le_of_ble_eq_true rfl⟩) ⟨la_blind _ D E _ _, va_recv hK hP (ci := 2) (q0 := 0) rfl rfl, fun U hU hW => ⟨rfl, la_pre hP hK hO hD hZ hS (fun q z => (la_Ah h s.heap.size _ q).mp z) U hU hW⟩⟩ rfl rfl hl.1 rfl (lv_room (Nat.le_of_ble_eq_true rfl)) dJx4a65c_add_72be8_7 ⟨Nat.le_of_ble_eq_true rfl, Nat.le_of_ble_eq_true rfl⟩) hS (fun q _ z => z) (fun q z => z) (fun u ra t H1 locs1 ht hvm hp hB hz hk hS => ?_)
  obtain ⟨hB1, hB2, hD2⟩ := hB
  rw [ht] at hB1
  have hK2 := hB2.moved hvm.symm
  refine lv_astore_n (lv' := [(2, .ref ra), (0, .ref h), (1, .ref v), (3, .int 0)]) hx hb dJx4a65c_add_72be8_10 rfl hl (by decide) rfl (fun ls hl => ?_)
  refine lv_aload_n hx hb dJx4a65c_add_72be8_11 rfl (lv_at hl 0 rfl) ?_
  refine lv_iload_n hx hb dJx4a65c_add_72be8_12 rfl (lv_at hl 3 rfl) ?_
  refine lv_aload_n hx hb dJx4a65c_add_72be8_13 rfl (lv_at hl 2 rfl) ?_
  have hAny : va_Any "java/lang/Object" s H1 v := va_Any_go hV.1 (hS.2.1 v hV.2.2 (fun z => z.elim hV.2.1 (fun z => absurd hV.2.2 (Nat.not_lt.mpr z)))) (Vm.Alike.refl s.vm)
  refine va_astqM hx hb hK2 hB1 hD2 hS 1 0 rfl rfl hAny (by unfold vp_in; decide) dJx4a65c_add_72be8_14 (fun H2 locs2 hP hD hS => ?_)
  refine lv_aload_n hx hb dJx4a65c_add_72be8_15 rfl (lv_at hl 1 rfl) ?_
  refine lv_iload_n hx hb dJx4a65c_add_72be8_16 rfl (lv_at hl 3 rfl) ?_
  refine lv_iconst (v := 1) hx hb dJx4a65c_add_72be8_17 (by decide) ?_
  refine lv_iadd hx hb dJx4a65c_add_72be8_18 ?_
  refine va_put (D := D) (ci := 2) (v := .int (0 + 1)) (ty := .int) (C := RJx4a65c) (T := TJx4a65c) (N := 3) hx hb hts gx_Jx4a65c tyJx4a65c tyJx4a65c_ok nmJx4a65c hown hK2 hP hD hS 0 rfl rfl 2 (by decide) (hts _ ga_1163) (fun _ h9 => h9) rfl gx_pI rfl rfl (Nat.le_of_ble_eq_true rfl) dJx4a65c_add_72be8_19 (fun H locs hP hD hS => ?_)
  exact W.vret hx hb hr (fun t ht hW => ⟨⟨(), rfl, trivial, ra, by rw [ht]; exact hP.sub [0] rfl⟩, hS.F ht⟩) hS.2.2 dJx4a65c_add_72be8_22
set_option maxHeartbeats 4000000 in
set_option maxRecDepth 100000 in
theorem la_add (l : Launch) (D : va_G) (E h v : Nat) (mc : Int32) (sz : Nat) : Met l yJx4a65c_add_9ea2d (.code yJx4a65c_add_9ea2d cJx4a65c_add_9ea2d 2 (some .boolean) :: gw_L) { frames := 4, cells := 1, slots := 10, locals := 130 } (va_Pc [.ref h, .ref v] (fun U => la_Pre D E sz [(h, .inr (2, [.int mc, .ref E, .int 0]))] U ∧ la_V h sz v U)) (va_Qi (fun r (_ : Unit) => r = 1) (fun _ t => ∃ a : Nat, va_P D vwCl [(h, .inr (2, [.int (mc + 1), .ref a, .int 1]))] t.heap) (fun q => q = h ∨ sz ≤ q)) 1 10 (fun q => q = h ∨ sz ≤ q) := by
  refine Met.ofW (cc := cJx4a65c_add_9ea2d) (maxL := 2) (ret := some .boolean) (by decide +kernel) rfl ?_
  intro p e s m args below meth c s₁ B hml hv
  obtain ⟨rfl, ⟨hsz, hP, hK, hO, hZ, hD0⟩, hV⟩ := hv
  have hx := B.exec
  have hb := B.bytes
  have hr := B.returns
  have hts0 := atoms_spec (ws := .code yJx4a65c_add_9ea2d cJx4a65c_add_9ea2d 2 (some .boolean) :: gw_L) B.pre
  have hts : ∀ w ∈ gw_L, w.before _ s = true := fun w hw => hts0 w (List.mem_cons_of_mem _ hw)
  have hown : s.vm.findClass RJx4a65c = some m.cls := findClass_of_methodNamed B.named
  have hlocks := B.notSynchronized
  subst hsz
  have hD := hD0.self (sz := s.heap.size)
  have hAe : (va_A [(h, .inr (2, [.int mc, .ref E, .int 0]))] s.heap.size) = (fun q => q = h ∨ s.heap.size ≤ q) := funext fun q => propext (la_Ah h s.heap.size _ q)
  rw [hAe] at hD hZ
  have hS : va_S (fun q => q = h ∨ s.heap.size ≤ q) s.heap s.heap [] := va_S.rf
  have hl := lv_entry ([.ref h, .ref v]) (n := 2) (Nat.le_of_ble_eq_true rfl)
  rw [lg_entry_eq]
  generalize (lg_sl ([.ref h, .ref v]) ++ List.replicate (2 - (lg_sl ([.ref h, .ref v])).length) Slot.unset).toArray = ls at hl ⊢
  have hl : lv_has ls 2 [(0, .ref h), (1, .ref v)] := hl
  refine lv_aload_n hx hb dJx4a65c_add_9ea2d_0 rfl (lv_at hl 0 rfl) ?_
  refine lv_dup hx hb dJx4a65c_add_9ea2d_1 rfl ?_
  refine va_get (D := D) (ci := 2) (v := .int mc) (C := RJx4a65c) (T := TJx4a65c) (N := 3) hx hb hts gx_Jx4a65c hown hK hP 0 rfl rfl 0 (by decide) (hts _ ga_1167) (fun x9 h9 => u_same (hts _ ga_1166) x9 h9) rfl dJx4a65c_add_9ea2d_2 ?_
  refine lv_iconst (v := 1) hx hb dJx4a65c_add_9ea2d_5 (by decide) ?_
  refine lv_iadd hx hb dJx4a65c_add_9ea2d_6 ?_
  refine va_put (D := D) (ci := 2) (v := .int (mc + 1)) (ty := .int) (C := RJx4a65c) (T := TJx4a65c) (N := 3) hx hb hts gx_Jx4a65c tyJx4a65c tyJx4a65c_ok nmJx4a65c hown hK hP hD hS 0 rfl rfl 0 (by decide) (hts _ ga_1167) (fun x9 h9 => u_same (hts _ ga_1166) x9 h9) rfl gx_pI rfl rfl (Nat.le_of_ble_eq_true rfl) dJx4a65c_add_9ea2d_7 (fun H locs hP hD hS => ?_)
  have hP : va_P D vwCl [(h, .inr (2, [.int (mc + 1), .ref E, .int 0]))] H := hP
  have hD : va_D (fun q => q = h ∨ s.heap.size ≤ q) [(h, .inr (2, [.int (mc + 1), .ref E, .int 0]))] := hD
  refine lv_aload_n hx hb dJx4a65c_add_9ea2d_10 rfl (lv_at hl 0 rfl) ?_
  refine lv_aload_n hx hb dJx4a65c_add_9ea2d_11 rfl (lv_at hl 1 rfl) ?_
  refine lv_aload_n hx hb dJx4a65c_add_9ea2d_12 rfl (lv_at hl 0 rfl) ?_
  refine va_get (D := D) (ci := 2) (v := .ref E) (C := RJx4a65c) (T := TJx4a65c) (N := 3) hx hb hts gx_Jx4a65c hown hK hP 0 rfl rfl 1 (by decide) (hts _ ga_1160) (fun _ h9 => h9) rfl dJx4a65c_add_9ea2d_13 ?_
  refine lv_aload_n hx hb dJx4a65c_add_9ea2d_16 rfl (lv_at hl 0 rfl) ?_
  refine va_get (D := D) (ci := 2) (v := .int 0) (C := RJx4a65c) (T := TJx4a65c) (N := 3) hx hb hts gx_Jx4a65c hown hK hP 0 rfl rfl 2 (by decide) (hts _ ga_1163) (fun _ h9 => h9) rfl dJx4a65c_add_9ea2d_17 ?_
  have hA2 : ∀ q : Nat, (q = h ∨ H.size ≤ q) → (q = h ∨ s.heap.size ≤ q) := fun q z => z.elim Or.inl (fun z => Or.inr (Nat.le_trans hS.1 z))
  refine va_callv (va_runV (C := RJx4a65c) (As := [.ref v, .ref E, .int 0]) (rest := []) ⟨hx, hb, hml, hown, hts⟩ (la_add3 l D E h v (mc + 1) H.size) (la_cw hts ga_k3 ga_l3 ga_v3 rfl rfl ⟨Nat.le_of_ble_eq_true rfl, Nat.le_of_ble_eq_true rfl⟩) ⟨la_blindV _ D E _ _ _ _, va_recv hK hP (ci := 2) (q0 := 0) rfl rfl, fun U hU hW => ⟨rfl, la_pre hP hK hO hD hZ hS (fun q z => hA2 q ((la_Ah h H.size _ q).mp z)) U hU hW, by rw [hU]; exact va_Any_go hV.1 (hS.2.1 v hV.2.2 (fun z => z.elim hV.2.1 (fun z => absurd hV.2.2 (Nat.not_lt.mpr z)))) hW.alike, hV.2.1, Nat.lt_of_lt_of_le hV.2.2 hS.1⟩⟩ rfl rfl hl.1 rfl (lv_room (Nat.le_of_ble_eq_true rfl)) dJx4a65c_add_9ea2d_20 ⟨Nat.le_of_ble_eq_true rfl, Nat.le_of_ble_eq_true rfl⟩) hS (fun q _ z => hA2 q z) (fun q z => hA2 q z) (fun u t H1 locs1 ht hvm hp hB hz hk hS => ?_)
  obtain ⟨a, hB1⟩ := hB
  refine lv_iconst (v := 1) hx hb dJx4a65c_add_9ea2d_23 (by decide) ?_
  exact W.zret hx hb hr rfl (fun t2 ht2 hW => ⟨⟨1, (), rfl, rfl, a, by rw [ht2, ← ht]; exact hB1⟩, hS.F ht2⟩) hS.2.2 dJx4a65c_add_9ea2d_24
/-- what the machine's own lists and boxes stand on -/
def lm_Y (E : Nat) (A : Nat → Prop) (U : State) (H : Heap) : Prop := la_Z E A U H ∧ va_AO "java/lang/Object" U ∧ va_Z "java/lang/Integer$IntegerCache" "high" "I" (.int 127) A U H ∧ ∃ (t : Nat) (ad : Nat → Nat), va_Z "java/lang/Integer$IntegerCache" "cache" "[Ljava/lang/Integer;" (.ref t) A U H ∧ va_T (.object "java/lang/Integer") t 256 (fun j => .ref (ad j)) A U H ∧ vb_C ad A U H
theorem lm_Y.go {E : Nat} {A B : Nat → Prop} {s U : State} {H0 H : Heap} (h : lm_Y E A s H0) (hk : ∀ a : Nat, a < H0.size → ¬ A a → H[a]? = H0[a]?) (hAB : ∀ q, B q → A q) (hvm : s.vm.Alike U.vm) : lm_Y E B U H := by
  obtain ⟨h1, h2, h3, t, ad, h4, h5, h6⟩ := h
  exact ⟨h1.go hk hAB hvm, h2.moved hvm, va_Z.moved hvm (va_Z.narrow (va_Z.kept h3 hk) hAB), t, ad, va_Z.moved hvm (va_Z.narrow (va_Z.kept h4 hk) hAB), va_T.moved hvm (va_T.narrow (va_T.kept h5 hk) hAB), vb_C.moved hvm (vb_C.narrow (vb_C.kept h6 hk) hAB)⟩
theorem lm_Y.call {E : Nat} {A : Nat → Prop} {U : State} {H : Heap} {g : JFrame} {mk : MethodId} {a : Array Value} (h : lm_Y E A U H) : lm_Y E A (U.calling g mk a) H := h.go (fun _ _ _ => rfl) (fun _ z => z) (Vm.Alike.refl U.vm)
theorem ga_216 : Cond.fieldLink RJ6 191 "java/lang/Integer$IntegerCache" "high" "I" ∈ gw_L := gw_tab 1216 (by decide +kernel) (by decide +kernel)
theorem ga_218 : Cond.fieldLink RJ6 195 "java/lang/Integer$IntegerCache" "cache" "[Ljava/lang/Integer;" ∈ gw_L := gw_tab 1218 (by decide +kernel) (by decide +kernel)
def la_PreI (E sz : Nat) (A : Nat → Prop) (U : State) : Prop := U.heap.size = sz ∧ lm_Y E A U U.heap
set_option maxHeartbeats 4000000 in
set_option maxRecDepth 100000 in
theorem la_valueOf (l : Launch) (E sz : Nat) (A : Nat → Prop) : Met l yJ6_valueOf_2dffe (.code yJ6_valueOf_2dffe cJ6_valueOf_2dffe 1 (some (.object "java/lang/Integer")) :: gw_L) { frames := 0, cells := 0, slots := 0, locals := 0 } (va_Pc [.int 1] (la_PreI E sz A)) (va_Qr (fun (_ : Unit) => True) (fun _ a t => va_O "java/lang/Integer" a A t t.heap) (fun _ => False)) 0 0 (fun _ => False) := by
  refine Met.ofW (cc := cJ6_valueOf_2dffe) (maxL := 1) (ret := some (.object "java/lang/Integer")) (by decide +kernel) rfl ?_
  intro p e s m args below meth c s₁ B hml hv
  obtain ⟨rfl, hsz, hY⟩ := hv
  have hx := B.exec
  have hb := B.bytes
  have hr := B.returns
  have hts0 := atoms_spec (ws := .code yJ6_valueOf_2dffe cJ6_valueOf_2dffe 1 (some (.object "java/lang/Integer")) :: gw_L) B.pre
  have hts : ∀ w ∈ gw_L, w.before _ s = true := fun w hw => hts0 w (List.mem_cons_of_mem _ hw)
  have hown : s.vm.findClass RJ6 = some m.cls := findClass_of_methodNamed B.named
  have hlocks := B.notSynchronized
  obtain ⟨-, -, h3, t, ad, h4, h5, h6⟩ := hY
  have hS : va_S A s.heap s.heap [] := va_S.rf
  have hl := lv_entry ([.int 1]) (n := 1) (Nat.le_of_ble_eq_true rfl)
  rw [lg_entry_eq]
  generalize (lg_sl ([.int 1]) ++ List.replicate (1 - (lg_sl ([.int 1])).length) Slot.unset).toArray = ls at hl ⊢
  have hl : lv_has ls 1 [(0, .int 1)] := hl
  refine lv_iload_n hx hb dJ6_valueOf_2dffe_0 rfl (lv_at hl 0 rfl) ?_
  refine lv_bipush (v := -128) hx hb dJ6_valueOf_2dffe_1 (by decide) ?_
  refine lv_icmp_lt (tgt := 23) hx hb dJ6_valueOf_2dffe_3 (by decide) (fun z => absurd z (by decide)) (fun _ => ?_)
  refine lv_iload_n hx hb dJ6_valueOf_2dffe_6 rfl (lv_at hl 0 rfl) ?_
  refine va_gets hx hb h3 hS hown (hts _ ga_216) (fun _ h9 => h9) dJ6_valueOf_2dffe_7 ?_
  refine lv_icmp_gt (tgt := 23) hx hb dJ6_valueOf_2dffe_10 (by decide) (fun z => absurd z (by decide)) (fun _ => ?_)
  refine va_gets hx hb h4 hS hown (hts _ ga_218) (fun _ h9 => h9) dJ6_valueOf_2dffe_13 ?_
  refine lv_iload_n hx hb dJ6_valueOf_2dffe_16 rfl (lv_at hl 0 rfl) ?_
  refine lv_sipush (v := 128) hx hb dJ6_valueOf_2dffe_17 (by decide) ?_
  refine lv_iadd hx hb dJ6_valueOf_2dffe_20 ?_
  refine vb_tq (v := .ref (ad 129)) hx hb h5 hS (by unfold vp_in; decide) rfl dJ6_valueOf_2dffe_21 ?_
  exact W.aret hx hb hr (Or.inl ⟨_, rfl⟩) (Or.inr ⟨_, rfl⟩) (fun t2 ht2 hW => ⟨⟨(), ad 129, rfl, trivial, by show va_O "java/lang/Integer" (ad 129) A t2 t2.heap; rw [ht2]; exact va_O.moved hW.alike (h6.1 129 (by decide))⟩, ⟨by rw [ht2]; exact Nat.le_refl _, fun q _ _ => by rw [ht2]⟩⟩) (fun q hq => nomatch hq) dJ6_valueOf_2dffe_22
