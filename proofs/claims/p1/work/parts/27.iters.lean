/-! Going through a list without elements. -/
theorem gx_Jx35411 : ∀ w ∈ u_ws RJx35411 TJx35411 4, w ∈ gw_L := gw_pl [1372, 1374, 1376, 1378] (by decide +kernel) (by decide +kernel)
theorem ia_1371 : Cond.fieldLink RJx35411 1 "java/util/ArrayList$Itr" "this$0" "Ljava/util/ArrayList;" ∈ gw_L := gw_tab 1371 (by decide +kernel) (by decide +kernel)
theorem ia_1369 : Cond.fieldLink RJx35411 13 "java/util/ArrayList$Itr" "lastRet" "I" ∈ gw_L := gw_tab 1369 (by decide +kernel) (by decide +kernel)
theorem ia_1370 : Cond.fieldLink RJx35411 22 "java/util/ArrayList$Itr" "expectedModCount" "I" ∈ gw_L := gw_tab 1370 (by decide +kernel) (by decide +kernel)
theorem ia_1368 : Cond.fieldLink RJx35411 25 "java/util/ArrayList$Itr" "cursor" "I" ∈ gw_L := gw_tab 1368 (by decide +kernel) (by decide +kernel)
theorem ia_1165 : Cond.fieldLink RJx35411 17 "java/util/ArrayList" "modCount" "I" ∈ gw_L := gw_tab 1165 (by decide +kernel) (by decide +kernel)
theorem ia_1367 : Cond.methodLink RJx35411 7 objectInit ∈ gw_L := gw_tab 1367 (by decide +kernel) (by decide +kernel)
theorem ia_29 : Cond.initialized RJx35411 ∈ gw_L := gw_tab 29 (by decide +kernel) (by decide +kernel)
theorem ia_ki : gw_K yJx35411_init_45d68 cJx35411_init_45d68 2 none 1 := ⟨gw_tab 1366 (by decide +kernel) (by decide +kernel), ia_29, by decide +kernel, by decide +kernel⟩
theorem ia_kh : gw_K yJx35411_hasNext_aae02 cJx35411_hasNext_aae02 1 (some .boolean) 0 := ⟨gw_tab 1390 (by decide +kernel) (by decide +kernel), ia_29, by decide +kernel, by decide +kernel⟩
theorem ia_kt : gw_K yJx4a65c_iterator_32c93 cJx4a65c_iterator_32c93 1 (some (.object "java/util/Iterator")) 0 := ⟨gw_tab 1361 (by decide +kernel) (by decide +kernel), ga_13, by decide +kernel, by decide +kernel⟩
theorem ia_1364 : Cond.methodLink RJx4a65c 269 yJx35411_init_45d68 ∈ gw_L := gw_tab 1364 (by decide +kernel) (by decide +kernel)
theorem ia_1365 : Cond.instanceMethod yJx35411_init_45d68 ∈ gw_L := gw_tab 1365 (by decide +kernel) (by decide +kernel)
theorem ia_1362 : Cond.classLink RJx4a65c 267 RJx35411 ∈ gw_L := gw_tab 1362 (by decide +kernel) (by decide +kernel)
theorem ia_1363 : Cond.instantiable RJx35411 4 ∈ gw_L := gw_tab 1363 (by decide +kernel) (by decide +kernel)
theorem gi_dfJx35411 : ∀ j, j < 4 → defaultValue (tyJx35411 j) = vp_V [.int 0, .int 0, .int 0, .null] j := fun j hj => by rcases (show j = 0 ∨ j = 1 ∨ j = 2 ∨ j = 3 by omega) with rfl | rfl | rfl | rfl <;> rfl
def ia_W (it h a : Nat) (x1 x2 mc n : Int32) (th : Value) : va_W := [(it, .inr (1, [.int 0, .int x1, .int x2, th])), (h, .inr (2, [.int mc, .ref a, .int n]))]
def ia_Pre (D : va_G) (sz : Nat) (ws : va_W) (U : State) : Prop := U.heap.size = sz ∧ va_P D vwCl ws U.heap ∧ va_K D vwCl [] U ∧ va_D (fun _ => True) ws
theorem ia_blind (As : List Value) (D : va_G) (sz : Nat) (ws : va_W) : FrameBlind (va_Pc As (ia_Pre D sz ws)) := fun a U g mk q => ⟨q.1, q.2.1, q.2.2.1, va_K.moved (u := U) (U := U.calling g mk a) (Vm.Alike.refl U.vm) q.2.2.2.1, q.2.2.2.2⟩
set_option maxHeartbeats 4000000 in
set_option maxRecDepth 100000 in
theorem ia_init (l : Launch) (D : va_G) (it h a : Nat) (mc n : Int32) (sz : Nat) : Met l yJx35411_init_45d68 (.code yJx35411_init_45d68 cJx35411_init_45d68 2 none :: gw_L) { frames := 1, cells := 0, slots := 0, locals := 13 } (va_Pc [.ref it, .ref h] (ia_Pre D sz (ia_W it h a 0 0 mc n .null))) (va_Qv (fun (_ : Unit) => True) (fun _ t => va_P D vwCl (ia_W it h a (-1) mc mc n (.ref h)) t.heap) (va_A (ia_W it h a 0 0 mc n .null) sz)) 0 0 (va_A (ia_W it h a 0 0 mc n .null) sz) := by
  refine Met.ofW (cc := cJx35411_init_45d68) (maxL := 2) (ret := none) (by decide +kernel) rfl ?_
  intro p e s m args below meth c s₁ B hml hv
  obtain ⟨rfl, hsz, hP, hK, hD0⟩ := hv
  have hx := B.exec
  have hb := B.bytes
  have hr := B.returns
  have hts0 := atoms_spec (ws := .code yJx35411_init_45d68 cJx35411_init_45d68 2 none :: gw_L) B.pre
  have hts : ∀ w ∈ gw_L, w.before _ s = true := fun w hw => hts0 w (List.mem_cons_of_mem _ hw)
  have hown : s.vm.findClass RJx35411 = some m.cls := findClass_of_methodNamed B.named
  have hlocks := B.notSynchronized
  have hin : meth.name = "<init>" := (name_of_methodNamed B.named B.method).1
  subst hsz
  have hD := hD0.self (sz := s.heap.size)
  have hS : va_S (va_A (ia_W it h a 0 0 mc n .null) s.heap.size) s.heap s.heap [] := va_S.rf
  have hl := lv_entry ([.ref it, .ref h]) (n := 2) (Nat.le_of_ble_eq_true rfl)
  rw [lg_entry_eq]
  generalize (lg_sl ([.ref it, .ref h]) ++ List.replicate (2 - (lg_sl ([.ref it, .ref h])).length) Slot.unset).toArray = ls at hl ⊢
  have hl : lv_has ls 2 [(0, .ref it), (1, .ref h)] := hl
  refine lv_aload_n hx hb dJx35411_init_45d68_0 rfl (lv_at hl 0 rfl) ?_
  refine lv_aload_n hx hb dJx35411_init_45d68_1 rfl (lv_at hl 1 rfl) ?_
  refine va_putF (D := D) (ci := 1) (v := .ref h) (ty := .object "java/util/ArrayList") (C := RJx35411) (T := TJx35411) (N := 4) hx hb hts gx_Jx35411 tyJx35411 tyJx35411_ok nmJx35411 hown hK hP hD hS 0 rfl rfl 3 (by decide) (hts _ ia_1371) (fun _ h9 => h9) rfl hin rfl (by decide +kernel) rfl rfl (Nat.le_of_ble_eq_true rfl) dJx35411_init_45d68_2 (fun H locs hP hD hS => ?_)
  refine lv_aload_n hx hb dJx35411_init_45d68_5 rfl (lv_at hl 0 rfl) ?_
  refine W.objInit hx hb hown (hts _ ia_1367) (hts _ gi_o1) (hts _ gi_o2) rfl (by rw [hml]; exact hl.1) rfl dJx35411_init_45d68_6 (Nat.le_of_ble_eq_true rfl) (Nat.le_of_ble_eq_true rfl) ?_
  refine W.eq (g2 := F0 m 9 ls []) rfl ?_
  refine lv_aload_n hx hb dJx35411_init_45d68_9 rfl (lv_at hl 0 rfl) ?_
  refine lv_iconst (v := -1) hx hb dJx35411_init_45d68_10 (by decide) ?_
  refine va_put (D := D) (ci := 1) (v := .int (-1)) (ty := .int) (C := RJx35411) (T := TJx35411) (N := 4) hx hb hts gx_Jx35411 tyJx35411 tyJx35411_ok nmJx35411 hown hK hP hD hS 0 rfl rfl 1 (by decide) (hts _ ia_1369) (fun _ h9 => h9) rfl gx_pI rfl rfl (Nat.le_of_ble_eq_true rfl) dJx35411_init_45d68_11 (fun H locs hP hD hS => ?_)
  refine lv_aload_n hx hb dJx35411_init_45d68_14 rfl (lv_at hl 0 rfl) ?_
  refine lv_aload_n hx hb dJx35411_init_45d68_15 rfl (lv_at hl 0 rfl) ?_
  refine va_get (D := D) (ci := 1) (v := .ref h) (C := RJx35411) (T := TJx35411) (N := 4) hx hb hts gx_Jx35411 hown hK hP 0 rfl rfl 3 (by decide) (hts _ ia_1371) (fun _ h9 => h9) rfl dJx35411_init_45d68_16 ?_
  refine va_get (D := D) (ci := 2) (v := .int mc) (C := RJx4a65c) (T := TJx4a65c) (N := 3) hx hb hts gx_Jx4a65c hown hK hP 1 rfl rfl 0 (by decide) (hts _ ia_1165) (fun x9 h9 => u_same (hts _ ga_1166) x9 h9) rfl dJx35411_init_45d68_19 ?_
  refine va_put (D := D) (ci := 1) (v := .int mc) (ty := .int) (C := RJx35411) (T := TJx35411) (N := 4) hx hb hts gx_Jx35411 tyJx35411 tyJx35411_ok nmJx35411 hown hK hP hD hS 0 rfl rfl 2 (by decide) (hts _ ia_1370) (fun _ h9 => h9) rfl gx_pI rfl rfl (Nat.le_of_ble_eq_true rfl) dJx35411_init_45d68_22 (fun H locs hP hD hS => ?_)
  exact W.vret hx hb hr (fun t ht hW => ⟨⟨(), rfl, trivial, by show va_P D vwCl (ia_W it h a (-1) mc mc n (.ref h)) t.heap; rw [ht]; exact hP⟩, hS.F ht⟩) hS.2.2 dJx35411_init_45d68_25
set_option maxHeartbeats 4000000 in
set_option maxRecDepth 100000 in
theorem ia_hasNext (l : Launch) (D : va_G) (it h a : Nat) (x1 x2 mc : Int32) (sz : Nat) : Met l yJx35411_hasNext_aae02 (.code yJx35411_hasNext_aae02 cJx35411_hasNext_aae02 1 (some .boolean) :: gw_L) { frames := 0, cells := 0, slots := 0, locals := 0 } (va_Pc [.ref it] (ia_Pre D sz (ia_W it h a x1 x2 mc 0 (.ref h)))) (va_Qi (fun r (_ : Unit) => r = 0) (fun _ _ => True) (fun _ => False)) 0 0 (fun _ => False) := by
  refine Met.ofW (cc := cJx35411_hasNext_aae02) (maxL := 1) (ret := some .boolean) (by decide +kernel) rfl ?_
  intro p e s m args below meth c s₁ B hml hv
  obtain ⟨rfl, hsz, hP, hK, -⟩ := hv
  have hx := B.exec
  have hb := B.bytes
  have hr := B.returns
  have hts0 := atoms_spec (ws := .code yJx35411_hasNext_aae02 cJx35411_hasNext_aae02 1 (some .boolean) :: gw_L) B.pre
  have hts : ∀ w ∈ gw_L, w.before _ s = true := fun w hw => hts0 w (List.mem_cons_of_mem _ hw)
  have hown : s.vm.findClass RJx35411 = some m.cls := findClass_of_methodNamed B.named
  have hlocks := B.notSynchronized
  have hl := lv_entry ([.ref it]) (n := 1) (Nat.le_of_ble_eq_true rfl)
  rw [lg_entry_eq]
  generalize (lg_sl ([.ref it]) ++ List.replicate (1 - (lg_sl ([.ref it])).length) Slot.unset).toArray = ls at hl ⊢
  have hl : lv_has ls 1 [(0, .ref it)] := hl
  refine lv_aload_n hx hb dJx35411_hasNext_aae02_0 rfl (lv_at hl 0 rfl) ?_
  refine va_get (D := D) (ci := 1) (v := .int 0) (C := RJx35411) (T := TJx35411) (N := 4) hx hb hts gx_Jx35411 hown hK hP 0 rfl rfl 0 (by decide) (hts _ ia_1368) (fun _ h9 => h9) rfl dJx35411_hasNext_aae02_1 ?_
  refine lv_aload_n hx hb dJx35411_hasNext_aae02_4 rfl (lv_at hl 0 rfl) ?_
  refine va_get (D := D) (ci := 1) (v := .ref h) (C := RJx35411) (T := TJx35411) (N := 4) hx hb hts gx_Jx35411 hown hK hP 0 rfl rfl 3 (by decide) (hts _ ia_1371) (fun _ h9 => h9) rfl dJx35411_hasNext_aae02_5 ?_
  refine va_getN (D := D) (ci := 2) (v := .int 0) (C := RJx4a65c) (T := TJx4a65c) (N := 3) (host := "java/util/ArrayList") hx hb hts gx_Jx4a65c hown hK hP 1 rfl rfl 2 (by decide) (hts _ (show Cond.fieldLinkNest RJx35411 28 "java/util/ArrayList" "size" "I" "java/util/ArrayList" ∈ gw_L from gw_tab 1162 (by decide +kernel) (by decide +kernel))) (fun _ h9 => h9) rfl dJx35411_hasNext_aae02_8 ?_
  refine lv_icmp_eq (tgt := 18) hx hb dJx35411_hasNext_aae02_11 (by decide) (fun _ => ?_) (fun z => absurd rfl z)
  refine lv_iconst (v := 0) hx hb dJx35411_hasNext_aae02_18 (by decide) ?_
  exact W.zret (v := 0) hx hb hr rfl (fun t ht _ => ⟨⟨0, (), rfl, rfl, trivial⟩, ⟨by rw [ht]; exact Nat.le_refl _, fun q _ _ => by rw [ht]⟩⟩) (fun q hq => nomatch hq) dJx35411_hasNext_aae02_19
set_option maxHeartbeats 4000000 in
set_option maxRecDepth 100000 in
theorem ia_iterator (l : Launch) (D : va_G) (h a : Nat) (mc n : Int32) (sz : Nat) : Met l yJx4a65c_iterator_32c93 (.code yJx4a65c_iterator_32c93 cJx4a65c_iterator_32c93 1 (some (.object "java/util/Iterator")) :: gw_L) { frames := 2, cells := 1, slots := 4, locals := 40 } (va_Pc [.ref h] (ia_Pre D sz [(h, .inr (2, [.int mc, .ref a, .int n]))])) (va_Qr (fun (_ : Unit) => True) (fun _ it t => va_P D vwCl (ia_W it h a (-1) mc mc n (.ref h)) t.heap ∧ sz ≤ it) (fun q => q = h ∨ sz ≤ q)) 1 4 (fun q => q = h ∨ sz ≤ q) := by
  refine Met.ofW (cc := cJx4a65c_iterator_32c93) (maxL := 1) (ret := some (.object "java/util/Iterator")) (by decide +kernel) rfl ?_
  intro p e s m args below meth c s₁ B hml hv
  obtain ⟨rfl, hsz, hP, hK, hD0⟩ := hv
  have hx := B.exec
  have hb := B.bytes
  have hr := B.returns
  have hts0 := atoms_spec (ws := .code yJx4a65c_iterator_32c93 cJx4a65c_iterator_32c93 1 (some (.object "java/util/Iterator")) :: gw_L) B.pre
  have hts : ∀ w ∈ gw_L, w.before _ s = true := fun w hw => hts0 w (List.mem_cons_of_mem _ hw)
  have hown : s.vm.findClass RJx4a65c = some m.cls := findClass_of_methodNamed B.named
  have hlocks := B.notSynchronized
  subst hsz
  have hD := hD0.self (sz := s.heap.size)
  have hAe : (va_A [(h, .inr (2, [.int mc, .ref a, .int n]))] s.heap.size) = (fun q => q = h ∨ s.heap.size ≤ q) := funext fun q => propext (la_Ah h s.heap.size _ q)
  rw [hAe] at hD
  have hA : ∀ q : Nat, s.heap.size ≤ q → (q = h ∨ s.heap.size ≤ q) := fun q h => Or.inr h
  have hS : va_S (fun q => q = h ∨ s.heap.size ≤ q) s.heap s.heap [] := va_S.rf
  have hl := lv_entry ([.ref h]) (n := 1) (Nat.le_of_ble_eq_true rfl)
  rw [lg_entry_eq]
  generalize (lg_sl ([.ref h]) ++ List.replicate (1 - (lg_sl ([.ref h])).length) Slot.unset).toArray = ls at hl ⊢
  have hl : lv_has ls 1 [(0, .ref h)] := hl
  refine va_new (ci := 1) (fs := [.int 0, .int 0, .int 0, .null]) (C := RJx35411) (T := TJx35411) (N := 4) hx hb hts gx_Jx35411 tyJx35411 tyJx35411_ok hown (hts _ ia_1362) (hts _ ia_1363) (hts _ ia_29) hK hP hD hS hA rfl (gi_dfJx35411) (Nat.le_of_ble_eq_true rfl) (Nat.le_of_ble_eq_true rfl) dJx4a65c_iterator_32c93_0 (fun it H hP hD hS => ?_)
  refine W.widen (k := 1) (n := 4) (Nat.le_of_ble_eq_true rfl) (Nat.le_of_ble_eq_true rfl) ?_
  refine lv_dup hx hb dJx4a65c_iterator_32c93_3 rfl ?_
  refine lv_aload_n hx hb dJx4a65c_iterator_32c93_4 rfl (lv_at hl 0 rfl) ?_
  have hit : s.heap.size ≤ it := by
    have h1 := hD.2 1 (it, .inr (1, [.int 0, .int 0, .int 0, .null])) rfl
    rcases h1 with h1 | h1
    · exact absurd (hD.1 1 0 _ _ rfl rfl h1) (by decide)
    · exact h1
  have hPc := hP.sub (ws' := ia_W it h a 0 0 mc n .null) [1, 0] rfl
  have hDc := hD.sub (ws' := ia_W it h a 0 0 mc n .null) [1, 0] (by decide) rfl
  have hFc := va_free (wc := ia_W it h a 0 0 mc n .null) hD hS hA [1, 0] rfl
  refine va_callv (va_runI (As := [.ref h]) (rest := [.ref it]) ⟨hx, hb, hml, hown, hts⟩ (ia_init l D it h a mc n H.size) (gi_cw hts ia_ki ia_1364 ia_1365 (by decide +kernel) rfl rfl ⟨Nat.le_of_ble_eq_true rfl, Nat.le_of_ble_eq_true rfl⟩) ⟨ia_blind _ _ _ _, fun U hU hW => ⟨rfl, by rw [hU], by rw [hU]; exact hPc, hK.moved hW.alike, hDc.weaken (fun _ _ _ _ => trivial)⟩⟩ rfl rfl hl.1 rfl (lv_room (Nat.le_of_ble_eq_true rfl)) dJx4a65c_iterator_32c93_5 ⟨Nat.le_of_ble_eq_true rfl, Nat.le_of_ble_eq_true rfl⟩) hS (fun q _ h => hFc q h) hFc (fun u t H1 locs ht hvm hw hB hz1 hk1 hS => ?_)
  rw [ht] at hB
  exact W.aret hx hb hr (Or.inl ⟨_, rfl⟩) (Or.inr ⟨_, rfl⟩) (fun t2 ht2 hW => ⟨⟨(), it, rfl, trivial, by rw [ht2]; exact hB, hit⟩, hS.F ht2⟩) hS.2.2 dJx4a65c_iterator_32c93_8
