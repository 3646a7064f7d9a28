/-! The reference's methods that take a first element, or go through a list without any. -/
def lm_Pre (G : gw_G) (sz : Nat) (σ : gw_S) (U : State) : Prop := gw_Pre G sz σ U ∧ lm_Y (G.2.1 99) (gw_A G sz) U U.heap
theorem lm_blind (As : List Value) (G : gw_G) (sz : Nat) (σ : gw_S) : FrameBlind (va_Pc As (lm_Pre G sz σ)) := fun a U g mk q => ⟨q.1, (gw_blind As G sz σ a U g mk ⟨q.1, q.2.1⟩).2, q.2.2.call⟩
def lm_W3 (G : gw_G) (t : Int32) : va_W := [(G.2.1 33, .inr (13, [.ref (G.2.1 34), .ref (G.2.1 35), .ref (G.2.1 36), .ref (G.2.1 37), .int t]))]
set_option maxHeartbeats 1000000 in
theorem lm_en {Qc : Nat → Array Value → State → Outcome → State → Prop} {mc ms : Nat} {l : Launch} {y : MethodName} {cc : ByteArray} {maxL : Nat} {ret : Option FieldType} {rm : Room} {G : gw_G} {As : List Value} {σ : gw_S} {own : String} {lv : List (Nat × Value)} (hy : plainName y.cls = true) (ho : y.cls = own) (hlen : (lg_sl As).length ≤ maxL) (hlv : lv_args 0 As = lv)
    (body : ∀ (p : Program) (e : Env) (s : State) (m : MethodId) (below : List Frame) (meth : Method) (c : Code) (ls : Array Slot), gw_X p s m As.toArray meth c cc maxL own ret G → lv_has ls maxL lv → gw_P G σ s.heap → lm_Y (G.2.1 99) (gw_A G s.heap.size) s s.heap →
      W p l e rm s m As.toArray below meth c s.heap [] 0 0 (MQ below (Qc s.heap.size) As.toArray s mc ms (gw_A G s.heap.size)) (F0 m 0 ls [])) : ∀ sz : Nat, Met l y (.code y cc maxL ret :: gw_L) rm (va_Pc As (lm_Pre G sz σ)) (Qc sz) mc ms (gw_A G sz) := by
  intro sz
  subst ho
  subst hlv
  refine Met.ofW (cc := cc) (maxL := maxL) (ret := ret) hy rfl ?_
  intro p e s m args below meth c s₁ B hml hv
  obtain ⟨rfl, ⟨hsz, hP, hT, hZ⟩, hY⟩ := hv
  subst hsz
  have hts := atoms_spec (ws := .code y cc maxL ret :: gw_L) B.pre
  have hl := lv_entry As (n := maxL) hlen
  have ht : ∀ x ∈ c.exceptionTable.toList, False := by
    obtain ⟨meth9, c9, h1, h2, -, -, -, -, h7, -⟩ := Cond.code_spec B.named (hts _ List.mem_cons_self)
    cases Option.some.inj (h1.symm.trans B.method)
    cases Option.some.inj (h2.symm.trans (Stand.of_body B).code)
    intro x hx
    rw [Array.isEmpty_iff.mp h7] at hx
    cases hx
  rw [lg_entry_eq]
  exact body p e s m below meth c _ ⟨B.exec, B.bytes, hml, findClass_of_methodNamed B.named, fun w hw => hts w (List.mem_cons_of_mem _ hw), B.returns, B.notSynchronized, hT, hZ, ht⟩ hl hP hY
/-- the size of a list that stands alone -/
def la_PreS (D : va_G) (sz : Nat) (ws : va_W) (U : State) : Prop := U.heap.size = sz ∧ va_P D vwCl ws U.heap ∧ va_K D vwCl [] U
theorem la_blindS (As : List Value) (D : va_G) (sz : Nat) (ws : va_W) : FrameBlind (va_Pc As (la_PreS D sz ws)) := fun a U g mk q => ⟨q.1, q.2.1, q.2.2.1, va_K.moved (u := U) (U := U.calling g mk a) (Vm.Alike.refl U.vm) q.2.2.2⟩
set_option maxHeartbeats 4000000 in
set_option maxRecDepth 100000 in
theorem la_size (l : Launch) (D : va_G) (h a : Nat) (mc n : Int32) (sz : Nat) : Met l yJx4a65c_size_8abf5 (.code yJx4a65c_size_8abf5 cJx4a65c_size_8abf5 1 (some .int) :: gw_L) { frames := 0, cells := 0, slots := 0, locals := 0 } (va_Pc [.ref h] (la_PreS D sz [(h, .inr (2, [.int mc, .ref a, .int n]))])) (va_Qi (fun r (_ : Unit) => r = n) (fun _ _ => True) (fun _ => False)) 0 0 (fun _ => False) := by
  refine Met.ofW (cc := cJx4a65c_size_8abf5) (maxL := 1) (ret := some .int) (by decide +kernel) rfl ?_
  intro p e s m args below meth c s₁ B hml hv
  obtain ⟨rfl, hsz, hP, hK⟩ := hv
  have hx := B.exec
  have hb := B.bytes
  have hr := B.returns
  have hts0 := atoms_spec (ws := .code yJx4a65c_size_8abf5 cJx4a65c_size_8abf5 1 (some .int) :: gw_L) B.pre
  have hts : ∀ w ∈ gw_L, w.before _ s = true := fun w hw => hts0 w (List.mem_cons_of_mem _ hw)
  have hown : s.vm.findClass RJx4a65c = some m.cls := findClass_of_methodNamed B.named
  have hlocks := B.notSynchronized
  have hl := lv_entry ([.ref h]) (n := 1) (Nat.le_of_ble_eq_true rfl)
  rw [lg_entry_eq]
  generalize (lg_sl ([.ref h]) ++ List.replicate (1 - (lg_sl ([.ref h])).length) Slot.unset).toArray = ls at hl ⊢
  have hl : lv_has ls 1 [(0, .ref h)] := hl
  refine lv_aload_n hx hb dJx4a65c_size_8abf5_0 rfl (lv_at hl 0 rfl) ?_
  refine va_get (D := D) (ci := 2) (v := .int n) (C := RJx4a65c) (T := TJx4a65c) (N := 3) hx hb hts gx_Jx4a65c hown hK hP 0 rfl rfl 2 (by decide) (hts _ ga_1163) (fun _ h9 => h9) rfl dJx4a65c_size_8abf5_1 ?_
  exact W.iret (v := n) hx hb hr (fun t ht _ => ⟨⟨n, (), rfl, rfl, trivial⟩, ⟨by rw [ht]; exact Nat.le_refl _, fun q _ _ => by rw [ht]⟩⟩) (fun q hq => nomatch hq) dJx4a65c_size_8abf5_4
theorem la_cF {R : Room} {s : State} {args : Array Value} {own C : String} {index maxL n mc ms : Nat} {x y : MethodName} {bytes : ByteArray} {ret : Option FieldType} {rm : Room} (hts : ∀ w ∈ gw_L, w.before args s = true) (hw : va_Fw C x y s) (q : gw_K y bytes maxL ret n) (hx : (x.cls ≠ "java/lang/invoke/MethodHandle" ∧ x.cls ≠ "java/lang/invoke/VarHandle") ∧ (parseMethodDescriptor x.desc).map (fun d => d.parameters.length) = some n) (hl : Cond.methodLink own index x ∈ gw_L) (hv : Cond.selects C x y ∈ gw_L ∧ Cond.instanceMethod y ∈ gw_L) (hrc : rm.cells = mc) (hrs : rm.slots = ms) (hR : rm.frames + 1 ≤ R.frames ∧ 8 + (maxL + 11) + rm.locals ≤ R.locals) :
    va_CI R s args own C index x y bytes maxL ret (.code y bytes maxL ret :: gw_L) rm mc ms n :=
  ⟨⟨hrc, hrs, hR.1, hR.2, fun w hw a' U hW => (List.mem_cons.mp hw).elim (fun e => by rw [e]; exact gw_all hW hts _ q.1) (fun h => gw_all hW hts _ h), List.mem_cons_self⟩, hts _ hl, va_any rfl hw.1, va_any rfl hw.2.1, hts _ hv.1, hts _ hv.2, va_any rfl hw.2.2.1, va_any rfl hw.2.2.2.1, va_any rfl hw.2.2.2.2, hts _ q.2.1, hts _ q.1, hx.1, gw_sig hx.2⟩
theorem ga_1234 : Cond.methodLink RX11 50 ⟨"java/util/List", "add", "(Ljava/lang/Object;)Z"⟩ ∈ gw_L := gw_tab 1234 (by decide +kernel) (by decide +kernel)
theorem ga_1237 : Cond.selects RJx4a65c ⟨"java/util/List", "add", "(Ljava/lang/Object;)Z"⟩ yJx4a65c_add_9ea2d ∈ gw_L := gw_tab 1237 (by decide +kernel) (by decide +kernel)
theorem ga_1239 : Cond.instanceMethod yJx4a65c_add_9ea2d ∈ gw_L := gw_tab 1239 (by decide +kernel) (by decide +kernel)
theorem ga_1213 : Cond.methodLink RX11 44 yJ6_valueOf_2dffe ∈ gw_L := gw_tab 1213 (by decide +kernel) (by decide +kernel)
theorem ga_1214 : Cond.static yJ6_valueOf_2dffe ∈ gw_L := gw_tab 1214 (by decide +kernel) (by decide +kernel)
theorem ga_kv : gw_K yJ6_valueOf_2dffe cJ6_valueOf_2dffe 1 (some (.object "java/lang/Integer")) 1 := ⟨gw_tab 1215 (by decide +kernel) (by decide +kernel), gw_tab 19 (by decide +kernel) (by decide +kernel), by decide +kernel, by decide +kernel⟩
theorem ga_ci : Cond.castable "java/lang/Integer" "java/lang/Object" ∈ gw_L := gw_tab 1800 (by decide +kernel) (by decide +kernel)
theorem la_cS {R : Room} {s : State} {args : Array Value} {own : String} {index maxL n mc ms : Nat} {y : MethodName} {bytes : ByteArray} {ret : Option FieldType} {rm : Room} (hts : ∀ w ∈ gw_L, w.before args s = true) (q : gw_K y bytes maxL ret n) (hl : Cond.methodLink own index y ∈ gw_L) (hv : Cond.static y ∈ gw_L) (hrc : rm.cells = mc) (hrs : rm.slots = ms) (hR : rm.frames + 1 ≤ R.frames ∧ 8 + (maxL + 11) + rm.locals ≤ R.locals) :
    CallB R s args own index y bytes maxL ret (.code y bytes maxL ret :: gw_L) rm mc ms n ∧ (Cond.static y).before args s = true :=
  ⟨⟨hrc, hrs, hR.1, hR.2, fun w hw a' U hW => (List.mem_cons.mp hw).elim (fun e => by rw [e]; exact gw_all hW hts _ q.1) (fun h => gw_all hW hts _ h), List.mem_cons_self, hts _ q.1, hts _ q.2.1, q.2.2.1, gw_sig q.2.2.2, hts _ hl⟩, hts _ hv⟩
theorem la_anyO {C : String} {a : Nat} {A : Nat → Prop} {s : State} {H : Heap} (hO : va_O C a A s H) (hca : va_Nw (.castable C "java/lang/Object") s) : va_Any "java/lang/Object" s H a := by
  obtain ⟨cell, h1, h2, h3, -⟩ := hO
  obtain ⟨kC, hkC, -⟩ := Vm.findClass_spec h3
  exact ⟨cell, h1, h2, ⟨kC, hkC⟩, fun comp h => vb_asgC hca comp _ h h3⟩
theorem la_A34 {G : gw_G} {k : Nat} (hk : k < 38) {sz : Nat} : ∀ q : Nat, (q = G.2.1 k ∨ sz ≤ q) → gw_A G sz q := fun q z => z.elim (fun e => Or.inl ⟨k, hk, e⟩) Or.inr
theorem la_blindI (As : List Value) (E sz : Nat) (A : Nat → Prop) : FrameBlind (va_Pc As (la_PreI E sz A)) := fun a U g mk q => ⟨q.1, q.2.1, q.2.2.call⟩
set_option maxHeartbeats 4000000 in
set_option maxRecDepth 100000 in
theorem lm_condition (l : Launch) (G : gw_G) (σ : gw_S) (h0 : σ 34 0 = 0) (h2 : σ 34 2 = 0) : ∀ sz : Nat, Met l yX11_condition (.code yX11_condition cX11_condition 1 (some .int) :: gw_L) { frames := 6, cells := 1, slots := 10, locals := 200 } (va_Pc [.ref (G.2.1 33)] (lm_Pre G sz σ)) (va_Qi (fun r (_ : Unit) => r = 0) (fun _ t => va_P G.1 vwCl (lm_W3 G 0) t.heap) (gw_A G sz)) 1 10 (gw_A G sz) := by
  refine lm_en (own := RX11) (lv := [(0, .ref (G.2.1 33))]) (Qc := fun sz => va_Qi (fun r (_ : Unit) => r = 0) (fun _ t => va_P G.1 vwCl (lm_W3 G 0) t.heap) (gw_A G sz)) (by decide +kernel) rfl (Nat.le_of_ble_eq_true rfl) rfl ?_
  intro p e s m below meth c ls X hl hP hY
  obtain ⟨hx, hb, hml, hown, hts, hr, hlocks, hT, hZ, -⟩ := id X
  have hS : va_S (gw_A G s.heap.size) s.heap s.heap [] := va_S.rf
  refine lv_aload_n hx hb dX11_condition_0 rfl (lv_at hl 0 rfl) ?_
  refine lv_aload_n hx hb dX11_condition_1 rfl (lv_at hl 0 rfl) ?_
  refine va_get (D := G.1) (ci := 13) (v := .ref (G.2.1 34)) (C := RX11) (T := TX11) (N := 5) hx hb hts gx_X11 hown hT.2.1 hP 33 rfl rfl 0 (by decide) (hts _ gv_1175) (fun _ h9 => h9) rfl dX11_condition_2 ?_
  refine gw_fi (gw_rF (x := ⟨"java/util/List", "size", "()I"⟩) (C := RJx4a65c) X (hT.2.1.1 2 _ rfl).2 hP hS (gc_Jx4a65c_size_8abf5_34 l G σ _ rfl) gk_Jx4a65c_size_8abf5 ⟨by decide +kernel, by decide +kernel⟩ gv_1200 ⟨gv_1204, gv_1206⟩ 0 rfl (va_recv hT.2.1 hP (ci := 2) (q0 := 34) rfl rfl) rfl rfl (Nat.le_of_ble_eq_true rfl) hl.1 ⟨rfl, rfl⟩ ⟨Nat.le_of_ble_eq_true rfl, Nat.le_of_ble_eq_true rfl⟩ ⟨Nat.le_of_ble_eq_true rfl, Nat.le_of_ble_eq_true rfl⟩ dX11_condition_5) hS (fun H locs hP hS => ?_)
  show W _ _ _ _ _ _ _ _ _ _ _ _ _ _ _ (F0 m 10 ls (.int (σ 34 2) :: _))
  rw [h2]
  refine lv_bipush (v := 7) hx hb dX11_condition_10 (by decide) ?_
  refine lv_icmp_ge (tgt := 19) hx hb dX11_condition_12 (by decide) (fun z => absurd z (by decide)) (fun _ => ?_)
  refine lv_iconst (v := 1) hx hb dX11_condition_15 (by decide) ?_
  refine lv_goto (tgt := 20) hx hb dX11_condition_16 (by decide) ?_
  refine lv_iconst (v := 1) hx hb dX11_condition_20 (by decide) ?_
  refine gw_cz (gw_rV (C := RX11) X hP hS (gc_X11_no l G (1 : Int32) (1 : Int32) σ (0, gw_up σ 33 4 0) rfl) gk_X11_no gv_1209 ⟨gv_1211, gv_s22⟩ (va_recv hT.2.1 hP (ci := 13) (q0 := 33) rfl rfl) rfl rfl (Nat.le_of_ble_eq_true rfl) hl.1 ⟨rfl, rfl⟩ ⟨Nat.le_of_ble_eq_true rfl, Nat.le_of_ble_eq_true rfl⟩ ⟨Nat.le_of_ble_eq_true rfl, Nat.le_of_ble_eq_true rfl⟩ dX11_condition_21) hS (fun H locs _ hP hS => ?_)
  have hP : gw_P G (gw_up σ 33 4 0) H := hP
  refine lv_if_eq (tgt := 29) hx hb dX11_condition_24 (by decide) (fun _ => ?_) (fun z => absurd rfl z)
  refine lv_aload_n hx hb dX11_condition_29 rfl (lv_at hl 0 rfl) ?_
  refine va_get (D := G.1) (ci := 13) (v := .ref (G.2.1 34)) (C := RX11) (T := TX11) (N := 5) hx hb hts gx_X11 hown hT.2.1 hP 33 rfl rfl 0 (by decide) (hts _ gv_1175) (fun _ h9 => h9) rfl dX11_condition_30 ?_
  refine lv_iconst (v := 1) hx hb dX11_condition_33 (by decide) ?_
  refine lv_aload_n hx hb dX11_condition_34 rfl (lv_at hl 0 rfl) ?_
  refine va_get (D := G.1) (ci := 13) (v := .ref (G.2.1 34)) (C := RX11) (T := TX11) (N := 5) hx hb hts gx_X11 hown hT.2.1 hP 33 rfl rfl 0 (by decide) (hts _ gv_1175) (fun _ h9 => h9) rfl dX11_condition_35 ?_
  refine gw_fi (gw_rF (x := ⟨"java/util/List", "size", "()I"⟩) (C := RJx4a65c) X (hT.2.1.1 2 _ rfl).2 hP hS (gc_Jx4a65c_size_8abf5_34 l G (gw_up σ 33 4 0) _ rfl) gk_Jx4a65c_size_8abf5 ⟨by decide +kernel, by decide +kernel⟩ gv_1200 ⟨gv_1204, gv_1206⟩ 0 rfl (va_recv hT.2.1 hP (ci := 2) (q0 := 34) rfl rfl) rfl rfl (Nat.le_of_ble_eq_true rfl) hl.1 ⟨rfl, rfl⟩ ⟨Nat.le_of_ble_eq_true rfl, Nat.le_of_ble_eq_true rfl⟩ ⟨Nat.le_of_ble_eq_true rfl, Nat.le_of_ble_eq_true rfl⟩ dX11_condition_38) hS (fun H locs hP hS => ?_)
  have hP : gw_P G (gw_up σ 33 4 0) H := hP
  show W _ _ _ _ _ _ _ _ _ _ _ _ _ _ _ (F0 m 43 ls (.int (σ 34 2) :: _))
  rw [h2]
  refine lv_ishl hx hb dX11_condition_43 ?_
  rw [show ((1 : Int32) <<< ((0 : Int32) &&& 31)) = 1 from by decide +kernel]
  have hAA := gw_Asub (G := G) hS.1
  refine va_callr (va_runS (As := [.int 1]) (rest := [.ref (G.2.1 34)]) (gw_fix X) (la_valueOf l (G.2.1 99) H.size (gw_A G s.heap.size)) (la_cS hts ga_kv ga_1213 ga_1214 rfl rfl ⟨Nat.le_of_ble_eq_true rfl, Nat.le_of_ble_eq_true rfl⟩) ⟨la_blindI _ _ _ _, fun U hU hW => ⟨rfl, by rw [hU], by rw [hU]; exact hY.go hS.2.1 (fun _ z => z) hW.alike⟩⟩ rfl rfl hl.1 rfl (lv_room (Nat.le_of_ble_eq_true rfl)) dX11_condition_44 ⟨Nat.le_of_ble_eq_true rfl, Nat.le_of_ble_eq_true rfl⟩) hS (fun _ _ z => z.elim) (fun _ z => z.elim) (fun _ v t H1 locs1 ht hvm _ hO hz hk hS => ?_)
  have hsame : ∀ q : Nat, q < H.size → H1[q]? = H[q]? := fun q hq => hk q hq (fun z => z)
  have hP := gw_kept hP hsame
  rw [ht] at hO
  have hO := va_O.moved hvm.symm hO
  have hvA : ¬ gw_A G s.heap.size v := by obtain ⟨-, -, -, -, z⟩ := hO; exact z
  have hvlt : v < H1.size := by obtain ⟨cell, z, -⟩ := hO; exact (Array.getElem?_eq_some_iff.mp z).1
  have hAny := la_anyO hO (va_Nw.of rfl (hts _ ga_ci))
  have hPl : va_P G.1 vwCl [(G.2.1 34, .inr (2, [.int (σ 34 0), .ref (G.2.1 99), .int (σ 34 2)]))] H1 := hP.sub [34] rfl
  rw [h0, h2] at hPl
  have hP3 : va_P G.1 vwCl (lm_W3 G 0) H1 := hP.sub [33] rfl
  have hDl : va_D (gw_A G s.heap.size) [(G.2.1 34, .inr (2, [.int 0, .ref (G.2.1 99), .int 0]))] := ⟨fun i j p q hi hj _ => by
    have h1 : i < 1 := (List.getElem?_eq_some_iff.mp hi).1
    have h2 : j < 1 := (List.getElem?_eq_some_iff.mp hj).1
    omega, fun k q hk => by
    have h1 : k < 1 := (List.getElem?_eq_some_iff.mp hk).1
    have h3 : k = 0 := by omega
    subst h3
    have h4 : (G.2.1 34, _) = q := Option.some.inj hk
    exact Or.inl ⟨34, by decide, by rw [← h4]⟩⟩
  have hA1 : ∀ q : Nat, (q = G.2.1 34 ∨ H1.size ≤ q) → gw_A G s.heap.size q := fun q z => la_A34 (by decide) q (z.imp id (fun z => Nat.le_trans hS.1 z))
  refine va_callFi (va_runF (x := ⟨"java/util/List", "add", "(Ljava/lang/Object;)Z"⟩) (C := RJx4a65c) (As := [.ref v]) (rest := []) (hT.2.1.1 2 _ rfl).2 (gw_fix X) (la_add l G.1 (G.2.1 99) (G.2.1 34) v 0 H1.size) (la_cF hts (hT.2.2.2 3 _ rfl) ga_k4 ⟨by decide +kernel, by decide +kernel⟩ ga_1234 ⟨ga_1237, ga_1239⟩ rfl rfl ⟨Nat.le_of_ble_eq_true rfl, Nat.le_of_ble_eq_true rfl⟩) ⟨la_blindV _ _ _ _ _ _ _, va_recv (hT.2.1.sub [] rfl) hPl (ci := 2) (q0 := 0) rfl rfl, fun U hU hW => ⟨rfl, la_pre hPl (hT.2.1.sub [] rfl) hY.2.1 hDl hY.1 hS (fun q z => hA1 q ((la_Ah _ _ _ q).mp z)) U hU hW, by rw [hU]; exact va_Any_go hAny rfl hW.alike, fun z => hvA (by rw [z]; exact Or.inl ⟨34, by decide, rfl⟩), hvlt⟩⟩ rfl rfl hl.1 rfl (lv_room (Nat.le_of_ble_eq_true rfl)) dX11_condition_47 ⟨Nat.le_of_ble_eq_true rfl, Nat.le_of_ble_eq_true rfl⟩) hS (fun q _ z => hA1 q z) hA1 (fun r _ t2 H2 locs2 ht2 hvm2 _ hB hz2 hk2 hS => ?_)
  obtain ⟨a, hB⟩ := hB
  rw [ht2] at hB
  have hP3 : va_P G.1 vwCl (lm_W3 G 0) H2 := fun k q hq => (hP3 k q hq).kept (hk2 _ (hP3 k q hq).lt (fun z => by
    have h1 : k < 1 := (List.getElem?_eq_some_iff.mp hq).1
    have h3 : k = 0 := by omega
    subst h3
    have h4 : (G.2.1 33, _) = q := Option.some.inj hq
    rcases z with z | z
    · rw [← h4] at z
      exact absurd (hT.1 33 34 (by decide) (by decide) z) (by decide)
    · exact absurd (hP3 0 q hq).lt (Nat.not_lt.mpr z)))
  refine lv_pop hx hb dX11_condition_52 rfl ?_
  refine lv_aload_n hx hb dX11_condition_53 rfl (lv_at hl 0 rfl) ?_
  refine va_get (D := G.1) (ci := 13) (v := .ref (G.2.1 34)) (C := RX11) (T := TX11) (N := 5) hx hb hts gx_X11 hown hT.2.1 hP3 0 rfl rfl 0 (by decide) (hts _ gv_1175) (fun _ h9 => h9) rfl dX11_condition_54 ?_
  refine va_callFi (va_runF (x := ⟨"java/util/List", "size", "()I"⟩) (C := RJx4a65c) (As := []) (rest := []) (hT.2.1.1 2 _ rfl).2 (gw_fix X) (la_size l G.1 (G.2.1 34) a (0 + 1) 1 H2.size) (la_cF hts (hT.2.2.2 0 _ rfl) gk_Jx4a65c_size_8abf5 ⟨by decide +kernel, by decide +kernel⟩ gv_1200 ⟨gv_1204, gv_1206⟩ rfl rfl ⟨Nat.le_of_ble_eq_true rfl, Nat.le_of_ble_eq_true rfl⟩) ⟨la_blindS _ _ _ _, va_recv (hT.2.1.sub [] rfl) hB (ci := 2) (q0 := 0) rfl rfl, fun U hU hW => ⟨rfl, by rw [hU], by rw [hU]; exact hB, (hT.2.1.sub [] rfl).moved hW.alike⟩⟩ rfl rfl hl.1 rfl (lv_room (Nat.le_of_ble_eq_true rfl)) dX11_condition_57 ⟨Nat.le_of_ble_eq_true rfl, Nat.le_of_ble_eq_true rfl⟩) hS (fun _ _ z => z.elim) (fun _ z => z.elim) (fun r2 _ t3 H3 locs3 ht3 hvm3 hr2 _ hz3 hk3 hS => ?_)
  have hr2 : r2 = 1 := hr2
  subst hr2
  have hP3 : va_P G.1 vwCl (lm_W3 G 0) H3 := fun k q hq => (hP3 k q hq).kept (hk3 _ (hP3 k q hq).lt (fun z => z))
  refine lv_iconst (v := 1) hx hb dX11_condition_62 (by decide) ?_
  refine lv_isub hx hb dX11_condition_63 ?_
  exact W.iret (v := 1 - 1) hx hb hr (fun t ht _ => ⟨⟨_, (), rfl, by decide, by show va_P G.1 vwCl (lm_W3 G 0) t.heap; rw [ht]; exact hP3⟩, hS.F ht⟩) hS.2.2 dX11_condition_64
