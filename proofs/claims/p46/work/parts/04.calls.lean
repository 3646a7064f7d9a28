/-! Contracts over the world, and a call by each road. -/
def gw_str : List (String × Nat × String) := [("Genericwood", 66, "there are 7 conditions"), ("Genericwood", 313, "there is no such condition"), ("Genericwood", 84, "one is below the other already"), ("Genericwood", 316, "the set has other ones"), ("Genericwood", 318, "it is no last condition"), ("Genericwood", 323, "there would be more than 12 names"), ("Genericwood", 321, "there is no such name"), ("Genericwood", 145, "the other name has no lower number"), ("Genericwood", 159, "the pair is not for this name"), ("Genericwood", 164, "the name has 4 pairs"), ("Genericwood", 170, "there is no pair to take away"), ("Genericwood", 178, "the code is not in 0 to 15"), ("Genericwood", 183, "the condition 0 is not above all"), ("Genericwood", 210, "the conditions fit"), ("Genericwood", 216, "the mixture would have more than 4 pairs"), ("Genericwood", 221, "there is no such kind"), ("Genericwood", 328, "a term is no name that is there, nor a letter"), ("Genericwood", 337, "there are 16 formulas"), ("Genericwood", 331, "there is no such formula"), ("Genericwood", 335, "the depth would be above 5"), ("Genericwood", 252, "there is no such letter"), ("Genericwood", 333, "the formula is not closed"), ("Genericwood", 268, "the formula is so in every world"), ("Genericwood", 281, "the map does not keep the order"), ("Genericwood", 298, "there are no conditions"), ("Genericwood", 300, "there are no names")]
def gw_T (G : gw_G) (U : State) : Prop := gw_I G ∧ va_K G.1 vwCl [(G.2.2.1, .int)] U ∧ ∀ (i : Nat) (q : String × Nat × String), gw_str[i]? = some q → vk_R q.1 q.2.1 q.2.2 (G.2.2.2 i) U
theorem gw_T.warm {G : gw_G} {s U : State} (hW : s.WarmedH U.vm) (h : gw_T G s) : gw_T G U := ⟨h.1, h.2.1.moved hW.alike, fun i q hq => vk_R.warm hW (h.2.2 i q hq)⟩
theorem gw_T.call {G : gw_G} {U : State} {g : JFrame} {mk : MethodId} {a : Array Value} (h : gw_T G U) : gw_T G (U.calling g mk a) := ⟨h.1, va_K.moved (u := U) (U := U.calling g mk a) (Vm.Alike.refl U.vm) h.2.1, fun i q hq => vk_R.same (u := U) (U := U.calling g mk a) rfl (h.2.2 i q hq)⟩
def gw_Z (A : Nat → Prop) (U : State) (H : Heap) : Prop := vx_Zq Bundle.tN "UNASSIGNED_STACK" Bundle.steD A U H ∧ vx_Zq Bundle.tN "SUPPRESSED_SENTINEL" Bundle.listD A U H
theorem gw_Z.call {A : Nat → Prop} {U : State} {H : Heap} {g : JFrame} {mk : MethodId} {a : Array Value} (h : gw_Z A U H) : gw_Z A (U.calling g mk a) H := ⟨vx_Zq.moved (u := U) (U := U.calling g mk a) (Vm.Alike.refl U.vm) h.1, vx_Zq.moved (u := U) (U := U.calling g mk a) (Vm.Alike.refl U.vm) h.2⟩
theorem gw_Z.go {A B : Nat → Prop} {s U : State} {H0 H : Heap} (h : gw_Z A s H0) (hk : ∀ a : Nat, a < H0.size → ¬ A a → H[a]? = H0[a]?) (hAB : ∀ q, B q → A q) (hvm : s.vm.Alike U.vm) : gw_Z B U H := ⟨vx_Zq.moved hvm (vx_Zq.narrow (vx_Zq.kept h.1 hk) hAB), vx_Zq.moved hvm (vx_Zq.narrow (vx_Zq.kept h.2 hk) hAB)⟩
def gw_Pre (G : gw_G) (sz : Nat) (σ : gw_S) (U : State) : Prop := U.heap.size = sz ∧ gw_P G σ U.heap ∧ gw_T G U ∧ gw_Z (gw_A G sz) U U.heap
theorem gw_blind (As : List Value) (G : gw_G) (sz : Nat) (σ : gw_S) : FrameBlind (va_Pc As (gw_Pre G sz σ)) := fun _ _ _ _ q => ⟨q.1, q.2.1, q.2.2.1, q.2.2.2.1.call, q.2.2.2.2.call⟩
theorem gw_pre {G : gw_G} {s : State} {H : Heap} {locs : List Loc} {σ : gw_S} (hP : gw_P G σ H) (hT : gw_T G s) (hZ : gw_Z (gw_A G s.heap.size) s s.heap) (hS : va_S (gw_A G s.heap.size) s.heap H locs) : ∀ U : State, U.heap = H → s.WarmedH U.vm → gw_Pre G H.size σ U := fun U hU hW => by
  subst hU
  exact ⟨rfl, hP, hT.warm hW, hZ.go hS.2.1 (gw_Asub hS.1) hW.alike⟩
/-- a truth value -/
def gw_b (r : Int32) : Prop := narrow .boolean (.int r) = .int r
def gw_QI (G : gw_G) (sz : Nat) (o : Int32 × gw_S) : Array Value → State → Outcome → State → Prop := va_Qi (fun (r : Int32) (u : gw_S) => o = (r, u)) (fun u t => gw_P G u t.heap) (gw_A G sz)
def gw_QZ (G : gw_G) (sz : Nat) (o : Int32 × gw_S) : Array Value → State → Outcome → State → Prop := va_Qi (fun (r : Int32) (u : gw_S) => o = (r, u) ∧ gw_b r) (fun u t => gw_P G u t.heap) (gw_A G sz)
def gw_QV (G : gw_G) (sz : Nat) (o : gw_S) : Array Value → State → Outcome → State → Prop := va_Qv (fun (u : gw_S) => o = u) (fun u t => gw_P G u t.heap) (gw_A G sz)
def gw_xI (G : gw_G) (sz : Nat) (o : (Int32 ⊕ String) × gw_S) : Array Value → State → Outcome → State → Prop := va_Qi (fun (r : Int32) (u : gw_S) => o = (.inl r, u)) (fun u t => gw_P G u t.heap) (gw_A G sz)
def gw_xZ (G : gw_G) (sz : Nat) (o : (Int32 ⊕ String) × gw_S) : Array Value → State → Outcome → State → Prop := va_Qi (fun (r : Int32) (u : gw_S) => o = (.inl r, u) ∧ gw_b r) (fun u t => gw_P G u t.heap) (gw_A G sz)
def gw_xV (G : gw_G) (sz : Nat) (o : (Unit ⊕ String) × gw_S) : Array Value → State → Outcome → State → Prop := va_Qv (fun (u : gw_S) => o = (.inl (), u)) (fun u t => gw_P G u t.heap) (gw_A G sz)
def gw_XC {α : Type} (G : gw_G) (sz : Nat) (o : (α ⊕ String) × gw_S) : String → State → State → Prop := vx_X (fun (_ : gw_S) => True) (fun (E : String) (u : gw_S) (t : State) => o = (.inr E, u) ∧ gw_P G u t.heap) (gw_A G sz)
/-- a method of the class that returns -/
def gw_M (Qc : Nat → Array Value → State → Outcome → State → Prop) (l : Launch) (y : MethodName) (cc : ByteArray) (maxL : Nat) (ret : Option FieldType) (rm : Room) (G : gw_G) (As : List Value) (σ : gw_S) : Prop :=
  ∀ sz : Nat, Met l y (.code y cc maxL ret :: gw_L) rm (va_Pc As (gw_Pre G sz σ)) (Qc sz) 0 0 (gw_A G sz)
/-- .. or throws -/
def gw_N (Qc : Nat → Array Value → State → Outcome → State → Prop) (XC : Nat → String → State → State → Prop) (k : Nat) (l : Launch) (y : MethodName) (cc : ByteArray) (maxL : Nat) (ret : Option FieldType) (rm : Room) (G : gw_G) (As : List Value) (σ : gw_S) : Prop :=
  ∀ sz : Nat, vx_Met l y (.code y cc maxL ret :: gw_L) rm (va_Pc As (gw_Pre G sz σ)) (Qc sz) (XC sz) k (6 * k) (gw_A G sz)
/-- what a walk of such a method has at hand -/
def gw_X (p : Program) (s : State) (m : MethodId) (args : Array Value) (meth : Method) (c : Code) (cc : ByteArray) (nL : Nat) (own : String) (ret : Option FieldType) (G : gw_G) : Prop :=
  p.tables.exec = Jvm.exec ∧ c.code = cc ∧ c.maxLocals = nL ∧ s.vm.findClass own = some m.cls ∧ (∀ w ∈ gw_L, w.before args s = true) ∧ meth.sig.returnType = ret ∧ meth.locks = false ∧ gw_T G s ∧ gw_Z (gw_A G s.heap.size) s s.heap ∧ ∀ x ∈ c.exceptionTable.toList, False
set_option maxHeartbeats 1000000 in
theorem gw_en {Qc : Nat → Array Value → State → Outcome → State → Prop} {l : Launch} {y : MethodName} {cc : ByteArray} {maxL : Nat} {ret : Option FieldType} {rm : Room} {G : gw_G} {As : List Value} {σ : gw_S} {own : String} {lv : List (Nat × Value)} (hy : plainName y.cls = true) (ho : y.cls = own) (hlen : (lg_sl As).length ≤ maxL) (hlv : lv_args 0 As = lv)
    (body : ∀ (p : Program) (e : Env) (s : State) (m : MethodId) (below : List Frame) (meth : Method) (c : Code) (ls : Array Slot), gw_X p s m As.toArray meth c cc maxL own ret G → lv_has ls maxL lv → gw_P G σ s.heap →
      W p l e rm s m As.toArray below meth c s.heap [] 0 0 (MQ below (Qc s.heap.size) As.toArray s 0 0 (gw_A G s.heap.size)) (F0 m 0 ls [])) : gw_M Qc l y cc maxL ret rm G As σ := by
  intro sz
  subst ho
  subst hlv
  refine Met.ofW (cc := cc) (maxL := maxL) (ret := ret) hy rfl ?_
  intro p e s m args below meth c s₁ B hml hv
  obtain ⟨rfl, hsz, hP, hT, hZ⟩ := hv
  subst hsz
  have hts := atoms_spec (ws := .code y cc maxL ret :: gw_L) B.pre
  have hl := lv_entry As (n := maxL) hlen
  have ht : ∀ x ∈ c.exceptionTable.toList, False := by
    obtain ⟨meth9, c9, h1, h2, -, -, -, -, h7, -⟩ := Cond.code_spec B.named (hts _ List.mem_cons_self)
    cases Option.some.inj (h1.symm.trans B.method)
    cases Option.some.inj (h2.symm.trans (Stand.of_body B).code)
    intro x hx
    rw [Array.isEmpty_iff.mp h7] at hx
    cases hx
  rw [lg_entry_eq]
  exact body p e s m below meth c _ ⟨B.exec, B.bytes, hml, findClass_of_methodNamed B.named, fun w hw => hts w (List.mem_cons_of_mem _ hw), B.returns, B.notSynchronized, hT, hZ, ht⟩ hl hP
set_option maxHeartbeats 1000000 in
theorem gw_enx {Qc : Nat → Array Value → State → Outcome → State → Prop} {XC : Nat → String → State → State → Prop} {k : Nat} {l : Launch} {y : MethodName} {cc : ByteArray} {maxL : Nat} {ret : Option FieldType} {rm : Room} {G : gw_G} {As : List Value} {σ : gw_S} {own : String} {lv : List (Nat × Value)} (hy : plainName y.cls = true) (ho : y.cls = own) (hlen : (lg_sl As).length ≤ maxL) (hlv : lv_args 0 As = lv)
    (body : ∀ (p : Program) (e : Env) (s : State) (m : MethodId) (below : List Frame) (meth : Method) (c : Code) (ls : Array Slot), gw_X p s m As.toArray meth c cc maxL own ret G → lv_has ls maxL lv → gw_P G σ s.heap →
      W p l e rm s m As.toArray below meth c s.heap [] 0 0 (vx_MQ below (Qc s.heap.size) (XC s.heap.size) As.toArray s k (6 * k) (gw_A G s.heap.size)) (F0 m 0 ls [])) : gw_N Qc XC k l y cc maxL ret rm G As σ := by
  intro sz
  subst ho
  subst hlv
  refine vx_ofW (cc := cc) (maxL := maxL) (ret := ret) hy rfl ?_
  intro p e s m args below meth c s₁ B hml ht hv
  obtain ⟨rfl, hsz, hP, hT, hZ⟩ := hv
  subst hsz
  have hts := atoms_spec (ws := .code y cc maxL ret :: gw_L) B.pre
  have hl := lv_entry As (n := maxL) hlen
  rw [lg_entry_eq]
  exact body p e s m below meth c _ ⟨B.exec, B.bytes, hml, findClass_of_methodNamed B.named, fun w hw => hts w (List.mem_cons_of_mem _ hw), B.returns, B.notSynchronized, hT, hZ, ht⟩ hl hP
/-- a callee's own words -/
def gw_K (y : MethodName) (bytes : ByteArray) (maxL : Nat) (ret : Option FieldType) (n : Nat) : Prop := Cond.code y bytes maxL ret ∈ gw_L ∧ Cond.initialized y.cls ∈ gw_L ∧ (y.cls ≠ "java/lang/invoke/MethodHandle" ∧ y.cls ≠ "java/lang/invoke/VarHandle") ∧ (parseMethodDescriptor y.desc).map (fun d => d.parameters.length) = some n
theorem gw_sig {d : String} {n : Nat} (h : (parseMethodDescriptor d).map (fun d => d.parameters.length) = some n) : ∀ sig, parseMethodDescriptor d = some sig → n = sig.parameters.length := by
  intro sig h1
  rw [h1] at h
  exact (Option.some.inj h).symm
section GWC
variable {p : Program} {l : Launch} {e : Env} {R : Room} {s : State} {m : MethodId} {args : Array Value} {below : List Frame} {meth : Method} {c : Code} {H : Heap} {locs : List Loc} {cells slots : Nat} {Q : State → Prop}
variable {cc bytes : ByteArray} {nL maxL n index k : Nat} {own C owner host : String} {ret ret0 : Option FieldType} {G : gw_G} {x y : MethodName} {rm : Room} {Qc : Nat → Array Value → State → Outcome → State → Prop} {XC : Nat → String → State → State → Prop} {σ : gw_S} {As rest st0 : List Value} {b pc : Nat} {ls : Array Slot}
theorem gw_fix (X : gw_X p s m args meth c cc nL own ret0 G) : CallFix p m c cc nL s args gw_L own := ⟨X.1, X.2.1, X.2.2.1, X.2.2.2.1, X.2.2.2.2.1⟩
theorem gw_cb (X : gw_X p s m args meth c cc nL own ret0 G) (q : gw_K y bytes maxL ret n) (hl : Cond.methodLink own index y ∈ gw_L) {mc ms : Nat} (hrc : rm.cells = mc) (hrs : rm.slots = ms) (hR : rm.frames + 1 ≤ R.frames ∧ 8 + (maxL + 11) + rm.locals ≤ R.locals) : CallB R s args own index y bytes maxL ret (.code y bytes maxL ret :: gw_L) rm mc ms n :=
  have hts := X.2.2.2.2.1
  ⟨hrc, hrs, hR.1, hR.2, fun w hw a' U hW => (List.mem_cons.mp hw).elim (fun e => by rw [e]; exact gw_all hW hts _ q.1) (fun h => gw_all hW hts _ h), List.mem_cons_self, hts _ q.1, hts _ q.2.1, q.2.2.1, gw_sig q.2.2.2, hts _ hl⟩
theorem gw_rV (X : gw_X p s m args meth c cc nL own ret0 G) (hP : gw_P G σ H) (hS : va_S (gw_A G s.heap.size) s.heap H locs) (hM : gw_M Qc l y bytes maxL ret rm G (.ref b :: As) σ) (q : gw_K y bytes maxL ret n) (hl : Cond.methodLink own index y ∈ gw_L) (hv : Cond.instanceMethod y ∈ gw_L ∧ Cond.selects C y y ∈ gw_L)
    (hr : ∃ cellB : Cell, H[b]? = some cellB ∧ cellB.vm.isStatics = false ∧ s.vm.findClass C = some cellB.cls) (hn : As.length = n) (hst : st0 = As.reverse ++ .ref b :: rest) (hW : (rest.map fun v => v.category).sum ≤ 8) (hls : ls.size = nL) (hc : rm.cells = 0 ∧ rm.slots = 0) (hR : rm.frames + 1 ≤ R.frames ∧ 8 + (maxL + 11) + rm.locals ≤ R.locals) (hf : cells + 0 ≤ R.cells ∧ slots + 0 ≤ R.slots) (hdg : decode cc pc = .ok (.invokevirtual index, 3)) :
    va_Run p l e R s m args below meth c H locs cells slots 0 0 (F0 m pc ls st0) rest (Qc H.size (Value.ref b :: As).toArray) (gw_A G H.size) := by
  have hts := X.2.2.2.2.1
  exact va_runV (gw_fix X) (hM H.size) ⟨gw_cb X q hl hc.1 hc.2 hR, hts _ hv.1, hts _ hv.2⟩ ⟨gw_blind _ G _ σ, hr, fun U hU hWm => ⟨rfl, gw_pre hP X.2.2.2.2.2.2.2.1 X.2.2.2.2.2.2.2.2.1 hS U hU hWm⟩⟩ rfl hn hls hst (lv_room hW) hdg hf
theorem gw_rS (X : gw_X p s m args meth c cc nL own ret0 G) (hP : gw_P G σ H) (hS : va_S (gw_A G s.heap.size) s.heap H locs) (hM : gw_M Qc l y bytes maxL ret rm G As σ) (q : gw_K y bytes maxL ret n) (hl : Cond.methodLink own index y ∈ gw_L) (hv : Cond.static y ∈ gw_L)
    (hn : As.length = n) (hst : st0 = As.reverse ++ rest) (hW : (rest.map fun v => v.category).sum ≤ 8) (hls : ls.size = nL) (hc : rm.cells = 0 ∧ rm.slots = 0) (hR : rm.frames + 1 ≤ R.frames ∧ 8 + (maxL + 11) + rm.locals ≤ R.locals) (hf : cells + 0 ≤ R.cells ∧ slots + 0 ≤ R.slots) (hdg : decode cc pc = .ok (.invokestatic index, 3)) :
    va_Run p l e R s m args below meth c H locs cells slots 0 0 (F0 m pc ls st0) rest (Qc H.size As.toArray) (gw_A G H.size) := by
  have hts := X.2.2.2.2.1
  exact va_runS (gw_fix X) (hM H.size) ⟨gw_cb X q hl hc.1 hc.2 hR, hts _ hv⟩ ⟨gw_blind _ G _ σ, fun U hU hWm => ⟨rfl, gw_pre hP X.2.2.2.2.2.2.2.1 X.2.2.2.2.2.2.2.2.1 hS U hU hWm⟩⟩ rfl hn hls hst (lv_room hW) hdg hf
theorem gw_rN (X : gw_X p s m args meth c cc nL own ret0 G) (hP : gw_P G σ H) (hS : va_S (gw_A G s.heap.size) s.heap H locs) (hM : gw_M Qc l y bytes maxL ret rm G As σ) (q : gw_K y bytes maxL ret n) (hl : Cond.methodLinkNest own index y host ∈ gw_L) (hv : Cond.static y ∈ gw_L)
    (hn : As.length = n) (hst : st0 = As.reverse ++ rest) (hW : (rest.map fun v => v.category).sum ≤ 8) (hls : ls.size = nL) (hc : rm.cells = 0 ∧ rm.slots = 0) (hR : rm.frames + 1 ≤ R.frames ∧ 8 + (maxL + 11) + rm.locals ≤ R.locals) (hf : cells + 0 ≤ R.cells ∧ slots + 0 ≤ R.slots) (hdg : decode cc pc = .ok (.invokestatic index, 3)) :
    va_Run p l e R s m args below meth c H locs cells slots 0 0 (F0 m pc ls st0) rest (Qc H.size As.toArray) (gw_A G H.size) := by
  have hts := X.2.2.2.2.1
  exact va_runSN (host := host) (gw_fix X) (hM H.size) ⟨⟨⟨hc.1, hc.2, hR.1, hR.2, fun w hw a' U hW => (List.mem_cons.mp hw).elim (fun e => by rw [e]; exact gw_all hW hts _ q.1) (fun h => gw_all hW hts _ h), List.mem_cons_self⟩, hts _ q.1, hts _ q.2.1, q.2.2.1, gw_sig q.2.2.2, hts _ hl⟩, hts _ hv, trivial⟩ ⟨gw_blind _ G _ σ, fun U hU hWm => ⟨rfl, gw_pre hP X.2.2.2.2.2.2.2.1 X.2.2.2.2.2.2.2.2.1 hS U hU hWm⟩⟩ rfl hn hls hst (lv_room hW) hdg hf
/-- a call that the receiver's class decides: x is named, y is run; what x stands for is declared in owner -/
theorem gw_rU (X : gw_X p s m args meth c cc nL own ret0 G) (hP : gw_P G σ H) (hS : va_S (gw_A G s.heap.size) s.heap H locs) (hM : gw_M Qc l y bytes maxL ret rm G (.ref b :: As) σ) (q : gw_K y bytes maxL ret n) (hx : (owner ≠ "java/lang/invoke/MethodHandle" ∧ owner ≠ "java/lang/invoke/VarHandle") ∧ (parseMethodDescriptor x.desc).map (fun d => d.parameters.length) = some n) (hl : Cond.methodLink own index x ∈ gw_L) (hv : Cond.sameMethod x.cls owner x.name x.desc ∈ gw_L ∧ Cond.selects C x y ∈ gw_L ∧ Cond.instanceMethod y ∈ gw_L)
    (hd : va_Decl s ⟨owner, x.name, x.desc⟩) (hr : ∃ cellB : Cell, H[b]? = some cellB ∧ cellB.vm.isStatics = false ∧ s.vm.findClass C = some cellB.cls) (hn : As.length = n) (hst : st0 = As.reverse ++ .ref b :: rest) (hW : (rest.map fun v => v.category).sum ≤ 8) (hls : ls.size = nL) (hc : rm.cells = 0 ∧ rm.slots = 0) (hR : rm.frames + 1 ≤ R.frames ∧ 8 + (maxL + 11) + rm.locals ≤ R.locals) (hf : cells + 0 ≤ R.cells ∧ slots + 0 ≤ R.slots) (hdg : decode cc pc = .ok (.invokevirtual index, 3)) :
    va_Run p l e R s m args below meth c H locs cells slots 0 0 (F0 m pc ls st0) rest (Qc H.size (Value.ref b :: As).toArray) (gw_A G H.size) := by
  have hts := X.2.2.2.2.1
  exact va_runU (owner := owner) (x := x) (gw_fix X) (hM H.size) ⟨⟨hc.1, hc.2, hR.1, hR.2, fun w hw a' U hW => (List.mem_cons.mp hw).elim (fun e => by rw [e]; exact gw_all hW hts _ q.1) (fun h => gw_all hW hts _ h), List.mem_cons_self⟩, hts _ q.1, hts _ q.2.1, hx.1, gw_sig hx.2, hts _ hl, hts _ hv.1, hd, hts _ hv.2.1, hts _ hv.2.2⟩ ⟨gw_blind _ G _ σ, hr, fun U hU hWm => ⟨rfl, gw_pre hP X.2.2.2.2.2.2.2.1 X.2.2.2.2.2.2.2.2.1 hS U hU hWm⟩⟩ rfl hn hls hst (lv_room hW) hdg hf
variable {o : Int32 × gw_S} {ov : gw_S} {a : Array Value}
theorem gw_ci (hr : va_Run p l e R s m args below meth c H locs cells slots 0 0 (F0 m pc ls st0) rest (gw_QI G H.size o a) (gw_A G H.size)) (hS : va_S (gw_A G s.heap.size) s.heap H locs)
    (kk : ∀ (H1 : Heap) (locs1 : List Loc), gw_P G o.2 H1 → va_S (gw_A G s.heap.size) s.heap H1 locs1 → W p l e R s m args below meth c H1 locs1 cells slots Q (F0 m (pc + 3) ls (.int o.1 :: rest))) : W p l e R s m args below meth c H locs cells slots Q (F0 m pc ls st0) := by
  refine va_calli hr hS (fun q _ h => gw_Asub hS.1 q h) (gw_Asub hS.1) (fun r u t H1 locs1 ht hvm hw hB hz hk hS1 => ?_)
  subst hw
  subst ht
  exact kk _ _ hB hS1
theorem gw_cz (hr : va_Run p l e R s m args below meth c H locs cells slots 0 0 (F0 m pc ls st0) rest (gw_QZ G H.size o a) (gw_A G H.size)) (hS : va_S (gw_A G s.heap.size) s.heap H locs)
    (kk : ∀ (H1 : Heap) (locs1 : List Loc), gw_b o.1 → gw_P G o.2 H1 → va_S (gw_A G s.heap.size) s.heap H1 locs1 → W p l e R s m args below meth c H1 locs1 cells slots Q (F0 m (pc + 3) ls (.int o.1 :: rest))) : W p l e R s m args below meth c H locs cells slots Q (F0 m pc ls st0) := by
  refine va_calli hr hS (fun q _ h => gw_Asub hS.1 q h) (gw_Asub hS.1) (fun r u t H1 locs1 ht hvm hw hB hz hk hS1 => ?_)
  obtain ⟨hw, hb⟩ := hw
  subst hw
  subst ht
  exact kk _ _ hb hB hS1
theorem gw_cv (hr : va_Run p l e R s m args below meth c H locs cells slots 0 0 (F0 m pc ls st0) rest (gw_QV G H.size ov a) (gw_A G H.size)) (hS : va_S (gw_A G s.heap.size) s.heap H locs)
    (kk : ∀ (H1 : Heap) (locs1 : List Loc), gw_P G ov H1 → va_S (gw_A G s.heap.size) s.heap H1 locs1 → W p l e R s m args below meth c H1 locs1 cells slots Q (F0 m (pc + 3) ls rest)) : W p l e R s m args below meth c H locs cells slots Q (F0 m pc ls st0) := by
  refine va_callv hr hS (fun q _ h => gw_Asub hS.1 q h) (gw_Asub hS.1) (fun u t H1 locs1 ht hvm hw hB hz hk hS1 => ?_)
  subst hw
  subst ht
  exact kk _ _ hB hS1
-- ends
variable {rt : FieldType} {σ' : gw_S} {v : Int32}
theorem gw_ri (X : gw_X p s m args meth c cc nL own (some .int) G) (hP : gw_P G σ' H) (hS : va_S (gw_A G s.heap.size) s.heap H locs) (h : some (v, σ') = some o) (hdg : decode cc pc = .ok (.ireturn, 1)) : W p l e R s m args below meth c H locs 0 0 (MQ below (gw_QI G s.heap.size o) args s 0 0 (gw_A G s.heap.size)) (F0 m pc ls [.int v]) :=
  W.iret (v := v) X.1 X.2.1 X.2.2.2.2.2.1 (fun t ht _ => ⟨⟨v, σ', rfl, (Option.some.inj h).symm, by subst ht; exact hP⟩, hS.F ht⟩) hS.2.2 hdg X.2.2.2.2.2.2.1
theorem gw_rz (X : gw_X p s m args meth c cc nL own (some .boolean) G) (hP : gw_P G σ' H) (hS : va_S (gw_A G s.heap.size) s.heap H locs) (hb : gw_b v) (h : some (v, σ') = some o) (hdg : decode cc pc = .ok (.ireturn, 1)) : W p l e R s m args below meth c H locs 0 0 (MQ below (gw_QZ G s.heap.size o) args s 0 0 (gw_A G s.heap.size)) (F0 m pc ls [.int v]) :=
  W.zret (v := v) X.1 X.2.1 X.2.2.2.2.2.1 hb (fun t ht _ => ⟨⟨v, σ', rfl, ⟨(Option.some.inj h).symm, hb⟩, by subst ht; exact hP⟩, hS.F ht⟩) hS.2.2 hdg X.2.2.2.2.2.2.1
theorem gw_rv (X : gw_X p s m args meth c cc nL own none G) (hP : gw_P G σ' H) (hS : va_S (gw_A G s.heap.size) s.heap H locs) (h : some σ' = some ov) (hdg : decode cc pc = .ok (.return_, 1)) : W p l e R s m args below meth c H locs 0 0 (MQ below (gw_QV G s.heap.size ov) args s 0 0 (gw_A G s.heap.size)) (F0 m pc ls []) :=
  W.vret X.1 X.2.1 X.2.2.2.2.2.1 (fun t ht _ => ⟨⟨σ', rfl, (Option.some.inj h).symm, by subst ht; exact hP⟩, hS.F ht⟩) hS.2.2 hdg X.2.2.2.2.2.2.1
end GWC
