/-! The law's own methods: beside the class's world and the reference's lies the row of one answer. -/
def lo_ex : List String := ["java/lang/IndexOutOfBoundsException", "java/lang/IllegalArgumentException", "java/lang/UnsupportedOperationException", "java/lang/IllegalStateException", "java/util/NoSuchElementException"]
def lo_N (U : State) : Prop := ∀ (i j : Nat) (a b : String), lo_ex[i]? = some a → lo_ex[j]? = some b → i ≠ j → va_Nc a b U
theorem lo_N.moved {u U : State} (hvm : u.vm.Alike U.vm) (h : lo_N u) : lo_N U := fun i j a b ha hb hij => (h i j a b ha hb hij).moved hvm
def gl_X (p : Program) (s : State) (m : MethodId) (args : Array Value) (c : Code) (cc : ByteArray) (nL : Nat) (own : String) (G : gw_G) (A : Nat → Prop) : Prop :=
  p.tables.exec = Jvm.exec ∧ c.code = cc ∧ c.maxLocals = nL ∧ s.vm.findClass own = some m.cls ∧ (∀ w ∈ gw_L, w.before args s = true) ∧ gw_T G s ∧ gw_Z A s s.heap
theorem gl_pre {G : gw_G} {s : State} {H : Heap} {locs : List Loc} {σ : gw_S} {A : Nat → Prop} (hP : gw_P G σ H) (hT : gw_T G s) (hZ : gw_Z A s s.heap) (hS : va_S A s.heap H locs) (hA : ∀ q, gw_A G H.size q → A q) : ∀ U : State, U.heap = H → s.WarmedH U.vm → gw_Pre G H.size σ U := fun U hU hW => by
  subst hU
  exact ⟨rfl, hP, hT.warm hW, hZ.go hS.2.1 hA hW.alike⟩
section GL
variable {p : Program} {l : Launch} {e : Env} {R : Room} {s : State} {m : MethodId} {args : Array Value} {below : List Frame} {meth : Method} {c : Code} {H : Heap} {locs : List Loc} {cells slots : Nat} {Q : State → Prop}
variable {cc bytes : ByteArray} {nL maxL n index k : Nat} {own C : String} {ret : Option FieldType} {G : gw_G} {y : MethodName} {rm : Room} {Qc : Nat → Array Value → State → Outcome → State → Prop} {XC : Nat → String → State → State → Prop} {σ : gw_S} {As rest st0 : List Value} {b pc : Nat} {ls : Array Slot} {A : Nat → Prop} {a : Array Value}
theorem gl_fix (X : gl_X p s m args c cc nL own G A) : CallFix p m c cc nL s args gw_L own := ⟨X.1, X.2.1, X.2.2.1, X.2.2.2.1, X.2.2.2.2.1⟩
theorem gl_cb (X : gl_X p s m args c cc nL own G A) (q : gw_K y bytes maxL ret n) (hl : Cond.methodLink own index y ∈ gw_L) {mc ms : Nat} (hrc : rm.cells = mc) (hrs : rm.slots = ms) (hR : rm.frames + 1 ≤ R.frames ∧ 8 + (maxL + 11) + rm.locals ≤ R.locals) : CallB R s args own index y bytes maxL ret (.code y bytes maxL ret :: gw_L) rm mc ms n :=
  have hts := X.2.2.2.2.1
  ⟨hrc, hrs, hR.1, hR.2, fun w hw a' U hW => (List.mem_cons.mp hw).elim (fun e => by rw [e]; exact gw_all hW hts _ q.1) (fun h => gw_all hW hts _ h), List.mem_cons_self, hts _ q.1, hts _ q.2.1, q.2.2.1, gw_sig q.2.2.2, hts _ hl⟩
theorem gl_rV (X : gl_X p s m args c cc nL own G A) (hP : gw_P G σ H) (hS : va_S A s.heap H locs) (hA : ∀ q, gw_A G H.size q → A q) (hM : gw_M Qc l y bytes maxL ret rm G (.ref b :: As) σ) (q : gw_K y bytes maxL ret n) (hl : Cond.methodLink own index y ∈ gw_L) (hv : Cond.instanceMethod y ∈ gw_L ∧ Cond.selects C y y ∈ gw_L)
    (hr : ∃ cellB : Cell, H[b]? = some cellB ∧ cellB.vm.isStatics = false ∧ s.vm.findClass C = some cellB.cls) (hn : As.length = n) (hst : st0 = As.reverse ++ .ref b :: rest) (hW : (rest.map fun v => v.category).sum ≤ 8) (hls : ls.size = nL) (hc : rm.cells = 0 ∧ rm.slots = 0) (hR : rm.frames + 1 ≤ R.frames ∧ 8 + (maxL + 11) + rm.locals ≤ R.locals) (hf : cells + 0 ≤ R.cells ∧ slots + 0 ≤ R.slots) (hdg : decode cc pc = .ok (.invokevirtual index, 3)) :
    va_Run p l e R s m args below meth c H locs cells slots 0 0 (F0 m pc ls st0) rest (Qc H.size (Value.ref b :: As).toArray) (gw_A G H.size) := by
  have hts := X.2.2.2.2.1
  exact va_runV (gl_fix X) (hM H.size) ⟨gl_cb X q hl hc.1 hc.2 hR, hts _ hv.1, hts _ hv.2⟩ ⟨gw_blind _ G _ σ, hr, fun U hU hWm => ⟨rfl, gl_pre hP X.2.2.2.2.2.1 X.2.2.2.2.2.2 hS hA U hU hWm⟩⟩ rfl hn hls hst (lv_room hW) hdg hf
theorem gl_xV (X : gl_X p s m args c cc nL own G A) (hP : gw_P G σ H) (hS : va_S A s.heap H locs) (hA : ∀ q, gw_A G H.size q → A q) (hM : gw_N Qc XC k l y bytes maxL ret rm G (.ref b :: As) σ) (q : gw_K y bytes maxL ret n) (hl : Cond.methodLink own index y ∈ gw_L) (hv : Cond.instanceMethod y ∈ gw_L ∧ Cond.selects C y y ∈ gw_L)
    (hr : ∃ cellB : Cell, H[b]? = some cellB ∧ cellB.vm.isStatics = false ∧ s.vm.findClass C = some cellB.cls) (hn : As.length = n) (hst : st0 = As.reverse ++ .ref b :: rest) (hW : (rest.map fun v => v.category).sum ≤ 8) (hls : ls.size = nL) (hc : rm.cells = k ∧ rm.slots = 6 * k) (hR : rm.frames + 1 ≤ R.frames ∧ 8 + (maxL + 11) + rm.locals ≤ R.locals) (hf : cells + k ≤ R.cells ∧ slots + 6 * k ≤ R.slots) (hdg : decode cc pc = .ok (.invokevirtual index, 3)) :
    vx_Run p l e R s m args below meth c H locs cells slots k (6 * k) (F0 m pc ls st0) rest (Qc H.size (Value.ref b :: As).toArray) (XC H.size) (gw_A G H.size) := by
  have hts := X.2.2.2.2.1
  exact vx_runV (gl_fix X) (hM H.size) ⟨gl_cb X q hl hc.1 hc.2 hR, hts _ hv.1, hts _ hv.2⟩ ⟨gw_blind _ G _ σ, hr, fun U hU hWm => ⟨rfl, gl_pre hP X.2.2.2.2.2.1 X.2.2.2.2.2.2 hS hA U hU hWm⟩⟩ rfl hn hls hst (lv_room hW) hdg hf
end GL
/-- one more cell behind a world -/
theorem lo_PJ {D : va_G} {cl : List vw_C} {ws : va_W} {x : Nat × va_E} {H : Heap} (h1 : va_P D cl ws H) (h2 : va_P D cl [x] H) : va_P D cl (ws ++ [x]) H := by
  intro k q hk
  by_cases hlt : k < ws.length
  · rw [List.getElem?_append_left hlt] at hk
    exact h1 k q hk
  · rw [List.getElem?_append_right (Nat.not_lt.mp hlt)] at hk
    exact h2 _ q hk
theorem lo_PL {D : va_G} {cl : List vw_C} {ws : va_W} {x : Nat × va_E} {H : Heap} (h : va_P D cl (ws ++ [x]) H) : va_P D cl ws H := fun k q hk => h k q (by rw [List.getElem?_append_left (List.getElem?_eq_some_iff.mp hk).1]; exact hk)
theorem lo_PR {D : va_G} {cl : List vw_C} {ws : va_W} {x : Nat × va_E} {H : Heap} (h : va_P D cl (ws ++ [x]) H) : va_P D cl [x] H := fun k q hk => h (ws.length + k) q (by rw [List.getElem?_append_right (Nat.le_add_right _ _), Nat.add_sub_cancel_left]; exact hk)
def lo_A (G : gw_G) (ho sz : Nat) : Nat → Prop := fun q => gw_A G sz q ∨ q = ho
theorem lo_at (G : gw_G) (ho : Nat) (u : gw_S) (x : va_E) : ∀ (k : Nat) (q : Nat × va_E), (gw_W G u ++ [(ho, x)])[k]? = some q → (k < 38 ∧ q.1 = G.2.1 k) ∨ (k = 38 ∧ q.1 = ho) := by
  intro k q hk
  have hlen : (gw_W G u).length = 38 := rfl
  by_cases hlt : k < 38
  · rw [List.getElem?_append_left (by rw [hlen]; exact hlt)] at hk
    exact Or.inl (gw_at G u k q hk)
  · rw [List.getElem?_append_right (by rw [hlen]; exact Nat.not_lt.mp hlt), hlen] at hk
    have h1 := (List.getElem?_eq_some_iff.mp hk).1
    have h2 : k - 38 < 1 := h1
    have h3 : k = 38 := by omega
    subst h3
    have h4 : (ho, x) = q := Option.some.inj hk
    exact Or.inr ⟨rfl, by rw [← h4]⟩
theorem lo_DJ {G : gw_G} {ho : Nat} (hI : gw_I G) (hap : ∀ k, k < 38 → G.2.1 k ≠ ho) (sz : Nat) (u : gw_S) (x : va_E) : va_D (lo_A G ho sz) (gw_W G u ++ [(ho, x)]) := by
  refine ⟨fun i j p q hi hj e => ?_, fun k q hk => ?_⟩
  · rcases lo_at G ho u x i p hi with ⟨h1, h2⟩ | ⟨h1, h2⟩
    · rcases lo_at G ho u x j q hj with ⟨h3, h4⟩ | ⟨h3, h4⟩
      · exact hI i j h1 h3 (by rw [← h2, ← h4]; exact e)
      · exact absurd (h2.symm.trans (e.trans h4)) (hap i h1)
    · rcases lo_at G ho u x j q hj with ⟨h3, h4⟩ | ⟨h3, h4⟩
      · exact absurd (h4.symm.trans (e.symm.trans h2)) (hap j h3)
      · rw [h1, h3]
  · rcases lo_at G ho u x k q hk with ⟨h1, h2⟩ | ⟨h1, h2⟩
    · exact Or.inl (Or.inl ⟨k, h1, h2⟩)
    · exact Or.inr h2
def lo_Pre (G : gw_G) (ty : FieldType) (cL : ClassId) (ho : Nat) (x : va_E) (sz : Nat) (σ : gw_S) (U : State) : Prop := U.heap.size = sz ∧ gw_P G σ U.heap ∧ va_P G.1 vwCl [(ho, x)] U.heap ∧ gw_T G U ∧ gw_Z (lo_A G ho sz) U U.heap ∧ va_K G.1 vwCl [(cL, ty)] U ∧ lo_N U ∧ ∀ k, k < 38 → G.2.1 k ≠ ho
theorem lo_blind (As : List Value) (G : gw_G) (ty : FieldType) (cL : ClassId) (ho : Nat) (x : va_E) (sz : Nat) (σ : gw_S) : FrameBlind (va_Pc As (lo_Pre G ty cL ho x sz σ)) := fun a U g mk q => ⟨q.1, q.2.1, q.2.2.1, q.2.2.2.1, q.2.2.2.2.1.call, q.2.2.2.2.2.1.call, va_K.moved (u := U) (U := U.calling g mk a) (Vm.Alike.refl U.vm) q.2.2.2.2.2.2.1, lo_N.moved (u := U) (U := U.calling g mk a) (Vm.Alike.refl U.vm) q.2.2.2.2.2.2.2.1, q.2.2.2.2.2.2.2.2⟩
def lo_XC (G : gw_G) (ho sz : Nat) : String → State → State → Prop := vx_X (fun (_ : Unit) => False) (fun _ _ _ => True) (lo_A G ho sz)
def lo_Q (G : gw_G) (ho : Nat) (r : Int32) (u : gw_S) (x : va_E) (sz : Nat) : Array Value → State → Outcome → State → Prop := va_Qi (fun (v : Int32) (_ : Unit) => v = r) (fun _ t => gw_P G u t.heap ∧ va_P G.1 vwCl [(ho, x)] t.heap) (lo_A G ho sz)
set_option maxHeartbeats 1000000 in
theorem gl_en {Qc : Nat → Array Value → State → Outcome → State → Prop} {k : Nat} {l : Launch} {y : MethodName} {cc : ByteArray} {maxL : Nat} {hh : List (Nat × Nat × Nat × Nat)} {rm : Room} {G : gw_G} {As : List Value} {σ : gw_S} {own : String} {lv : List (Nat × Value)} {ty : FieldType} {cL : ClassId} {ho : Nat} {x : va_E} (hy : plainName y.cls = true) (hown : y.cls = own) (hlen : (lg_sl As).length ≤ maxL) (hlv : lv_args 0 As = lv)
    (body : ∀ (p : Program) (e : Env) (s : State) (m : MethodId) (below : List Frame) (meth : Method) (c : Code) (ls : Array Slot), gl_X p s m As.toArray c cc maxL own G (lo_A G ho s.heap.size) → meth.sig.returnType = some .int → meth.locks = false → c.exceptionTable.toList = tableOf hh → lv_has ls maxL lv → lo_Pre G ty cL ho x s.heap.size σ s →
      W p l e rm s m As.toArray below meth c s.heap [] 0 0 (vx_MQ below (Qc s.heap.size) (lo_XC G ho s.heap.size) As.toArray s k (6 * k) (lo_A G ho s.heap.size)) (F0 m 0 ls [])) :
    ∀ sz : Nat, vx_Met l y (.codeWith y cc maxL (some .int) hh :: gw_L) rm (va_Pc As (lo_Pre G ty cL ho x sz σ)) (Qc sz) (lo_XC G ho sz) k (6 * k) (lo_A G ho sz) := by
  intro sz
  subst hown
  subst hlv
  refine vx_ofWH (cc := cc) (maxL := maxL) (ret := some .int) (hh := hh) hy rfl ?_
  intro p e s m args below meth c s₁ B hml hv
  obtain ⟨rfl, hsz, hP, hPo, hT, hZ, hKo, hN, hap⟩ := hv
  subst hsz
  have hts := atoms_spec (ws := .codeWith y cc maxL (some .int) hh :: gw_L) B.pre
  have hl := lv_entry As (n := maxL) hlen
  rw [lg_entry_eq]
  exact body p e s m below meth c _ ⟨B.exec, B.bytes, hml, findClass_of_methodNamed B.named, fun w hw => hts w (List.mem_cons_of_mem _ hw), hT, hZ⟩ B.returns B.notSynchronized (vx_table (x := y) B (hts _ List.mem_cons_self)) hl ⟨rfl, hP, hPo, hT, hZ, hKo, hN, hap⟩
/-- a cell that a call can't have touched -/
theorem lo_kept {D : va_G} {cl : List vw_C} {G : gw_G} {ho : Nat} {x : va_E} {H H1 : Heap} (h : va_P D cl [(ho, x)] H) (hap : ∀ k, k < 38 → G.2.1 k ≠ ho) (hk : ∀ q : Nat, q < H.size → ¬ gw_A G H.size q → H1[q]? = H[q]?) : va_P D cl [(ho, x)] H1 := fun k q hq => by
  have hlt : q.1 < H.size := (h k q hq).lt
  have hq1 : q.1 = ho := by
    have h1 := (List.getElem?_eq_some_iff.mp hq).1
    have h2 : k < 1 := h1
    have h3 : k = 0 := by omega
    subst h3
    have h4 : (ho, x) = q := Option.some.inj hq
    rw [← h4]
  refine (h k q hq).kept (hk _ hlt ?_)
  rintro (⟨j, hj, he⟩ | hle)
  · exact hap j hj (he.symm.trans hq1)
  · exact absurd hlt (Nat.not_lt.mpr hle)
