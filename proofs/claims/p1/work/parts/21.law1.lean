/-! The law's body: what stands at each of its cases, the calls out of it, its end. -/
def lc_C (p : Program) (s : State) (m : MethodId) (meth : Method) (c : Code) (b L : Nat) (xs : Nat → Int32) (G : gw_G) (cL cD : ClassId) (ho hd : Nat) : Prop :=
  gl_X p s m #[Value.ref b] c code 9 RL G (fun q => s.heap.size ≤ q) ∧ meth.sig.returnType = ret ∧ meth.locks = false ∧ va_X b L xs s s.heap ∧ b < s.heap.size ∧ va_K G.1 vwCl [(cL, .long), (cD, .double)] s ∧ lo_N s ∧ (∀ k, k < 38 → G.2.1 k ≠ ho) ∧ (∀ k, k < 38 → G.2.1 k ≠ hd) ∧ ho ≠ hd ∧ (∀ k, k < 38 → s.heap.size ≤ G.2.1 k) ∧ s.heap.size ≤ ho ∧ s.heap.size ≤ hd
section LC
variable {p : Program} {l : Launch} {e : Env} {s : State} {m : MethodId} {below : List Frame} {meth : Method} {c : Code} {H : Heap} {cells slots : Nat} {Q : State → Prop}
variable {L b pc : Nat} {xs : Nat → Int32} {G : gw_G} {cL cD cX : ClassId} {ho hd hq : Nat} {ls : Array Slot} {st0 rest As : List Value} {x x2 : va_E} {ty : FieldType} {σ u : gw_S}
theorem lc_nil {A : Nat → Prop} {locs : List Loc} {H0 : Heap} (hS : va_S A H0 H locs) : va_S A H0 H [] := ⟨hS.1, hS.2.1, fun _ h => nomatch h⟩
theorem lc_A (K : lc_C p s m meth c b L xs G cL cD ho hd) {A : Nat → Prop} (hS : va_S A s.heap H []) : ∀ q, gw_A G H.size q → s.heap.size ≤ q := by
  obtain ⟨-, -, -, -, -, -, -, -, -, -, hG, -, -⟩ := K
  rintro q (⟨k, hk, rfl⟩ | h)
  · exact hG k hk
  · exact Nat.le_trans hS.1 h
/-- an int of the script -/
theorem lc_sld (K : lc_C p s m meth c b L xs G cL cD ho hd) (hS : va_S (fun q => s.heap.size ≤ q) s.heap H []) {i : Int32} {j : Nat} (hj : i.toNatClampNeg = j) (hin : vp_in i L) (hdg : decode code pc = .ok (.iaload, 1))
    (kk : W p l e room_1 s m #[Value.ref b] below meth c H [] cells slots Q (F0 m (pc + 1) ls (.int (xs j) :: rest))) : W p l e room_1 s m #[Value.ref b] below meth c H [] cells slots Q (F0 m pc ls (.int i :: .ref b :: rest)) := by
  subst hj
  exact va_sld K.1.1 K.1.2.1 K.2.2.2.1 K.2.2.2.2.1 (Nat.not_le.mpr K.2.2.2.2.1) hS hin hdg kk
/-- a call of one of the law's own methods that catch -/
theorem lc_call {rm : Room} {y : MethodName} {cc : ByteArray} {maxL n index k : Nat} {hh : List (Nat × Nat × Nat × Nat)} {r : Int32} (K : lc_C p s m meth c b L xs G cL cD ho hd) (hP : gw_P G σ H) (hPo : va_P G.1 vwCl [(hq, x)] H) (hS : va_S (fun q => s.heap.size ≤ q) s.heap H []) (hKo : va_K G.1 vwCl [(cX, ty)] s) (hap : ∀ k, k < 38 → G.2.1 k ≠ hq) (hso : s.heap.size ≤ hq)
    (hM : ∀ sz : Nat, vx_Met l y (.codeWith y cc maxL (some .int) hh :: gw_L) rm (va_Pc As (lo_Pre G ty cX hq x sz σ)) (lo_Q G hq r u x2 sz) (lo_XC G hq sz) k (6 * k) (lo_A G hq sz))
    (q : Cond.codeWith y cc maxL (some .int) hh ∈ gw_L ∧ Cond.initialized y.cls ∈ gw_L ∧ (y.cls ≠ "java/lang/invoke/MethodHandle" ∧ y.cls ≠ "java/lang/invoke/VarHandle") ∧ (parseMethodDescriptor y.desc).map (fun d => d.parameters.length) = some n) (hl : Cond.methodLink RL index y ∈ gw_L) (hv : Cond.static y ∈ gw_L)
    (hn : As.length = n) (hst : st0 = As.reverse ++ rest) (hW : (rest.map fun v => v.category).sum ≤ 8) (hls : ls.size = 9) (hc : rm.cells = k ∧ rm.slots = 6 * k) (hR : rm.frames + 1 ≤ room_1.frames ∧ 8 + (maxL + 11) + rm.locals ≤ room_1.locals) (hf : cells + k ≤ room_1.cells ∧ slots + 6 * k ≤ room_1.slots) (hdg : decode code pc = .ok (.invokestatic index, 3))
    (kk : ∀ H1 : Heap, gw_P G u H1 → va_P G.1 vwCl [(hq, x2)] H1 → (∀ a : Nat, a < H.size → ¬ lo_A G hq H.size a → H1[a]? = H[a]?) → va_S (fun q => s.heap.size ≤ q) s.heap H1 [] → W p l e room_1 s m #[Value.ref b] below meth c H1 [] (cells + k) (slots + 6 * k) Q (F0 m (pc + 3) ls (.int r :: rest))) :
    W p l e room_1 s m #[Value.ref b] below meth c H [] cells slots Q (F0 m pc ls st0) := by
  have X := K.1
  have hts := X.2.2.2.2.1
  have hT : gw_T G s := X.2.2.2.2.2.1
  have hZ := X.2.2.2.2.2.2
  have hN : lo_N s := K.2.2.2.2.2.2.1
  have hA : ∀ q, lo_A G hq H.size q → s.heap.size ≤ q := fun q h => h.elim (lc_A K hS q) (fun h => by rw [h]; exact hso)
  refine vx_calli (vx_runSX (gl_fix X) (hM H.size) ⟨⟨hc.1, hc.2, hR.1, hR.2, fun w hw a' U hU => (List.mem_cons.mp hw).elim (fun e => by rw [e]; exact gw_all hU hts _ q.1) (fun h => gw_all hU hts _ h), List.mem_cons_self⟩, hts _ q.1, hts _ q.2.1, q.2.2.1, gw_sig q.2.2.2, hts _ hl, hts _ hv⟩
    ⟨lo_blind _ G ty cX hq x _ σ, fun U hU hWm => ⟨rfl, ?_⟩⟩ rfl hn hls hst (lv_room hW) hdg hf) hS (fun q _ h => hA q h) hA (fun q _ h => hA q h) (fun E ce q9 z t H1 locs1 ht hvm hp hB hz hk hS1 hcell hcv hcl => hp.elim) (fun v z t H1 locs1 ht hvm hv hB hz hk hS1 => ?_)
  · subst hU
    exact ⟨rfl, hP, hPo, hT.warm hWm, hZ.go hS.2.1 hA hWm.alike, hKo.moved hWm.alike, hN.moved hWm.alike, hap⟩
  · have hv : v = r := hv
    subst hv
    subst ht
    exact va_forget (fun q hq => hS1.2.2 q hq) (kk _ hB.1 hB.2 hk (lc_nil hS1))
/-- a call that answers an int, of the class or of the reference -/
theorem lc_ci {rm : Room} {y : MethodName} {bytes : ByteArray} {maxL n index d : Nat} {C : String} {rt : Option FieldType} {o : Int32 × gw_S} (K : lc_C p s m meth c b L xs G cL cD ho hd) (hP : gw_P G σ H) (hPo : va_P G.1 vwCl [(hq, x)] H) (hap : ∀ k, k < 38 → G.2.1 k ≠ hq) (hS : va_S (fun q => s.heap.size ≤ q) s.heap H [])
    (hM : gw_M (fun sz => gw_QI G sz o) l y bytes maxL rt rm G (.ref d :: As) σ) (q : gw_K y bytes maxL rt n) (hl : Cond.methodLink RL index y ∈ gw_L) (hv : Cond.instanceMethod y ∈ gw_L ∧ Cond.selects C y y ∈ gw_L) (hr : ∃ cellB : Cell, H[d]? = some cellB ∧ cellB.vm.isStatics = false ∧ s.vm.findClass C = some cellB.cls)
    (hn : As.length = n) (hst : st0 = As.reverse ++ .ref d :: rest) (hW : (rest.map fun v => v.category).sum ≤ 8) (hls : ls.size = 9) (hc : rm.cells = 0 ∧ rm.slots = 0) (hR : rm.frames + 1 ≤ room_1.frames ∧ 8 + (maxL + 11) + rm.locals ≤ room_1.locals) (hf : cells + 0 ≤ room_1.cells ∧ slots + 0 ≤ room_1.slots) (hdg : decode code pc = .ok (.invokevirtual index, 3))
    (kk : ∀ H1 : Heap, gw_P G o.2 H1 → va_P G.1 vwCl [(hq, x)] H1 → va_S (fun q => s.heap.size ≤ q) s.heap H1 [] → W p l e room_1 s m #[Value.ref b] below meth c H1 [] cells slots Q (F0 m (pc + 3) ls (.int o.1 :: rest))) : W p l e room_1 s m #[Value.ref b] below meth c H [] cells slots Q (F0 m pc ls st0) := by
  refine va_calli (gl_rV K.1 hP hS (lc_A K hS) hM q hl hv hr hn hst hW hls hc hR hf hdg) hS (fun q _ h => lc_A K hS q h) (lc_A K hS) (fun r z t H1 locs1 ht hvm hw hB hz hk hS1 => ?_)
  subst hw
  subst ht
  exact va_forget (fun q hq => hS1.2.2 q hq) (kk _ hB (lo_kept hPo hap hk) (lc_nil hS1))
theorem lc_cz {rm : Room} {y : MethodName} {bytes : ByteArray} {maxL n index d : Nat} {C : String} {rt : Option FieldType} {o : Int32 × gw_S} (K : lc_C p s m meth c b L xs G cL cD ho hd) (hP : gw_P G σ H) (hPo : va_P G.1 vwCl [(hq, x)] H) (hap : ∀ k, k < 38 → G.2.1 k ≠ hq) (hS : va_S (fun q => s.heap.size ≤ q) s.heap H [])
    (hM : gw_M (fun sz => gw_QZ G sz o) l y bytes maxL rt rm G (.ref d :: As) σ) (q : gw_K y bytes maxL rt n) (hl : Cond.methodLink RL index y ∈ gw_L) (hv : Cond.instanceMethod y ∈ gw_L ∧ Cond.selects C y y ∈ gw_L) (hr : ∃ cellB : Cell, H[d]? = some cellB ∧ cellB.vm.isStatics = false ∧ s.vm.findClass C = some cellB.cls)
    (hn : As.length = n) (hst : st0 = As.reverse ++ .ref d :: rest) (hW : (rest.map fun v => v.category).sum ≤ 8) (hls : ls.size = 9) (hc : rm.cells = 0 ∧ rm.slots = 0) (hR : rm.frames + 1 ≤ room_1.frames ∧ 8 + (maxL + 11) + rm.locals ≤ room_1.locals) (hf : cells + 0 ≤ room_1.cells ∧ slots + 0 ≤ room_1.slots) (hdg : decode code pc = .ok (.invokevirtual index, 3))
    (kk : ∀ H1 : Heap, gw_P G o.2 H1 → va_P G.1 vwCl [(hq, x)] H1 → va_S (fun q => s.heap.size ≤ q) s.heap H1 [] → W p l e room_1 s m #[Value.ref b] below meth c H1 [] cells slots Q (F0 m (pc + 3) ls (.int o.1 :: rest))) : W p l e room_1 s m #[Value.ref b] below meth c H [] cells slots Q (F0 m pc ls st0) := by
  refine va_calli (gl_rV K.1 hP hS (lc_A K hS) hM q hl hv hr hn hst hW hls hc hR hf hdg) hS (fun q _ h => lc_A K hS q h) (lc_A K hS) (fun r z t H1 locs1 ht hvm hw hB hz hk hS1 => ?_)
  obtain ⟨hw, -⟩ := hw
  subst hw
  subst ht
  exact va_forget (fun q hq => hS1.2.2 q hq) (kk _ hB (lo_kept hPo hap hk) (lc_nil hS1))
theorem lc_cl {rm : Room} {y : MethodName} {bytes : ByteArray} {maxL n index d : Nat} {C : String} {rt : Option FieldType} {o : Int64 × gw_S} (K : lc_C p s m meth c b L xs G cL cD ho hd) (hP : gw_P G σ H) (hPo : va_P G.1 vwCl [(hq, x)] H) (hap : ∀ k, k < 38 → G.2.1 k ≠ hq) (hS : va_S (fun q => s.heap.size ≤ q) s.heap H [])
    (hM : gw_M (fun sz => gw_QL G sz o) l y bytes maxL rt rm G (.ref d :: As) σ) (q : gw_K y bytes maxL rt n) (hl : Cond.methodLink RL index y ∈ gw_L) (hv : Cond.instanceMethod y ∈ gw_L ∧ Cond.selects C y y ∈ gw_L) (hr : ∃ cellB : Cell, H[d]? = some cellB ∧ cellB.vm.isStatics = false ∧ s.vm.findClass C = some cellB.cls)
    (hn : As.length = n) (hst : st0 = As.reverse ++ .ref d :: rest) (hW : (rest.map fun v => v.category).sum ≤ 8) (hls : ls.size = 9) (hc : rm.cells = 0 ∧ rm.slots = 0) (hR : rm.frames + 1 ≤ room_1.frames ∧ 8 + (maxL + 11) + rm.locals ≤ room_1.locals) (hf : cells + 0 ≤ room_1.cells ∧ slots + 0 ≤ room_1.slots) (hdg : decode code pc = .ok (.invokevirtual index, 3))
    (kk : ∀ H1 : Heap, gw_P G o.2 H1 → va_P G.1 vwCl [(hq, x)] H1 → va_S (fun q => s.heap.size ≤ q) s.heap H1 [] → W p l e room_1 s m #[Value.ref b] below meth c H1 [] cells slots Q (F0 m (pc + 3) ls (.long o.1 :: rest))) : W p l e room_1 s m #[Value.ref b] below meth c H [] cells slots Q (F0 m pc ls st0) := by
  refine va_calll (gl_rV K.1 hP hS (lc_A K hS) hM q hl hv hr hn hst hW hls hc hR hf hdg) hS (fun q _ h => lc_A K hS q h) (lc_A K hS) (fun r z t H1 locs1 ht hvm hw hB hz hk hS1 => ?_)
  subst hw
  subst ht
  exact va_forget (fun q hq => hS1.2.2 q hq) (kk _ hB (lo_kept hPo hap hk) (lc_nil hS1))
theorem lc_cf {rm : Room} {y : MethodName} {bytes : ByteArray} {maxL n index d : Nat} {C : String} {rt : Option FieldType} {o : UInt32 × gw_S} (K : lc_C p s m meth c b L xs G cL cD ho hd) (hP : gw_P G σ H) (hPo : va_P G.1 vwCl [(hq, x)] H) (hap : ∀ k, k < 38 → G.2.1 k ≠ hq) (hS : va_S (fun q => s.heap.size ≤ q) s.heap H [])
    (hM : gw_M (fun sz => gw_QF G sz o) l y bytes maxL rt rm G (.ref d :: As) σ) (q : gw_K y bytes maxL rt n) (hl : Cond.methodLink RL index y ∈ gw_L) (hv : Cond.instanceMethod y ∈ gw_L ∧ Cond.selects C y y ∈ gw_L) (hr : ∃ cellB : Cell, H[d]? = some cellB ∧ cellB.vm.isStatics = false ∧ s.vm.findClass C = some cellB.cls)
    (hn : As.length = n) (hst : st0 = As.reverse ++ .ref d :: rest) (hW : (rest.map fun v => v.category).sum ≤ 8) (hls : ls.size = 9) (hc : rm.cells = 0 ∧ rm.slots = 0) (hR : rm.frames + 1 ≤ room_1.frames ∧ 8 + (maxL + 11) + rm.locals ≤ room_1.locals) (hf : cells + 0 ≤ room_1.cells ∧ slots + 0 ≤ room_1.slots) (hdg : decode code pc = .ok (.invokevirtual index, 3))
    (kk : ∀ H1 : Heap, gw_P G o.2 H1 → va_P G.1 vwCl [(hq, x)] H1 → va_S (fun q => s.heap.size ≤ q) s.heap H1 [] → W p l e room_1 s m #[Value.ref b] below meth c H1 [] cells slots Q (F0 m (pc + 3) ls (.float o.1 :: rest))) : W p l e room_1 s m #[Value.ref b] below meth c H [] cells slots Q (F0 m pc ls st0) := by
  refine va_callf (gl_rV K.1 hP hS (lc_A K hS) hM q hl hv hr hn hst hW hls hc hR hf hdg) hS (fun q _ h => lc_A K hS q h) (lc_A K hS) (fun r z t H1 locs1 ht hvm hw hB hz hk hS1 => ?_)
  subst hw
  subst ht
  exact va_forget (fun q hq => hS1.2.2 q hq) (kk _ hB (lo_kept hPo hap hk) (lc_nil hS1))
theorem lc_cd {rm : Room} {y : MethodName} {bytes : ByteArray} {maxL n index d : Nat} {C : String} {rt : Option FieldType} {o : UInt64 × gw_S} (K : lc_C p s m meth c b L xs G cL cD ho hd) (hP : gw_P G σ H) (hPo : va_P G.1 vwCl [(hq, x)] H) (hap : ∀ k, k < 38 → G.2.1 k ≠ hq) (hS : va_S (fun q => s.heap.size ≤ q) s.heap H [])
    (hM : gw_M (fun sz => gw_QD G sz o) l y bytes maxL rt rm G (.ref d :: As) σ) (q : gw_K y bytes maxL rt n) (hl : Cond.methodLink RL index y ∈ gw_L) (hv : Cond.instanceMethod y ∈ gw_L ∧ Cond.selects C y y ∈ gw_L) (hr : ∃ cellB : Cell, H[d]? = some cellB ∧ cellB.vm.isStatics = false ∧ s.vm.findClass C = some cellB.cls)
    (hn : As.length = n) (hst : st0 = As.reverse ++ .ref d :: rest) (hW : (rest.map fun v => v.category).sum ≤ 8) (hls : ls.size = 9) (hc : rm.cells = 0 ∧ rm.slots = 0) (hR : rm.frames + 1 ≤ room_1.frames ∧ 8 + (maxL + 11) + rm.locals ≤ room_1.locals) (hf : cells + 0 ≤ room_1.cells ∧ slots + 0 ≤ room_1.slots) (hdg : decode code pc = .ok (.invokevirtual index, 3))
    (kk : ∀ H1 : Heap, gw_P G o.2 H1 → va_P G.1 vwCl [(hq, x)] H1 → va_S (fun q => s.heap.size ≤ q) s.heap H1 [] → W p l e room_1 s m #[Value.ref b] below meth c H1 [] cells slots Q (F0 m (pc + 3) ls (.double o.1 :: rest))) : W p l e room_1 s m #[Value.ref b] below meth c H [] cells slots Q (F0 m pc ls st0) := by
  refine va_calld (gl_rV K.1 hP hS (lc_A K hS) hM q hl hv hr hn hst hW hls hc hR hf hdg) hS (fun q _ h => lc_A K hS q h) (lc_A K hS) (fun r z t H1 locs1 ht hvm hw hB hz hk hS1 => ?_)
  subst hw
  subst ht
  exact va_forget (fun q hq => hS1.2.2 q hq) (kk _ hB (lo_kept hPo hap hk) (lc_nil hS1))
/-- the end: no further call, true -/
theorem lc_end (K : lc_C p s m meth c b L xs G cL cD ho hd) (hL : L = 5) (hS : va_S (fun q => s.heap.size ≤ q) s.heap H []) (hl : lv_has ls 9 [(5, .int 0), (0, .ref b)]) (h1 : cells ≤ 600002) (h2 : slots ≤ 7302232) : W p l e room_1 s m #[Value.ref b] below meth c H [] cells slots (lw_Z below #[Value.ref b] s) (F0 m 2737 ls []) := by
  obtain ⟨X, hr, hlocks, hX, hbl, -⟩ := K
  obtain ⟨hx, hb, -⟩ := X
  subst hL
  refine lv_iinc (v := 5) (lv' := [(5, .int 5), (0, .ref b)]) hx hb dL_law_2737 hl (k := 0) rfl rfl (by decide) rfl (fun ls hl => ?_)
  refine lv_goto (tgt := 28) hx hb dL_law_2740 (by decide) ?_
  refine lv_iload hx hb dL_law_28 (lv_at hl 0 rfl) ?_
  refine lv_aload_n hx hb dL_law_30 rfl (lv_at hl 1 rfl) ?_
  refine va_slen hx hb hX hbl (Nat.not_le.mpr hbl) hS dL_law_31 ?_
  refine lv_iconst (v := 5) hx hb dL_law_32 (by decide) ?_
  refine lv_isub hx hb dL_law_33 ?_
  refine lv_icmp_gt (tgt := 2743) hx hb dL_law_34 (by decide) (fun _ => ?_) (fun h => absurd (by decide) h)
  refine lv_iconst (v := 1) hx hb dL_law_2743 (by decide) ?_
  exact W.widen h1 h2 (lw_ret (d0 := s.drawn) (Drawn.sameBut.refl s.drawn lw_cs) hx hb hr hlocks dL_law_2744)
end LC
