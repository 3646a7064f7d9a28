/-! Calls of methods that may throw, and the throw itself. -/
def gw_bx {β : Type} (o : (Unit ⊕ String) × gw_S) (k : gw_S → Option ((β ⊕ String) × gw_S)) : Option ((β ⊕ String) × gw_S) := match o with
  | (.inl _, u) => k u
  | (.inr E, u) => some (.inr E, u)
def gw_tail (X : String) (names : List String) : List Cond := ((Bundle.ownAtoms "" 0 X names).filter vx_no).filter (fun w => decide (w ≠ .methodLink "" 0 (Bundle.initS X)))
theorem gw_atS {own X : String} {ic : Nat} {names : List String} {P : Cond → Prop} (hd : (vx_atS own ic X names).all (fun w => decide (w ≠ .methodLink "" 0 (Bundle.initS X))) = true) (hl : P (.methodLink own ic (Bundle.initS X))) (hr : ∀ w ∈ gw_tail X names, P w) : ∀ w ∈ vx_atS own ic X names, P w := by
  intro w hw
  by_cases e : w = .methodLink own ic (Bundle.initS X)
  · rw [e]; exact hl
  · refine hr w ?_
    obtain ⟨h1, h2⟩ := List.mem_filter.mp hw
    by_cases e2 : w = .methodLink "" 0 (Bundle.initS X)
    · have h3 := List.all_eq_true.mp hd w hw
      simp [e2] at h3
    · refine List.mem_filter.mpr ⟨List.mem_filter.mpr ⟨?_, h2⟩, by simp [e2]⟩
      unfold Bundle.ownAtoms at h1 ⊢
      simp only [List.mem_append, List.mem_cons, List.not_mem_nil, or_false] at h1 ⊢
      rcases h1 with h1 | h1
      · exact Or.inl h1
      · rcases h1 with h1 | h1
        · exact absurd h1 e
        · exact Or.inr (Or.inr h1)
section GWX
variable {p : Program} {l : Launch} {e : Env} {R : Room} {s : State} {m : MethodId} {args : Array Value} {below : List Frame} {meth : Method} {c : Code} {H : Heap} {locs : List Loc} {cells slots : Nat} {Q : State → Prop}
variable {cc bytes : ByteArray} {nL maxL n index k : Nat} {own C owner host : String} {ret ret0 : Option FieldType} {G : gw_G} {x y : MethodName} {rm : Room} {Qc : Nat → Array Value → State → Outcome → State → Prop} {XC : Nat → String → State → State → Prop} {σ σ' : gw_S} {As rest st0 : List Value} {b pc : Nat} {ls : Array Slot} {a : Array Value}
theorem gw_xV_ (X : gw_X p s m args meth c cc nL own ret0 G) (hP : gw_P G σ H) (hS : va_S (gw_A G s.heap.size) s.heap H locs) (hM : gw_N Qc XC k l y bytes maxL ret rm G (.ref b :: As) σ) (q : gw_K y bytes maxL ret n) (hl : Cond.methodLink own index y ∈ gw_L) (hv : Cond.instanceMethod y ∈ gw_L ∧ Cond.selects C y y ∈ gw_L)
    (hr : ∃ cellB : Cell, H[b]? = some cellB ∧ cellB.vm.isStatics = false ∧ s.vm.findClass C = some cellB.cls) (hn : As.length = n) (hst : st0 = As.reverse ++ .ref b :: rest) (hW : (rest.map fun v => v.category).sum ≤ 8) (hls : ls.size = nL) (hc : rm.cells = k ∧ rm.slots = 6 * k) (hR : rm.frames + 1 ≤ R.frames ∧ 8 + (maxL + 11) + rm.locals ≤ R.locals) (hf : cells + k ≤ R.cells ∧ slots + 6 * k ≤ R.slots) (hdg : decode cc pc = .ok (.invokevirtual index, 3)) :
    vx_Run p l e R s m args below meth c H locs cells slots k (6 * k) (F0 m pc ls st0) rest (Qc H.size (Value.ref b :: As).toArray) (XC H.size) (gw_A G H.size) := by
  have hts := X.2.2.2.2.1
  exact vx_runV (gw_fix X) (hM H.size) ⟨gw_cb X q hl hc.1 hc.2 hR, hts _ hv.1, hts _ hv.2⟩ ⟨gw_blind _ G _ σ, hr, fun U hU hWm => ⟨rfl, gw_pre hP X.2.2.2.2.2.2.2.1 X.2.2.2.2.2.2.2.2.1 hS U hU hWm⟩⟩ rfl hn hls hst (lv_room hW) hdg hf
theorem gw_xS_ (X : gw_X p s m args meth c cc nL own ret0 G) (hP : gw_P G σ H) (hS : va_S (gw_A G s.heap.size) s.heap H locs) (hM : gw_N Qc XC k l y bytes maxL ret rm G As σ) (q : gw_K y bytes maxL ret n) (hl : Cond.methodLink own index y ∈ gw_L) (hv : Cond.static y ∈ gw_L)
    (hn : As.length = n) (hst : st0 = As.reverse ++ rest) (hW : (rest.map fun v => v.category).sum ≤ 8) (hls : ls.size = nL) (hc : rm.cells = k ∧ rm.slots = 6 * k) (hR : rm.frames + 1 ≤ R.frames ∧ 8 + (maxL + 11) + rm.locals ≤ R.locals) (hf : cells + k ≤ R.cells ∧ slots + 6 * k ≤ R.slots) (hdg : decode cc pc = .ok (.invokestatic index, 3)) :
    vx_Run p l e R s m args below meth c H locs cells slots k (6 * k) (F0 m pc ls st0) rest (Qc H.size As.toArray) (XC H.size) (gw_A G H.size) := by
  have hts := X.2.2.2.2.1
  exact vx_runS (gw_fix X) (hM H.size) ⟨gw_cb X q hl hc.1 hc.2 hR, hts _ hv⟩ ⟨gw_blind _ G _ σ, fun U hU hWm => ⟨rfl, gw_pre hP X.2.2.2.2.2.2.2.1 X.2.2.2.2.2.2.2.2.1 hS U hU hWm⟩⟩ rfl hn hls hst (lv_room hW) hdg hf
variable {β : Type} {Xd : String → State → State → Prop} {o1 : (Unit ⊕ String) × gw_S} {oo : (β ⊕ String) × gw_S} {kf : gw_S → Option ((β ⊕ String) × gw_S)} {Qd : Array Value → State → Outcome → State → Prop} {mc ms K N : Nat}
/-- a call of a void method that may throw; what it throws goes on -/
theorem gw_cx (X : gw_X p s m args meth c cc nL own ret0 G) (hh : gw_bx o1 kf = some oo) (hr : vx_Run p l e R s m args below meth c H locs cells slots mc ms (F0 m pc ls st0) rest (gw_xV G H.size o1 a) (gw_XC G H.size o1) (gw_A G H.size)) (hS : va_S (gw_A G s.heap.size) s.heap H locs) (h1 : cells + mc ≤ K) (h2 : slots + ms ≤ N)
    (kk : ∀ (u : gw_S) (H1 : Heap) (locs1 : List Loc), kf u = some oo → gw_P G u H1 → va_S (gw_A G s.heap.size) s.heap H1 locs1 → W p l e R s m args below meth c H1 locs1 (cells + mc) (slots + ms) (vx_MQ below Qd (gw_XC G s.heap.size oo) args s K N (gw_A G s.heap.size)) (F0 m (pc + 3) ls rest)) :
    W p l e R s m args below meth c H locs cells slots (vx_MQ below Qd (gw_XC G s.heap.size oo) args s K N (gw_A G s.heap.size)) (F0 m pc ls st0) := by
  refine vx_callv hr hS (fun q _ h => gw_Asub hS.1 q h) (gw_Asub hS.1) (fun q _ h => gw_Asub hS.1 q h) (fun E ce q9 u t H1 locs1 ht hvm hp hB hz hk hS1 hcell hcv hcl => ?_) (fun u t H1 locs1 ht hvm hw hB hz hk hS1 => ?_)
  · obtain ⟨hB1, hB2⟩ := hB
    subst hB1
    subst ht
    have hq : some (Sum.inr E, u) = some oo := hh
    refine vx_out (fun x hx => (X.2.2.2.2.2.2.2.2.2 x hx).elim) X.2.2.2.2.2.2.1 hcell hcv hcl (fun t2 ht2 _ => ⟨u, trivial, ⟨(Option.some.inj hq).symm, by rw [ht2]; exact hB2⟩, ?_⟩) hS1.2.2 h1 h2
    exact hS1.F ht2
  · subst hw
    subst ht
    exact kk u _ _ hh hB hS1
theorem gw_xri {v : Int32} {o : (Int32 ⊕ String) × gw_S} (X : gw_X p s m args meth c cc nL own (some .int) G) (hP : gw_P G σ' H) (hS : va_S (gw_A G s.heap.size) s.heap H locs) (h1 : cells ≤ K) (h2 : slots ≤ N) (h : some (Sum.inl v, σ') = some o) (hdg : decode cc pc = .ok (.ireturn, 1)) : W p l e R s m args below meth c H locs cells slots (vx_MQ below (gw_xI G s.heap.size o) Xd args s K N (gw_A G s.heap.size)) (F0 m pc ls [.int v]) :=
  W.widen h1 h2 (vx_ret (W.iret (v := v) X.1 X.2.1 X.2.2.2.2.2.1 (fun t ht _ => ⟨⟨v, σ', rfl, (Option.some.inj h).symm, by subst ht; exact hP⟩, hS.F ht⟩) hS.2.2 hdg X.2.2.2.2.2.2.1))
theorem gw_xrz {v : Int32} {o : (Int32 ⊕ String) × gw_S} (X : gw_X p s m args meth c cc nL own (some .boolean) G) (hP : gw_P G σ' H) (hS : va_S (gw_A G s.heap.size) s.heap H locs) (hb : gw_b v) (h1 : cells ≤ K) (h2 : slots ≤ N) (h : some (Sum.inl v, σ') = some o) (hdg : decode cc pc = .ok (.ireturn, 1)) : W p l e R s m args below meth c H locs cells slots (vx_MQ below (gw_xZ G s.heap.size o) Xd args s K N (gw_A G s.heap.size)) (F0 m pc ls [.int v]) :=
  W.widen h1 h2 (vx_ret (W.zret (v := v) X.1 X.2.1 X.2.2.2.2.2.1 hb (fun t ht _ => ⟨⟨v, σ', rfl, ⟨(Option.some.inj h).symm, hb⟩, by subst ht; exact hP⟩, hS.F ht⟩) hS.2.2 hdg X.2.2.2.2.2.2.1))
theorem gw_xrv {o : (Unit ⊕ String) × gw_S} (X : gw_X p s m args meth c cc nL own none G) (hP : gw_P G σ' H) (hS : va_S (gw_A G s.heap.size) s.heap H locs) (h1 : cells ≤ K) (h2 : slots ≤ N) (h : some (Sum.inl (), σ') = some o) (hdg : decode cc pc = .ok (.return_, 1)) : W p l e R s m args below meth c H locs cells slots (vx_MQ below (gw_xV G s.heap.size o) Xd args s K N (gw_A G s.heap.size)) (F0 m pc ls []) :=
  W.widen h1 h2 (vx_ret (W.vret X.1 X.2.1 X.2.2.2.2.2.1 (fun t ht _ => ⟨⟨σ', rfl, (Option.some.inj h).symm, by subst ht; exact hP⟩, hS.F ht⟩) hS.2.2 hdg X.2.2.2.2.2.2.1))
theorem gw_kept {H1 : Heap} (hP : gw_P G σ' H) (hk : ∀ q : Nat, q < H.size → H1[q]? = H[q]?) : gw_P G σ' H1 := fun k q hq => (hP k q hq).kept (hk _ (hP k q hq).lt)
def gw_ex : List String := ["java/lang/RuntimeException", "java/lang/Exception"]
theorem gw_exf : ∀ n ∈ gw_ex, Bundle.fit n = true := by decide +kernel
/-- the words of a throw of that class, at that place -/
def gw_E (own cls : String) (ik ic : Nat) : Prop := Cond.classLink own ik cls ∈ gw_L ∧ Cond.initialized cls ∈ gw_L ∧ (∀ w ∈ vx_atS own ic cls gw_ex, w ∈ gw_L) ∧ (∀ w ∈ Cond.classLink own ik cls :: Cond.initialized cls :: vx_atS own ic cls gw_ex, vx_ot w = true) ∧ Bundle.fit cls = true
/-- throw new E("text") -/
theorem gw_thr {cls text : String} {ik is ic i : Nat} (X : gw_X p s m args meth c cc nL own ret0 G) (hP : gw_P G σ' H) (hS : va_S (gw_A G s.heap.size) s.heap H locs) (hl : l.stackTraces = false) (hq : gw_E own cls ik ic) (hi : gw_str[i]? = some (own, is, text)) (h : some (Sum.inr cls, σ') = some oo) (hls : ls.size = nL)
    (d0 : decode cc pc = .ok (.new ik, 3)) (d3 : decode cc (pc + 3) = .ok (.dup, 1)) (d4 : decode cc (pc + 4) = .ok (.ldc is, 2)) (d6 : decode cc (pc + 6) = .ok (.invokespecial ic, 3)) (d9 : decode cc (pc + 9) = .ok (.athrow, 1))
    (hR : 5 < R.frames ∧ (rest.map fun v => v.category).sum + 82 ≤ R.locals) (hc : cells + 1 ≤ R.cells ∧ slots + 6 ≤ R.slots) (h1 : cells + 1 ≤ K) (h2 : slots + 6 ≤ N) :
    W p l e R s m args below meth c H locs cells slots (vx_MQ below Qd (gw_XC G s.heap.size oo) args s K N (gw_A G s.heap.size)) (F0 m pc ls rest) := by
  have hts := X.2.2.2.2.1
  have hZ := X.2.2.2.2.2.2.2.2.1
  have hT := X.2.2.2.2.2.2.2.1
  refine vx_throwS (names := gw_ex) X.1 X.2.1 hl X.2.2.2.1 hq.2.2.2.2 gw_exf (hts _ hq.1) (hts _ hq.2.1) (hT.2.2 i _ hi) (fun w hw => hts _ (hq.2.2.1 w hw)) hq.2.2.2.1 hZ.1 hZ.2 hS (hls.trans X.2.2.1.symm) d0 d3 d4 d6 d9 (fun x hx => (X.2.2.2.2.2.2.2.2.2 x hx).elim) hR.1 hR.2 hc.1 hc.2 X.2.2.2.2.2.2.1 (fun t _ hz hk => ⟨σ', trivial, ⟨(Option.some.inj h).symm, gw_kept hP hk⟩, ⟨Nat.le_trans hS.1 hz, fun q hq1 hq2 => (hk q (Nat.lt_of_lt_of_le hq1 hS.1)).trans (hS.2.1 q hq1 hq2)⟩⟩) hS.2.2 h1 h2
theorem gw_thrW {cls text : String} {ik is ic i : Nat} (X : gw_X p s m args meth c cc nL own ret0 G) (hP : gw_P G σ' H) (hS : va_S (gw_A G s.heap.size) s.heap H locs) (hl : l.stackTraces = false) (hq : gw_E own cls ik ic) (hi : gw_str[i]? = some (own, is, text)) (h : some (Sum.inr cls, σ') = some oo) (hls : ls.size = nL)
    (d0 : decode cc pc = .ok (.new ik, 3)) (d3 : decode cc (pc + 3) = .ok (.dup, 1)) (d4 : decode cc (pc + 4) = .ok (.ldc_w is, 3)) (d7 : decode cc (pc + 7) = .ok (.invokespecial ic, 3)) (d10 : decode cc (pc + 10) = .ok (.athrow, 1))
    (hR : 5 < R.frames ∧ (rest.map fun v => v.category).sum + 82 ≤ R.locals) (hc : cells + 1 ≤ R.cells ∧ slots + 6 ≤ R.slots) (h1 : cells + 1 ≤ K) (h2 : slots + 6 ≤ N) :
    W p l e R s m args below meth c H locs cells slots (vx_MQ below Qd (gw_XC G s.heap.size oo) args s K N (gw_A G s.heap.size)) (F0 m pc ls rest) := by
  have hts := X.2.2.2.2.1
  have hZ := X.2.2.2.2.2.2.2.2.1
  have hT := X.2.2.2.2.2.2.2.1
  refine vx_throwSW (names := gw_ex) X.1 X.2.1 hl X.2.2.2.1 hq.2.2.2.2 gw_exf (hts _ hq.1) (hts _ hq.2.1) (hT.2.2 i _ hi) (fun w hw => hts _ (hq.2.2.1 w hw)) hq.2.2.2.1 hZ.1 hZ.2 hS (hls.trans X.2.2.1.symm) d0 d3 d4 d7 d10 (fun x hx => (X.2.2.2.2.2.2.2.2.2 x hx).elim) hR.1 hR.2 hc.1 hc.2 X.2.2.2.2.2.2.1 (fun t _ hz hk => ⟨σ', trivial, ⟨(Option.some.inj h).symm, gw_kept hP hk⟩, ⟨Nat.le_trans hS.1 hz, fun q hq1 hq2 => (hk q (Nat.lt_of_lt_of_le hq1 hS.1)).trans (hS.2.1 q hq1 hq2)⟩⟩) hS.2.2 h1 h2
end GWX
