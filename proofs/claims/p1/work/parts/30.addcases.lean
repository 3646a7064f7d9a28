/-! The law's cases in which the reference's lists change or are gone through. -/
theorem ga_thr : Cond.fieldLink RX11 26 "GenericwoodModel" "thrown" "I" ∈ gw_L := gw_tab 1179 (by decide +kernel) (by decide +kernel)
theorem ga_149 : Cond.methodLink RL 149 yX11_thrown ∈ gw_L := gw_tab 1191 (by decide +kernel) (by decide +kernel)
theorem ga_vt : Cond.instanceMethod yX11_thrown ∈ gw_L ∧ Cond.selects RX11 yX11_thrown yX11_thrown ∈ gw_L := ⟨gw_tab 1192 (by decide +kernel) (by decide +kernel), gw_tab 1193 (by decide +kernel) (by decide +kernel)⟩
set_option maxHeartbeats 4000000 in
set_option maxRecDepth 100000 in
theorem lm_thrown (l : Launch) (D : va_G) (h a1 a2 a3 a4 : Nat) (t0 : Int32) (sz : Nat) : Met l yX11_thrown (.code yX11_thrown cX11_thrown 1 (some .int) :: gw_L) { frames := 0, cells := 0, slots := 0, locals := 0 } (va_Pc [.ref h] (la_PreS D sz [(h, .inr (13, [.ref a1, .ref a2, .ref a3, .ref a4, .int t0]))])) (va_Qi (fun r (_ : Unit) => r = t0) (fun _ _ => True) (fun _ => False)) 0 0 (fun _ => False) := by
  refine Met.ofW (cc := cX11_thrown) (maxL := 1) (ret := some .int) (by decide +kernel) rfl ?_
  intro p e s m args below meth c s₁ B hml hv
  obtain ⟨rfl, hsz, hP, hK⟩ := hv
  have hx := B.exec
  have hb := B.bytes
  have hr := B.returns
  have hts0 := atoms_spec (ws := .code yX11_thrown cX11_thrown 1 (some .int) :: gw_L) B.pre
  have hts : ∀ w ∈ gw_L, w.before _ s = true := fun w hw => hts0 w (List.mem_cons_of_mem _ hw)
  have hown : s.vm.findClass RX11 = some m.cls := findClass_of_methodNamed B.named
  have hlocks := B.notSynchronized
  have hl := lv_entry ([.ref h]) (n := 1) (Nat.le_of_ble_eq_true rfl)
  rw [lg_entry_eq]
  generalize (lg_sl ([.ref h]) ++ List.replicate (1 - (lg_sl ([.ref h])).length) Slot.unset).toArray = ls at hl ⊢
  have hl : lv_has ls 1 [(0, .ref h)] := hl
  refine lv_aload_n hx hb dX11_thrown_0 rfl (lv_at hl 0 rfl) ?_
  refine va_get (D := D) (ci := 13) (v := .int t0) (C := RX11) (T := TX11) (N := 5) hx hb hts gx_X11 hown hK hP 0 rfl rfl 4 (by decide) (hts _ ga_thr) (fun _ h9 => h9) rfl dX11_thrown_1 ?_
  exact W.iret (v := t0) hx hb hr (fun t ht _ => ⟨⟨t0, (), rfl, rfl, trivial⟩, ⟨by rw [ht]; exact Nat.le_refl _, fun q _ _ => by rw [ht]⟩⟩) (fun q hq => nomatch hq) dX11_thrown_4
section LA
variable {p : Program} {l : Launch} {e : Env} {s : State} {m : MethodId} {below : List Frame} {meth : Method} {c : Code} {H : Heap} {cells slots : Nat} {Q : State → Prop}
variable {L b pc : Nat} {xs : Nat → Int32} {G : gw_G} {cL cD : ClassId} {ho hd hq : Nat} {ls : Array Slot} {st0 rest As : List Value} {x : va_E} {σ : gw_S}
theorem lc_pre (K : lc_C p s m meth c b L xs G cL cD ho hd) (hY : lm_Y (G.2.1 99) (fun q => s.heap.size ≤ q) s s.heap) (hP : gw_P G σ H) (hS : va_S (fun q => s.heap.size ≤ q) s.heap H []) : ∀ U : State, U.heap = H → s.WarmedH U.vm → lm_Pre G H.size σ U := fun U hU hW =>
  ⟨gl_pre hP K.1.2.2.2.2.2.1 K.1.2.2.2.2.2.2 hS (lc_A K hS) U hU hW, by subst hU; exact hY.go hS.2.1 (lc_A K hS) hW.alike⟩
theorem lc_add {rm : Room} {y : MethodName} {bytes : ByteArray} {maxL n index mc ms : Nat} {rt : Option FieldType} {v : Int32} (K : lc_C p s m meth c b L xs G cL cD ho hd) (hY : lm_Y (G.2.1 99) (fun q => s.heap.size ≤ q) s s.heap) (hP : gw_P G σ H) (hPo : va_P G.1 vwCl [(hq, x)] H) (hap : ∀ k, k < 38 → G.2.1 k ≠ hq) (hS : va_S (fun q => s.heap.size ≤ q) s.heap H [])
    (hM : ∀ sz : Nat, Met l y (.code y bytes maxL rt :: gw_L) rm (va_Pc (.ref (G.2.1 33) :: As) (lm_Pre G sz σ)) (va_Qi (fun r (_ : Unit) => r = v) (fun _ t => va_P G.1 vwCl (lm_W3 G 0) t.heap) (gw_A G sz)) mc ms (gw_A G sz)) (q : gw_K y bytes maxL rt n) (hl : Cond.methodLink RL index y ∈ gw_L) (hv : Cond.instanceMethod y ∈ gw_L ∧ Cond.selects RX11 y y ∈ gw_L)
    (hn : As.length = n) (hst : st0 = As.reverse ++ .ref (G.2.1 33) :: rest) (hW : (rest.map fun v => v.category).sum ≤ 8) (hls : ls.size = 9) (hc : rm.cells = mc ∧ rm.slots = ms) (hR : rm.frames + 1 ≤ room_1.frames ∧ 8 + (maxL + 11) + rm.locals ≤ room_1.locals) (hf : cells + mc ≤ room_1.cells ∧ slots + ms ≤ room_1.slots) (hdg : decode code pc = .ok (.invokevirtual index, 3))
    (kk : ∀ H1 : Heap, va_P G.1 vwCl (lm_W3 G 0) H1 → va_P G.1 vwCl [(hq, x)] H1 → va_S (fun q => s.heap.size ≤ q) s.heap H1 [] → W p l e room_1 s m #[Value.ref b] below meth c H1 [] (cells + mc) (slots + ms) Q (F0 m (pc + 3) ls (.int v :: rest))) : W p l e room_1 s m #[Value.ref b] below meth c H [] cells slots Q (F0 m pc ls st0) := by
  have hts := K.1.2.2.2.2.1
  have hT : gw_T G s := K.1.2.2.2.2.2.1
  refine va_calli (va_runV (gl_fix K.1) (hM H.size) (la_cw hts q hl hv hc.1 hc.2 hR) ⟨lm_blind _ G _ σ, va_recv hT.2.1 hP (ci := 13) (q0 := 33) rfl rfl, fun U hU hWm => ⟨rfl, lc_pre K hY hP hS U hU hWm⟩⟩ rfl hn hls hst (lv_room hW) hdg hf) hS (fun q _ h => lc_A K hS q h) (lc_A K hS) (fun r z t H1 locs1 ht hvm hw hB hz hk hS1 => ?_)
  have hw : r = v := hw
  subst hw
  rw [ht] at hB
  exact va_forget (fun q hq => hS1.2.2 q hq) (kk _ hB (lo_kept hPo hap hk) (lc_nil hS1))
theorem lc_thr {v : Int32} (K : lc_C p s m meth c b L xs G cL cD ho hd) (h3 : va_P G.1 vwCl (lm_W3 G v) H) (hPo : va_P G.1 vwCl [(hq, x)] H) (hS : va_S (fun q => s.heap.size ≤ q) s.heap H []) (hst : st0 = .ref (G.2.1 33) :: rest) (hW : (rest.map fun v => v.category).sum ≤ 8) (hls : ls.size = 9) (hf : cells + 0 ≤ room_1.cells ∧ slots + 0 ≤ room_1.slots) (hdg : decode code pc = .ok (.invokevirtual 149, 3))
    (kk : ∀ H1 : Heap, va_P G.1 vwCl [(hq, x)] H1 → va_S (fun q => s.heap.size ≤ q) s.heap H1 [] → W p l e room_1 s m #[Value.ref b] below meth c H1 [] cells slots Q (F0 m (pc + 3) ls (.int v :: rest))) : W p l e room_1 s m #[Value.ref b] below meth c H [] cells slots Q (F0 m pc ls st0) := by
  have hts := K.1.2.2.2.2.1
  have hT : gw_T G s := K.1.2.2.2.2.2.1
  refine va_calli (va_runV (C := RX11) (As := []) (gl_fix K.1) (lm_thrown l G.1 (G.2.1 33) (G.2.1 34) (G.2.1 35) (G.2.1 36) (G.2.1 37) v H.size) (la_cw hts gk_X11_thrown ga_149 ga_vt rfl rfl ⟨Nat.le_of_ble_eq_true rfl, Nat.le_of_ble_eq_true rfl⟩) ⟨la_blindS _ _ _ _, va_recv (hT.2.1.sub (tys' := []) [] rfl) h3 (ci := 13) (q0 := 0) rfl rfl, fun U hU hWm => ⟨rfl, by rw [hU], by rw [hU]; exact h3, (hT.2.1.sub [] rfl).moved hWm.alike⟩⟩ rfl rfl hls hst (lv_room hW) hdg hf) hS (fun _ _ z => z.elim) (fun _ z => z.elim) (fun r z t H1 locs1 ht hvm hw hB hz hk hS1 => ?_)
  have hw : r = v := hw
  subst hw
  refine va_forget (fun q hq => hS1.2.2 q hq) (kk _ (fun k q hq => (hPo k q hq).kept (hk _ (hPo k q hq).lt (fun z => z))) (lc_nil hS1))
end LA
section LB
variable {p : Program} {l : Launch} {e : Env} {s : State} {m : MethodId} {below : List Frame} {meth : Method} {c : Code} {H : Heap} {cells slots : Nat} {Q : State → Prop}
variable {L b pc : Nat} {xs : Nat → Int32} {G : gw_G} {cL cD : ClassId} {ho hd hq : Nat} {ls : Array Slot} {st0 rest As : List Value} {x : va_E} {σ : gw_S}
theorem lc_addl {rm : Room} {y : MethodName} {bytes : ByteArray} {maxL n index mc ms : Nat} {rt : Option FieldType} {v : Int64} (K : lc_C p s m meth c b L xs G cL cD ho hd) (hY : lm_Y (G.2.1 99) (fun q => s.heap.size ≤ q) s s.heap) (hP : gw_P G σ H) (hS : va_S (fun q => s.heap.size ≤ q) s.heap H [])
    (hM : ∀ sz : Nat, Met l y (.code y bytes maxL rt :: gw_L) rm (va_Pc (.ref (G.2.1 33) :: As) (lm_Pre G sz σ)) (va_Ql (fun r (_ : Unit) => r = v) (fun _ _ => True) (gw_A G sz)) mc ms (gw_A G sz)) (q : gw_K y bytes maxL rt n) (hl : Cond.methodLink RL index y ∈ gw_L) (hv : Cond.instanceMethod y ∈ gw_L ∧ Cond.selects RX11 y y ∈ gw_L)
    (hn : As.length = n) (hst : st0 = As.reverse ++ .ref (G.2.1 33) :: rest) (hW : (rest.map fun v => v.category).sum ≤ 8) (hls : ls.size = 9) (hc : rm.cells = mc ∧ rm.slots = ms) (hR : rm.frames + 1 ≤ room_1.frames ∧ 8 + (maxL + 11) + rm.locals ≤ room_1.locals) (hf : cells + mc ≤ room_1.cells ∧ slots + ms ≤ room_1.slots) (hdg : decode code pc = .ok (.invokevirtual index, 3))
    (kk : ∀ H1 : Heap, va_S (fun q => s.heap.size ≤ q) s.heap H1 [] → W p l e room_1 s m #[Value.ref b] below meth c H1 [] (cells + mc) (slots + ms) Q (F0 m (pc + 3) ls (.long v :: rest))) : W p l e room_1 s m #[Value.ref b] below meth c H [] cells slots Q (F0 m pc ls st0) := by
  have hts := K.1.2.2.2.2.1
  have hT : gw_T G s := K.1.2.2.2.2.2.1
  refine va_calll (va_runV (gl_fix K.1) (hM H.size) (la_cw hts q hl hv hc.1 hc.2 hR) ⟨lm_blind _ G _ σ, va_recv hT.2.1 hP (ci := 13) (q0 := 33) rfl rfl, fun U hU hWm => ⟨rfl, lc_pre K hY hP hS U hU hWm⟩⟩ rfl hn hls hst (lv_room hW) hdg hf) hS (fun q _ h => lc_A K hS q h) (lc_A K hS) (fun r z t H1 locs1 ht hvm hw hB hz hk hS1 => ?_)
  have hw : r = v := hw
  subst hw
  exact va_forget (fun q hq => hS1.2.2 q hq) (kk _ (lc_nil hS1))
end LB
