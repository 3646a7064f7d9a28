theorem gv_549 : Cond.methodLink RL 143 yL_condition ∈ gw_L := gw_tab 549 (by decide +kernel) (by decide +kernel)
theorem gv_550 : Cond.static yL_condition ∈ gw_L := gw_tab 550 (by decide +kernel) (by decide +kernel)
theorem gv_551 : Cond.codeWith yL_condition cL_condition 3 (some .int) [(0, 8, 11, 13)] ∈ gw_L := gw_tab 551 (by decide +kernel) (by decide +kernel)
theorem gv_1198 : Cond.code yX11_condition cX11_condition 1 (some .int) ∈ gw_L := gw_tab 1198 (by decide +kernel) (by decide +kernel)
theorem gk_X11_condition : gw_K yX11_condition cX11_condition 1 (some .int) 0 := ⟨gv_1198, gv_10, by decide +kernel, by decide +kernel⟩
theorem gv_1195 : Cond.methodLink RL 148 yX11_condition ∈ gw_L := gw_tab 1195 (by decide +kernel) (by decide +kernel)
theorem gv_1196 : Cond.instanceMethod yX11_condition ∈ gw_L := gw_tab 1196 (by decide +kernel) (by decide +kernel)
theorem gv_1197 : Cond.selects RX11 yX11_condition yX11_condition ∈ gw_L := gw_tab 1197 (by decide +kernel) (by decide +kernel)
set_option maxHeartbeats 4000000 in
set_option maxRecDepth 100000 in
theorem la_0_condition (l : Launch) (hfl : l.stackTraces = false) {p : Program} {e : Env} {s : State} {m : MethodId} {below : List Frame} {meth : Method} {c : Code} {H : Heap} {b : Nat} {xs : Nat → Int32} {G : gw_G} {cL cD : ClassId} {ho hd : Nat} {ls : Array Slot} (K : lc_C p s m meth c b 5 xs G cL cD ho hd) (hP : gw_P G lo_z H) (hPo : va_P G.1 vwCl [(ho, .inl (cL, 1, .inr (.inl (fun _ => 0))))] H) (hS : va_S (fun q => s.heap.size ≤ q) s.heap H []) (hl : lv_has ls 9 [(5, .int 0), (4, .ref hd), (3, .ref ho), (2, .ref (G.2.1 33)), (1, .ref (G.2.1 0)), (0, .ref b)]) (hY : lm_Y (G.2.1 99) (fun q => s.heap.size ≤ q) s s.heap) (f2 : Nat → Int64) (o : (Int32 ⊕ String) × gw_S) (h8 : f_X8_condition lo_z = some o) (hw : w_condition (fun _ => 0) o.1 = some (0, f2)) (e1 : o.2 34 0 = 0) (e2 : o.2 34 2 = 0) (hv : f2 0 = (0 : Int32).toInt64) : W p l e room_1 s m #[Value.ref b] below meth c H [] 40 1183 (lw_Z below #[Value.ref b] s) (F0 m 232 ls []) := by
  obtain ⟨X, -, -, -, -, hKo2, -, hap1, hap2, -, -, hg1, hg2⟩ := id K
  obtain ⟨hx, hb, -, hown, hts, hT, -⟩ := id X
  refine lv_aload_n hx hb dL_law_232 rfl (lv_at hl 4 rfl) ?_
  refine lv_aload_n hx hb dL_law_233 rfl (lv_at hl 2 rfl) ?_
  refine lc_call (n := 2) (hq := ho) (x := .inl (cL, 1, .inr (.inl (fun _ => 0)))) (As := [.ref (G.2.1 0), .ref ho]) (rest := []) K hP hPo hS (hKo2.sub [0] rfl) hap1 hg1 (gl_condition l hfl G cL ho (fun _ => 0) f2 0 lo_z o h8 hw) ⟨gv_551, gv_0, by decide +kernel, by decide +kernel⟩ gv_549 gv_550 rfl rfl (Nat.le_of_ble_eq_true rfl) hl.1 ⟨rfl, rfl⟩ ⟨Nat.le_of_ble_eq_true rfl, Nat.le_of_ble_eq_true rfl⟩ ⟨Nat.le_of_ble_eq_true rfl, Nat.le_of_ble_eq_true rfl⟩ dL_law_234 (fun H hP hPo _ hS => ?_)
  refine lv_istore (lv' := [(6, .int 0), (5, .int 0), (4, .ref hd), (3, .ref ho), (2, .ref (G.2.1 33)), (1, .ref (G.2.1 0)), (0, .ref b)]) hx hb dL_law_237 hl (by decide) rfl (fun ls hl => ?_)
  refine lv_aload_n hx hb dL_law_239 rfl (lv_at hl 4 rfl) ?_
  refine lc_add (As := []) (rest := []) K hY hP hPo hap1 hS (lm_condition l G o.2 e1 e2) gk_X11_condition gv_1195 ⟨gv_1196, gv_1197⟩ rfl rfl (Nat.le_of_ble_eq_true rfl) hl.1 ⟨rfl, rfl⟩ ⟨Nat.le_of_ble_eq_true rfl, Nat.le_of_ble_eq_true rfl⟩ ⟨Nat.le_of_ble_eq_true rfl, Nat.le_of_ble_eq_true rfl⟩ dL_law_240 (fun H h3 hPo hS => ?_)
  refine lv_istore (lv' := [(7, .int 0), (6, .int 0), (5, .int 0), (4, .ref hd), (3, .ref ho), (2, .ref (G.2.1 33)), (1, .ref (G.2.1 0)), (0, .ref b)]) hx hb dL_law_243 hl (by decide) rfl (fun ls hl => ?_)
  refine lv_aload_n hx hb dL_law_245 rfl (lv_at hl 5 rfl) ?_
  refine lc_thr (rest := []) K h3 hPo hS rfl (Nat.le_of_ble_eq_true rfl) hl.1 ⟨Nat.le_of_ble_eq_true rfl, Nat.le_of_ble_eq_true rfl⟩ dL_law_246 (fun H hPo hS => ?_)
  refine lv_iload hx hb dL_law_249 (lv_at hl 1 rfl) ?_
  refine lv_icmp_eq (tgt := 256) hx hb dL_law_251 (by decide) (fun _ => ?_) (fun z => absurd rfl z)
  refine lv_iload hx hb dL_law_256 (lv_at hl 1 rfl) ?_
  refine lv_if_ne (tgt := 273) hx hb dL_law_258 (by decide) (fun z => absurd rfl z) (fun _ => ?_)
  refine lv_aload_n hx hb dL_law_261 rfl (lv_at hl 4 rfl) ?_
  refine lv_iconst (v := 0) hx hb dL_law_262 (by decide) ?_
  refine va_lald (D := G.1) hx hb hKo2 hPo 0 0 (n := 1) (f := f2) rfl rfl (by unfold vp_in; decide) dL_law_263 ?_
  refine lv_iload hx hb dL_law_264 (lv_at hl 0 rfl) ?_
  refine lv_i2l hx hb dL_law_266 rfl ?_
  refine W.lcmp hx hb dL_law_267 ?_
  refine lv_if_eq (tgt := 273) hx hb dL_law_268 (by decide) (fun _ => ?_) (fun z => absurd (by rw [show f2 (0 : Int32).toNatClampNeg = f2 0 from rfl, hv]; exact lc_cmp _) z)
  refine lv_goto (tgt := 2737) hx hb dL_law_273 (by decide) ?_
  exact lc_end K rfl hS (lv_sub hl [2, 7] rfl) (Nat.le_of_ble_eq_true rfl) (Nat.le_of_ble_eq_true rfl)

theorem lz_0 (l : Launch) (hfl : l.stackTraces = false) {p : Program} {e : Env} {s : State} {m : MethodId} {below : List Frame} {meth : Method} {c : Code} {H : Heap} {b : Nat} {xs : Nat → Int32} {G : gw_G} {cL cD : ClassId} {ho hd : Nat} {ls : Array Slot} (K : lc_C p s m meth c b 5 xs G cL cD ho hd) (hY : lm_Y (G.2.1 99) (fun q => s.heap.size ≤ q) s s.heap) (hP : gw_P G lo_z H) (hPo : va_P G.1 vwCl [(ho, .inl (cL, 1, .inr (.inl (fun _ => 0))))] H) (hS : va_S (fun q => s.heap.size ≤ q) s.heap H []) (hl : lv_has ls 9 [(5, .int 0), (4, .ref hd), (3, .ref ho), (2, .ref (G.2.1 33)), (1, .ref (G.2.1 0)), (0, .ref b)]) : W p l e room_1 s m #[Value.ref b] below meth c H [] 40 1183 (lw_Z below #[Value.ref b] s) (F0 m 232 ls []) := by
  have h : (f_X8_condition lo_z).map (fun o => (o.1, o.2 34 0, o.2 34 2)) = some (.inl 0, 0, 0) := by decide +kernel
  obtain ⟨o, h8, h9⟩ := Option.map_eq_some_iff.mp h
  injection h9 with e0 h9
  injection h9 with e1 e2
  exact la_0_condition l hfl K hP hPo hS hl hY _ o h8 (by rw [e0]; rfl) e1 e2 (by decide +kernel)
