theorem gv_549 : Cond.methodLink RL 143 yL_condition ∈ gw_L := gw_tab 549 (by decide +kernel) (by decide +kernel)
theorem gv_550 : Cond.static yL_condition ∈ gw_L := gw_tab 550 (by decide +kernel) (by decide +kernel)
theorem gv_551 : Cond.codeWith yL_condition cL_condition 3 (some .int) [(0, 8, 11, 13)] ∈ gw_L := gw_tab 551 (by decide +kernel) (by decide +kernel)
theorem gv_1198 : Cond.code yX11_condition cX11_condition 1 (some .int) ∈ gw_L := gw_tab 1198 (by decide +kernel) (by decide +kernel)
theorem gk_X11_condition : gw_K yX11_condition cX11_condition 1 (some .int) 0 := ⟨gv_1198, gv_10, by decide +kernel, by decide +kernel⟩
theorem gv_1195 : Cond.methodLink RL 148 yX11_condition ∈ gw_L := gw_tab 1195 (by decide +kernel) (by decide +kernel)
theorem gv_1196 : Cond.instanceMethod yX11_condition ∈ gw_L := gw_tab 1196 (by decide +kernel) (by decide +kernel)
theorem gv_1197 : Cond.selects RX11 yX11_condition yX11_condition ∈ gw_L := gw_tab 1197 (by decide +kernel) (by decide +kernel)
theorem gv_738 : Cond.methodLink RL 174 yL_isDense ∈ gw_L := gw_tab 738 (by decide +kernel) (by decide +kernel)
theorem gv_739 : Cond.static yL_isDense ∈ gw_L := gw_tab 739 (by decide +kernel) (by decide +kernel)
theorem gv_740 : Cond.codeWith yL_isDense cL_isDense 4 (some .int) [(0, 16, 19, 34)] ∈ gw_L := gw_tab 740 (by decide +kernel) (by decide +kernel)
theorem gv_1456 : Cond.code yX11_isDense cX11_isDense 5 (some .boolean) ∈ gw_L := gw_tab 1456 (by decide +kernel) (by decide +kernel)
theorem gk_X11_isDense : gw_K yX11_isDense cX11_isDense 5 (some .boolean) 1 := ⟨gv_1456, gv_10, by decide +kernel, by decide +kernel⟩
theorem gv_1453 : Cond.methodLink RL 176 yX11_isDense ∈ gw_L := gw_tab 1453 (by decide +kernel) (by decide +kernel)
theorem gv_1454 : Cond.instanceMethod yX11_isDense ∈ gw_L := gw_tab 1454 (by decide +kernel) (by decide +kernel)
theorem gv_1455 : Cond.selects RX11 yX11_isDense yX11_isDense ∈ gw_L := gw_tab 1455 (by decide +kernel) (by decide +kernel)
theorem gv_296 : Cond.methodLink RL 278 yX8_checksum ∈ gw_L := gw_tab 296 (by decide +kernel) (by decide +kernel)
theorem gv_297 : Cond.instanceMethod yX8_checksum ∈ gw_L := gw_tab 297 (by decide +kernel) (by decide +kernel)
theorem gv_298 : Cond.selects RX8 yX8_checksum yX8_checksum ∈ gw_L := gw_tab 298 (by decide +kernel) (by decide +kernel)
theorem gv_299 : Cond.code yX8_checksum cX8_checksum 5 (some .long) ∈ gw_L := gw_tab 299 (by decide +kernel) (by decide +kernel)
theorem gk_X8_checksum : gw_K yX8_checksum cX8_checksum 5 (some .long) 0 := ⟨gv_299, gv_1, by decide +kernel, by decide +kernel⟩
theorem gv_1772 : Cond.methodLink RL 282 yX11_checksum ∈ gw_L := gw_tab 1772 (by decide +kernel) (by decide +kernel)
theorem gv_1773 : Cond.instanceMethod yX11_checksum ∈ gw_L := gw_tab 1773 (by decide +kernel) (by decide +kernel)
theorem gv_1774 : Cond.selects RX11 yX11_checksum yX11_checksum ∈ gw_L := gw_tab 1774 (by decide +kernel) (by decide +kernel)
theorem gv_1775 : Cond.code yX11_checksum cX11_checksum 6 (some .long) ∈ gw_L := gw_tab 1775 (by decide +kernel) (by decide +kernel)
theorem gk_X11_checksum : gw_K yX11_checksum cX11_checksum 6 (some .long) 0 := ⟨gv_1775, gv_10, by decide +kernel, by decide +kernel⟩
set_option maxHeartbeats 4000000 in
set_option maxRecDepth 100000 in
theorem la_0_condition (l : Launch) (hfl : l.stackTraces = false) {p : Program} {e : Env} {s : State} {m : MethodId} {below : List Frame} {meth : Method} {c : Code} {H : Heap} {b : Nat} {xs : Nat → Int32} {G : gw_G} {cL cD : ClassId} {ho hd : Nat} {ls : Array Slot} (K : lc_C p s m meth c b 5 xs G cL cD ho hd) (hP : gw_P G lo_z H) (hPo : va_P G.1 vwCl [(ho, .inl (cL, 1, .inr (.inl (fun _ => 0))))] H) (hS : va_S (fun q => s.heap.size ≤ q) s.heap H []) (hl : lv_has ls 9 [(5, .int 0), (4, .ref hd), (3, .ref ho), (2, .ref (G.2.1 33)), (1, .ref (G.2.1 0)), (0, .ref b)]) (hY : lm_Y (G.2.1 99) (fun q => s.heap.size ≤ q) s s.heap) (f2 : Nat → Int64) (o : (Int32 ⊕ String) × gw_S) (h8 : f_X8_condition lo_z = some o) (hw : w_condition (fun _ => 0) o.1 = some (0, f2)) (e1 : o.2 34 0 = 0) (e2 : o.2 34 2 = 0) (hv : f2 0 = (0 : Int32).toInt64) : W p l e room_1 s m #[Value.ref b] below meth c H [] 40 1183 (lw_Z below #[Value.ref b] s) (F0 m 232 ls []) := by
  obtain ⟨X, -, -, -, -, hKo2, -, hap1, hap2, -, -, hg1, hg2⟩ := id K
  obtain ⟨hx, hb, -, hown, hts, hT, -⟩ := id X
  refine lv_aload_n hx hb dL_law_232 rfl (lv_at hl 4 rfl) ?_
  refine lv_aload_n hx hb dL_law_233 rfl (lv_at hl 2 rfl) ?_
  refine lc_call (n := 2) (hq := ho) (x := .inl (cL, 1, .inr (.inl (fun _ => 0)))) (As := [.ref (G.2.1 0), .ref ho]) (rest := []) K hP hPo hS (hKo2.sub [0] rfl) hap1 hg1 (gl_condition l hfl G cL ho (fun _ => 0) f2 0 lo_z o h8 hw) ⟨gv_551, gv_0, by decide +kernel, by decide +kernel⟩ gv_549 gv_550 rfl rfl (Nat.le_of_ble_eq_true rfl) hl.1 ⟨rfl, rfl⟩ ⟨Nat.le_of_ble_eq_true rfl, Nat.le_of_ble_eq_true rfl⟩ ⟨Nat.le_of_ble_eq_true rfl, Nat.le_of_ble_eq_true rfl⟩ dL_law_234 (fun H hP hPo _ hS => ?_)
  refine lv_istore (lv' := [(6, .int 0), (5, .int 0), (4, .ref hd), (3, .ref ho), (2, .ref (G.2.1 33)), (1, .ref (G.2.1 0)), (0, .ref b)]) hx hb dL_law_237 hl (by decide) rfl (fun ls hl => ?_)
  refine lv_aload_n hx hb dL_law_239 rfl (lv_at hl 4 rfl) ?_
  refine lc_add (As := []) (rest := []) K hY hP hPo hap1 hS (lm_condition l G o.2 e1 e2) gk_X11_condition gv_1195 ⟨gv_1196, gv_1197⟩ rfl rfl (Nat.le_of_ble_eq_true rfl) hl.1 ⟨rfl, rfl⟩ ⟨Nat.le_of_ble_eq_true rfl, Nat.le_of_ble_eq_true rfl⟩ ⟨Nat.le_of_ble_eq_true rfl, Nat.le_of_ble_eq_true rfl⟩ dL_law_240 (fun H h3 hPo hS => ?_)
  refine lv_istore (lv' := [(7, .int 0), (6, .int 0), (5, .int 0), (4, .ref hd), (3, .ref ho), (2, .ref (G.2.1 33)), (1, .ref (G.2.1 0)), (0, .ref b)]) hx hb dL_law_243 hl (by decide) rfl (fun ls hl => ?_)
  refine lv_aload_n hx hb dL_law_245 rfl (lv_at hl 5 rfl) ?_
  refine lc_thr (rest := []) K h3 hPo hS rfl (Nat.le_of_ble_eq_true rfl) hl.1 ⟨Nat.le_of_ble_eq_true rfl, Nat.le_of_ble_eq_true rfl⟩ dL_law_246 (fun H hPo hS => ?_)
  refine lv_iload hx hb dL_law_249 (lv_at hl 1 rfl) ?_
  refine lv_icmp_eq (tgt := 256) hx hb dL_law_251 (by decide) (fun _ => ?_) (fun z => absurd rfl z)
  refine lv_iload hx hb dL_law_256 (lv_at hl 1 rfl) ?_
  refine lv_if_ne (tgt := 273) hx hb dL_law_258 (by decide) (fun z => absurd rfl z) (fun _ => ?_)
  refine lv_aload_n hx hb dL_law_261 rfl (lv_at hl 4 rfl) ?_
  refine lv_iconst (v := 0) hx hb dL_law_262 (by decide) ?_
  refine va_lald (D := G.1) hx hb hKo2 hPo 0 0 (n := 1) (f := f2) rfl rfl (by unfold vp_in; decide) dL_law_263 ?_
  refine lv_iload hx hb dL_law_264 (lv_at hl 0 rfl) ?_
  refine lv_i2l hx hb dL_law_266 rfl ?_
  refine W.lcmp hx hb dL_law_267 ?_
  refine lv_if_eq (tgt := 273) hx hb dL_law_268 (by decide) (fun _ => ?_) (fun z => absurd (by rw [show f2 (0 : Int32).toNatClampNeg = f2 0 from rfl, hv]; exact lc_cmp _) z)
  refine lv_goto (tgt := 2737) hx hb dL_law_273 (by decide) ?_
  exact lc_end K rfl hS (lv_sub hl [2, 7] rfl) (Nat.le_of_ble_eq_true rfl) (Nat.le_of_ble_eq_true rfl)
theorem lz_0 (l : Launch) (hfl : l.stackTraces = false) {p : Program} {e : Env} {s : State} {m : MethodId} {below : List Frame} {meth : Method} {c : Code} {H : Heap} {b : Nat} {xs : Nat → Int32} {G : gw_G} {cL cD : ClassId} {ho hd : Nat} {ls : Array Slot} (K : lc_C p s m meth c b 5 xs G cL cD ho hd) (hY : lm_Y (G.2.1 99) (fun q => s.heap.size ≤ q) s s.heap) (hP : gw_P G lo_z H) (hPo : va_P G.1 vwCl [(ho, .inl (cL, 1, .inr (.inl (fun _ => 0))))] H) (hS : va_S (fun q => s.heap.size ≤ q) s.heap H []) (hl : lv_has ls 9 [(5, .int 0), (4, .ref hd), (3, .ref ho), (2, .ref (G.2.1 33)), (1, .ref (G.2.1 0)), (0, .ref b)]) : W p l e room_1 s m #[Value.ref b] below meth c H [] 40 1183 (lw_Z below #[Value.ref b] s) (F0 m 232 ls []) := by
  have h : (f_X8_condition lo_z).map (fun o => (o.1, o.2 34 0, o.2 34 2)) = some (.inl 0, 0, 0) := by decide +kernel
  obtain ⟨o, h8, h9⟩ := Option.map_eq_some_iff.mp h
  injection h9 with e0 h9
  injection h9 with e1 e2
  exact la_0_condition l hfl K hP hPo hS hl hY _ o h8 (by rw [e0]; rfl) e1 e2 (by decide +kernel)
set_option maxHeartbeats 4000000 in
set_option maxRecDepth 100000 in
theorem lc_7_isDense (l : Launch) (hfl : l.stackTraces = false) {p : Program} {e : Env} {s : State} {m : MethodId} {below : List Frame} {meth : Method} {c : Code} {H : Heap} {b : Nat} {xs : Nat → Int32} {G : gw_G} {cL cD : ClassId} {ho hd : Nat} {ls : Array Slot} (K : lc_C p s m meth c b 5 xs G cL cD ho hd) (hP : gw_P G lo_z H) (hPo : va_P G.1 vwCl [(ho, .inl (cL, 1, .inr (.inl (fun _ => 0))))] H) (hS : va_S (fun q => s.heap.size ≤ q) s.heap H []) (hl : lv_has ls 9 [(5, .int 0), (4, .ref hd), (3, .ref ho), (2, .ref (G.2.1 33)), (1, .ref (G.2.1 0)), (0, .ref b)]) (r : Int32) (f2 : Nat → Int64) (o : (Int32 ⊕ String) × gw_S) (h8 : f_X8_isDense (xs 1) lo_z = some o) (hw : w_isDense (fun _ => 0) o.1 = some (r, f2)) (o2 : Int32 × gw_S) (h11 : f_X11_isDense (xs 1) o.2 = some o2) (ht : o2.2 33 4 = r) (hv : r = 0 → f2 0 = (if o2.1 = 0 then (0 : Int64) else (1 : Int64))) : W p l e room_1 s m #[Value.ref b] below meth c H [] 40 1183 (lw_Z below #[Value.ref b] s) (F0 m 583 ls []) := by
  obtain ⟨X, -, -, -, -, hKo2, -, hap1, hap2, -, -, hg1, hg2⟩ := id K
  obtain ⟨hx, hb, -, hown, hts, hT, -⟩ := id X
  refine lv_aload_n hx hb dL_law_583 rfl (lv_at hl 4 rfl) ?_
  refine lv_aload_n hx hb dL_law_584 rfl (lv_at hl 5 rfl) ?_
  refine lv_iload hx hb dL_law_585 (lv_at hl 0 rfl) ?_
  refine lv_iconst (v := 1) hx hb dL_law_587 (by decide) ?_
  refine lv_iadd hx hb dL_law_588 ?_
  refine lc_sld K hS (j := 1) (by decide) (by unfold vp_in; decide) dL_law_589 ?_
  refine lv_aload_n hx hb dL_law_590 rfl (lv_at hl 2 rfl) ?_
  refine lc_call (n := 3) (hq := ho) (x := .inl (cL, 1, .inr (.inl (fun _ => 0)))) (As := [.ref (G.2.1 0), .int (xs 1), .ref ho]) (rest := []) K hP hPo hS (hKo2.sub [0] rfl) hap1 hg1 (gl_isDense l hfl G (xs 1) cL ho (fun _ => 0) f2 r lo_z o h8 hw) ⟨gv_740, gv_0, by decide +kernel, by decide +kernel⟩ gv_738 gv_739 rfl rfl (Nat.le_of_ble_eq_true rfl) hl.1 ⟨rfl, rfl⟩ ⟨Nat.le_of_ble_eq_true rfl, Nat.le_of_ble_eq_true rfl⟩ ⟨Nat.le_of_ble_eq_true rfl, Nat.le_of_ble_eq_true rfl⟩ dL_law_591 (fun H hP hPo _ hS => ?_)
  refine lv_istore (lv' := [(6, .int r), (5, .int 0), (4, .ref hd), (3, .ref ho), (2, .ref (G.2.1 33)), (1, .ref (G.2.1 0)), (0, .ref b)]) hx hb dL_law_594 hl (by decide) rfl (fun ls hl => ?_)
  refine lv_aload_n hx hb dL_law_596 rfl (lv_at hl 4 rfl) ?_
  refine lv_aload_n hx hb dL_law_597 rfl (lv_at hl 6 rfl) ?_
  refine lv_iload hx hb dL_law_598 (lv_at hl 1 rfl) ?_
  refine lv_iconst (v := 1) hx hb dL_law_600 (by decide) ?_
  refine lv_iadd hx hb dL_law_601 ?_
  refine lc_sld K hS (j := 1) (by decide) (by unfold vp_in; decide) dL_law_602 ?_
  refine lc_cz (C := RX11) (As := [.int (xs 1)]) (rest := []) K hP hPo hap1 hS (gc_X11_isDense l G (xs 1) o.2 o2 h11) gk_X11_isDense gv_1453 ⟨gv_1454, gv_1455⟩ (va_recv hT.2.1 hP (ci := 13) (q0 := 33) rfl rfl) rfl rfl (Nat.le_of_ble_eq_true rfl) hl.1 ⟨rfl, rfl⟩ ⟨Nat.le_of_ble_eq_true rfl, Nat.le_of_ble_eq_true rfl⟩ ⟨Nat.le_of_ble_eq_true rfl, Nat.le_of_ble_eq_true rfl⟩ dL_law_603 (fun H hP hPo hS => ?_)
  refine lv_istore (lv' := [(7, .int o2.1), (6, .int r), (5, .int 0), (4, .ref hd), (3, .ref ho), (2, .ref (G.2.1 33)), (1, .ref (G.2.1 0)), (0, .ref b)]) hx hb dL_law_606 hl (by decide) rfl (fun ls hl => ?_)
  refine lv_aload_n hx hb dL_law_608 rfl (lv_at hl 5 rfl) ?_
  refine lc_ci (C := RX11) (As := []) (rest := []) K hP hPo hap1 hS (gc_X11_thrown l G o2.2 _ rfl) gk_X11_thrown gv_1191 ⟨gv_1192, gv_1193⟩ (va_recv hT.2.1 hP (ci := 13) (q0 := 33) rfl rfl) rfl rfl (Nat.le_of_ble_eq_true rfl) hl.1 ⟨rfl, rfl⟩ ⟨Nat.le_of_ble_eq_true rfl, Nat.le_of_ble_eq_true rfl⟩ ⟨Nat.le_of_ble_eq_true rfl, Nat.le_of_ble_eq_true rfl⟩ dL_law_609 (fun H hP hPo hS => ?_)
  refine lv_iload hx hb dL_law_612 (lv_at hl 1 rfl) ?_
  refine lv_icmp_eq (tgt := 619) hx hb dL_law_614 (by decide) (fun _ => ?_) (fun z => absurd ht z)
  refine lv_iload hx hb dL_law_619 (lv_at hl 1 rfl) ?_
  refine lv_if_ne (tgt := 643) hx hb dL_law_621 (by decide) (fun _ => ?_) (fun hr0 => ?_)
  · refine lv_goto (tgt := 2737) hx hb dL_law_643 (by decide) ?_
    exact lc_end K rfl hS (lv_sub hl [2, 7] rfl) (Nat.le_of_ble_eq_true rfl) (Nat.le_of_ble_eq_true rfl)
  · have hv := hv hr0
    refine lv_aload_n hx hb dL_law_624 rfl (lv_at hl 4 rfl) ?_
    refine lv_iconst (v := 0) hx hb dL_law_625 (by decide) ?_
    refine va_lald (D := G.1) hx hb hKo2 hPo 0 0 (n := 1) (f := f2) rfl rfl (by unfold vp_in; decide) dL_law_626 ?_
    refine lv_iload hx hb dL_law_627 (lv_at hl 0 rfl) ?_
    refine lv_if_eq (tgt := 636) hx hb dL_law_629 (by decide) (fun z0 => ?_) (fun z0 => ?_)
    · have hv := hv.trans (if_pos z0)
      refine lv_lconst (v := 0) hx hb dL_law_636 (by decide) ?_
      refine W.lcmp hx hb dL_law_637 ?_
      refine lv_if_eq (tgt := 643) hx hb dL_law_638 (by decide) (fun _ => ?_) (fun z => absurd (by rw [show f2 (0 : Int32).toNatClampNeg = f2 0 from rfl, hv]; exact lc_cmp _) z)
      refine lv_goto (tgt := 2737) hx hb dL_law_643 (by decide) ?_
      exact lc_end K rfl hS (lv_sub hl [2, 7] rfl) (Nat.le_of_ble_eq_true rfl) (Nat.le_of_ble_eq_true rfl)
    · have hv := hv.trans (if_neg z0)
      refine lv_lconst (v := 1) hx hb dL_law_632 (by decide) ?_
      refine lv_goto (tgt := 637) hx hb dL_law_633 (by decide) ?_
      refine W.lcmp hx hb dL_law_637 ?_
      refine lv_if_eq (tgt := 643) hx hb dL_law_638 (by decide) (fun _ => ?_) (fun z => absurd (by rw [show f2 (0 : Int32).toNatClampNeg = f2 0 from rfl, hv]; exact lc_cmp _) z)
      refine lv_goto (tgt := 2737) hx hb dL_law_643 (by decide) ?_
      exact lc_end K rfl hS (lv_sub hl [2, 7] rfl) (Nat.le_of_ble_eq_true rfl) (Nat.le_of_ble_eq_true rfl)
set_option maxHeartbeats 4000000 in
set_option maxRecDepth 100000 in
theorem la_7_isDense (l : Launch) (hfl : l.stackTraces = false) {p : Program} {e : Env} {s : State} {m : MethodId} {below : List Frame} {meth : Method} {c : Code} {H : Heap} {b : Nat} {xs : Nat → Int32} {G : gw_G} {cL cD : ClassId} {ho hd : Nat} {ls : Array Slot} (hx0 : xs 1 = 0) (K : lc_C p s m meth c b 5 xs G cL cD ho hd) (hP : gw_P G lo_z H) (hPo : va_P G.1 vwCl [(ho, .inl (cL, 1, .inr (.inl (fun _ => 0))))] H) (hS : va_S (fun q => s.heap.size ≤ q) s.heap H []) (hl : lv_has ls 9 [(5, .int 0), (4, .ref hd), (3, .ref ho), (2, .ref (G.2.1 33)), (1, .ref (G.2.1 0)), (0, .ref b)]) (hY : lm_Y (G.2.1 99) (fun q => s.heap.size ≤ q) s s.heap) (f2 : Nat → Int64) (o : (Int32 ⊕ String) × gw_S) (h8 : f_X8_isDense 0 lo_z = some o) (hw : w_isDense (fun _ => 0) o.1 = some (0, f2)) (e1 : o.2 34 0 = 0) (e2 : o.2 34 2 = 0) (hv : f2 0 = (if (1 : Int32) = 0 then (0 : Int64) else (1 : Int64))) : W p l e room_1 s m #[Value.ref b] below meth c H [] 40 1183 (lw_Z below #[Value.ref b] s) (F0 m 583 ls []) := by
  obtain ⟨X, -, -, -, -, hKo2, -, hap1, hap2, -, -, hg1, hg2⟩ := id K
  obtain ⟨hx, hb, -, hown, hts, hT, -⟩ := id X
  refine lv_aload_n hx hb dL_law_583 rfl (lv_at hl 4 rfl) ?_
  refine lv_aload_n hx hb dL_law_584 rfl (lv_at hl 5 rfl) ?_
  refine lv_iload hx hb dL_law_585 (lv_at hl 0 rfl) ?_
  refine lv_iconst (v := 1) hx hb dL_law_587 (by decide) ?_
  refine lv_iadd hx hb dL_law_588 ?_
  refine lc_sld K hS (j := 1) (by decide) (by unfold vp_in; decide) dL_law_589 ?_
  rw [hx0]
  refine lv_aload_n hx hb dL_law_590 rfl (lv_at hl 2 rfl) ?_
  refine lc_call (n := 3) (hq := ho) (x := .inl (cL, 1, .inr (.inl (fun _ => 0)))) (As := [.ref (G.2.1 0), .int 0, .ref ho]) (rest := []) K hP hPo hS (hKo2.sub [0] rfl) hap1 hg1 (gl_isDense l hfl G 0 cL ho (fun _ => 0) f2 0 lo_z o h8 hw) ⟨gv_740, gv_0, by decide +kernel, by decide +kernel⟩ gv_738 gv_739 rfl rfl (Nat.le_of_ble_eq_true rfl) hl.1 ⟨rfl, rfl⟩ ⟨Nat.le_of_ble_eq_true rfl, Nat.le_of_ble_eq_true rfl⟩ ⟨Nat.le_of_ble_eq_true rfl, Nat.le_of_ble_eq_true rfl⟩ dL_law_591 (fun H hP hPo _ hS => ?_)
  refine lv_istore (lv' := [(6, .int 0), (5, .int 0), (4, .ref hd), (3, .ref ho), (2, .ref (G.2.1 33)), (1, .ref (G.2.1 0)), (0, .ref b)]) hx hb dL_law_594 hl (by decide) rfl (fun ls hl => ?_)
  refine lv_aload_n hx hb dL_law_596 rfl (lv_at hl 4 rfl) ?_
  refine lv_aload_n hx hb dL_law_597 rfl (lv_at hl 6 rfl) ?_
  refine lv_iload hx hb dL_law_598 (lv_at hl 1 rfl) ?_
  refine lv_iconst (v := 1) hx hb dL_law_600 (by decide) ?_
  refine lv_iadd hx hb dL_law_601 ?_
  refine lc_sld K hS (j := 1) (by decide) (by unfold vp_in; decide) dL_law_602 ?_
  rw [hx0]
  refine lc_add (As := [.int 0]) (rest := []) K hY hP hPo hap1 hS (lm_isDense l G o.2 e1 e2) gk_X11_isDense gv_1453 ⟨gv_1454, gv_1455⟩ rfl rfl (Nat.le_of_ble_eq_true rfl) hl.1 ⟨rfl, rfl⟩ ⟨Nat.le_of_ble_eq_true rfl, Nat.le_of_ble_eq_true rfl⟩ ⟨Nat.le_of_ble_eq_true rfl, Nat.le_of_ble_eq_true rfl⟩ dL_law_603 (fun H h3 hPo hS => ?_)
  refine lv_istore (lv' := [(7, .int 1), (6, .int 0), (5, .int 0), (4, .ref hd), (3, .ref ho), (2, .ref (G.2.1 33)), (1, .ref (G.2.1 0)), (0, .ref b)]) hx hb dL_law_606 hl (by decide) rfl (fun ls hl => ?_)
  refine lv_aload_n hx hb dL_law_608 rfl (lv_at hl 5 rfl) ?_
  refine lc_thr (rest := []) K h3 hPo hS rfl (Nat.le_of_ble_eq_true rfl) hl.1 ⟨Nat.le_of_ble_eq_true rfl, Nat.le_of_ble_eq_true rfl⟩ dL_law_609 (fun H hPo hS => ?_)
  refine lv_iload hx hb dL_law_612 (lv_at hl 1 rfl) ?_
  refine lv_icmp_eq (tgt := 619) hx hb dL_law_614 (by decide) (fun _ => ?_) (fun z => absurd rfl z)
  refine lv_iload hx hb dL_law_619 (lv_at hl 1 rfl) ?_
  refine lv_if_ne (tgt := 643) hx hb dL_law_621 (by decide) (fun z => absurd rfl z) (fun _ => ?_)
  refine lv_aload_n hx hb dL_law_624 rfl (lv_at hl 4 rfl) ?_
  refine lv_iconst (v := 0) hx hb dL_law_625 (by decide) ?_
  refine va_lald (D := G.1) hx hb hKo2 hPo 0 0 (n := 1) (f := f2) rfl rfl (by unfold vp_in; decide) dL_law_626 ?_
  refine lv_iload hx hb dL_law_627 (lv_at hl 0 rfl) ?_
  refine lv_if_eq (tgt := 636) hx hb dL_law_629 (by decide) (fun z0 => ?_) (fun z0 => ?_)
  · have hv := hv.trans (if_pos z0)
    refine lv_lconst (v := 0) hx hb dL_law_636 (by decide) ?_
    refine W.lcmp hx hb dL_law_637 ?_
    refine lv_if_eq (tgt := 643) hx hb dL_law_638 (by decide) (fun _ => ?_) (fun z => absurd (by rw [show f2 (0 : Int32).toNatClampNeg = f2 0 from rfl, hv]; exact lc_cmp _) z)
    refine lv_goto (tgt := 2737) hx hb dL_law_643 (by decide) ?_
    exact lc_end K rfl hS (lv_sub hl [2, 7] rfl) (Nat.le_of_ble_eq_true rfl) (Nat.le_of_ble_eq_true rfl)
  · have hv := hv.trans (if_neg z0)
    refine lv_lconst (v := 1) hx hb dL_law_632 (by decide) ?_
    refine lv_goto (tgt := 637) hx hb dL_law_633 (by decide) ?_
    refine W.lcmp hx hb dL_law_637 ?_
    refine lv_if_eq (tgt := 643) hx hb dL_law_638 (by decide) (fun _ => ?_) (fun z => absurd (by rw [show f2 (0 : Int32).toNatClampNeg = f2 0 from rfl, hv]; exact lc_cmp _) z)
    refine lv_goto (tgt := 2737) hx hb dL_law_643 (by decide) ?_
    exact lc_end K rfl hS (lv_sub hl [2, 7] rfl) (Nat.le_of_ble_eq_true rfl) (Nat.le_of_ble_eq_true rfl)
theorem lz_7 (l : Launch) (hfl : l.stackTraces = false) {p : Program} {e : Env} {s : State} {m : MethodId} {below : List Frame} {meth : Method} {c : Code} {H : Heap} {b : Nat} {xs : Nat → Int32} {G : gw_G} {cL cD : ClassId} {ho hd : Nat} {ls : Array Slot} (K : lc_C p s m meth c b 5 xs G cL cD ho hd) (hY : lm_Y (G.2.1 99) (fun q => s.heap.size ≤ q) s s.heap) (hP : gw_P G lo_z H) (hPo : va_P G.1 vwCl [(ho, .inl (cL, 1, .inr (.inl (fun _ => 0))))] H) (hS : va_S (fun q => s.heap.size ≤ q) s.heap H []) (hl : lv_has ls 9 [(5, .int 0), (4, .ref hd), (3, .ref ho), (2, .ref (G.2.1 33)), (1, .ref (G.2.1 0)), (0, .ref b)]) : W p l e room_1 s m #[Value.ref b] below meth c H [] 40 1183 (lw_Z below #[Value.ref b] s) (F0 m 583 ls []) := by
  by_cases h : xs 1 = 0
  · have h' : (f_X8_isDense 0 lo_z).map (fun o => (o.1, o.2 34 0, o.2 34 2)) = some (.inl 1, 0, 0) := by decide +kernel
    obtain ⟨o, h8, h9⟩ := Option.map_eq_some_iff.mp h'
    injection h9 with e0 h9
    injection h9 with e1 e2
    exact la_7_isDense l hfl h K hP hPo hS hl hY _ o h8 (by rw [e0]; rfl) e1 e2 (by decide +kernel)
  · exact lc_7_isDense l hfl K hP hPo hS hl 1 (fun _ => 0) _ (ev8_isDense _ h) (show w_isDense (fun _ => 0) (.inr "java/lang/IllegalArgumentException") = some (1, fun _ => 0) by unfold w_isDense; exact if_pos rfl) _ (mv8_isDense _ h) rfl (fun h => absurd h (by decide))
set_option maxHeartbeats 4000000 in
set_option maxRecDepth 100000 in
theorem lz_39 (l : Launch) (hfl : l.stackTraces = false) {p : Program} {e : Env} {s : State} {m : MethodId} {below : List Frame} {meth : Method} {c : Code} {H : Heap} {b : Nat} {xs : Nat → Int32} {G : gw_G} {cL cD : ClassId} {ho hd : Nat} {ls : Array Slot} (K : lc_C p s m meth c b 5 xs G cL cD ho hd) (hY : lm_Y (G.2.1 99) (fun q => s.heap.size ≤ q) s s.heap) (hP : gw_P G lo_z H) (hPo : va_P G.1 vwCl [(ho, .inl (cL, 1, .inr (.inl (fun _ => 0))))] H) (hS : va_S (fun q => s.heap.size ≤ q) s.heap H []) (hl : lv_has ls 9 [(5, .int 0), (4, .ref hd), (3, .ref ho), (2, .ref (G.2.1 33)), (1, .ref (G.2.1 0)), (0, .ref b)]) : W p l e room_1 s m #[Value.ref b] below meth c H [] 40 1183 (lw_Z below #[Value.ref b] s) (F0 m 2579 ls []) := by
  obtain ⟨X, -, -, -, -, hKo2, -, hap1, hap2, -, -, hg1, hg2⟩ := id K
  obtain ⟨hx, hb, -, hown, hts, hT, -⟩ := id X
  have h : (f_X8_checksum lo_z).map (fun o => (o.1, o.2 34 0, o.2 34 2, o.2 35 2, o.2 36 2)) = some (217, 0, 0, 0, 0) := by decide +kernel
  obtain ⟨o, h8, h9⟩ := Option.map_eq_some_iff.mp h
  injection h9 with e0 h9
  injection h9 with e1 h9
  injection h9 with e2 h9
  injection h9 with e3 e4
  refine lv_aload_n hx hb dL_law_2579 rfl (lv_at hl 4 rfl) ?_
  refine lc_cl (C := RX8) (As := []) (rest := []) K hP hPo hap1 hS (gc_X8_checksum l G lo_z o h8) gk_X8_checksum gv_296 ⟨gv_297, gv_298⟩ (va_recv hT.2.1 hP (ci := 10) (q0 := 0) rfl rfl) rfl rfl (Nat.le_of_ble_eq_true rfl) hl.1 ⟨rfl, rfl⟩ ⟨Nat.le_of_ble_eq_true rfl, Nat.le_of_ble_eq_true rfl⟩ ⟨Nat.le_of_ble_eq_true rfl, Nat.le_of_ble_eq_true rfl⟩ dL_law_2580 (fun H hP hPo hS => ?_)
  refine lv_aload_n hx hb dL_law_2583 rfl (lv_at hl 3 rfl) ?_
  refine lc_addl (As := []) (rest := [.long o.1]) K hY hP hS (lm_checksum l G o.2 e1 e2 e3 e4) gk_X11_checksum gv_1772 ⟨gv_1773, gv_1774⟩ rfl rfl (Nat.le_of_ble_eq_true rfl) hl.1 ⟨rfl, rfl⟩ ⟨Nat.le_of_ble_eq_true rfl, Nat.le_of_ble_eq_true rfl⟩ ⟨Nat.le_of_ble_eq_true rfl, Nat.le_of_ble_eq_true rfl⟩ dL_law_2584 (fun H hS => ?_)
  rw [e0]
  refine W.lcmp hx hb dL_law_2587 ?_
  refine lv_if_eq (tgt := 2737) hx hb dL_law_2588 (by decide) (fun _ => ?_) (fun z => absurd (lc_cmp _) z)
  exact lc_end K rfl hS (lv_sub hl [0, 5] rfl) (Nat.le_of_ble_eq_true rfl) (Nat.le_of_ble_eq_true rfl)
