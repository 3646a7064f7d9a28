theorem gv_1068 : Cond.methodLink RL 262 yL_against ∈ gw_L := gw_tab 1068 (by decide +kernel) (by decide +kernel)
theorem gv_1069 : Cond.static yL_against ∈ gw_L := gw_tab 1069 (by decide +kernel) (by decide +kernel)
theorem gv_1070 : Cond.codeWith yL_against cL_against 4 (some .int) [(0, 9, 12, 19), (0, 9, 15, 21), (0, 9, 18, 120)] ∈ gw_L := gw_tab 1070 (by decide +kernel) (by decide +kernel)
theorem gv_1734 : Cond.code yX11_against cX11_against 3 (some .int) ∈ gw_L := gw_tab 1734 (by decide +kernel) (by decide +kernel)
theorem gk_X11_against : gw_K yX11_against cX11_against 3 (some .int) 1 := ⟨gv_1734, gv_10, by decide +kernel, by decide +kernel⟩
theorem gv_1731 : Cond.methodLink RL 264 yX11_against ∈ gw_L := gw_tab 1731 (by decide +kernel) (by decide +kernel)
theorem gv_1732 : Cond.instanceMethod yX11_against ∈ gw_L := gw_tab 1732 (by decide +kernel) (by decide +kernel)
theorem gv_1733 : Cond.selects RX11 yX11_against yX11_against ∈ gw_L := gw_tab 1733 (by decide +kernel) (by decide +kernel)
theorem gv_1092 : Cond.methodLink RL 265 yL_swap ∈ gw_L := gw_tab 1092 (by decide +kernel) (by decide +kernel)
theorem gv_1093 : Cond.static yL_swap ∈ gw_L := gw_tab 1093 (by decide +kernel) (by decide +kernel)
theorem gv_1094 : Cond.codeWith yL_swap cL_swap 5 (some .int) [(0, 17, 20, 19)] ∈ gw_L := gw_tab 1094 (by decide +kernel) (by decide +kernel)
theorem gv_1742 : Cond.code yX11_swap cX11_swap 4 (some .boolean) ∈ gw_L := gw_tab 1742 (by decide +kernel) (by decide +kernel)
theorem gk_X11_swap : gw_K yX11_swap cX11_swap 4 (some .boolean) 2 := ⟨gv_1742, gv_10, by decide +kernel, by decide +kernel⟩
theorem gv_1739 : Cond.methodLink RL 267 yX11_swap ∈ gw_L := gw_tab 1739 (by decide +kernel) (by decide +kernel)
theorem gv_1740 : Cond.instanceMethod yX11_swap ∈ gw_L := gw_tab 1740 (by decide +kernel) (by decide +kernel)
theorem gv_1741 : Cond.selects RX11 yX11_swap yX11_swap ∈ gw_L := gw_tab 1741 (by decide +kernel) (by decide +kernel)
theorem gv_1108 : Cond.methodLink RL 268 yL_goes ∈ gw_L := gw_tab 1108 (by decide +kernel) (by decide +kernel)
theorem gv_1109 : Cond.static yL_goes ∈ gw_L := gw_tab 1109 (by decide +kernel) (by decide +kernel)
theorem gv_1110 : Cond.codeWith yL_goes cL_goes 4 (some .int) [(0, 9, 12, 19)] ∈ gw_L := gw_tab 1110 (by decide +kernel) (by decide +kernel)
theorem gv_1750 : Cond.code yX11_goes cX11_goes 2 (some .int) ∈ gw_L := gw_tab 1750 (by decide +kernel) (by decide +kernel)
theorem gk_X11_goes : gw_K yX11_goes cX11_goes 2 (some .int) 1 := ⟨gv_1750, gv_10, by decide +kernel, by decide +kernel⟩
theorem gv_1747 : Cond.methodLink RL 270 yX11_goes ∈ gw_L := gw_tab 1747 (by decide +kernel) (by decide +kernel)
theorem gv_1748 : Cond.instanceMethod yX11_goes ∈ gw_L := gw_tab 1748 (by decide +kernel) (by decide +kernel)
theorem gv_1749 : Cond.selects RX11 yX11_goes yX11_goes ∈ gw_L := gw_tab 1749 (by decide +kernel) (by decide +kernel)
theorem gv_1116 : Cond.methodLink RL 271 yL_isFixed ∈ gw_L := gw_tab 1116 (by decide +kernel) (by decide +kernel)
theorem gv_1117 : Cond.static yL_isFixed ∈ gw_L := gw_tab 1117 (by decide +kernel) (by decide +kernel)
theorem gv_1118 : Cond.codeWith yL_isFixed cL_isFixed 4 (some .int) [(0, 16, 19, 19), (0, 16, 22, 21)] ∈ gw_L := gw_tab 1118 (by decide +kernel) (by decide +kernel)
theorem gv_1754 : Cond.code yX11_isFixed cX11_isFixed 4 (some .boolean) ∈ gw_L := gw_tab 1754 (by decide +kernel) (by decide +kernel)
theorem gk_X11_isFixed : gw_K yX11_isFixed cX11_isFixed 4 (some .boolean) 1 := ⟨gv_1754, gv_10, by decide +kernel, by decide +kernel⟩
theorem gv_1751 : Cond.methodLink RL 273 yX11_isFixed ∈ gw_L := gw_tab 1751 (by decide +kernel) (by decide +kernel)
theorem gv_1752 : Cond.instanceMethod yX11_isFixed ∈ gw_L := gw_tab 1752 (by decide +kernel) (by decide +kernel)
theorem gv_1753 : Cond.selects RX11 yX11_isFixed yX11_isFixed ∈ gw_L := gw_tab 1753 (by decide +kernel) (by decide +kernel)
theorem gv_291 : Cond.code yX8_clear cX8_clear 1 (some .int) ∈ gw_L := gw_tab 291 (by decide +kernel) (by decide +kernel)
theorem gk_X8_clear : gw_K yX8_clear cX8_clear 1 (some .int) 0 := ⟨gv_291, gv_1, by decide +kernel, by decide +kernel⟩
theorem gv_288 : Cond.methodLink RL 274 yX8_clear ∈ gw_L := gw_tab 288 (by decide +kernel) (by decide +kernel)
theorem gv_289 : Cond.instanceMethod yX8_clear ∈ gw_L := gw_tab 289 (by decide +kernel) (by decide +kernel)
theorem gv_290 : Cond.selects RX8 yX8_clear yX8_clear ∈ gw_L := gw_tab 290 (by decide +kernel) (by decide +kernel)
theorem gv_1762 : Cond.code yX11_clear cX11_clear 2 (some .int) ∈ gw_L := gw_tab 1762 (by decide +kernel) (by decide +kernel)
theorem gk_X11_clear : gw_K yX11_clear cX11_clear 2 (some .int) 0 := ⟨gv_1762, gv_10, by decide +kernel, by decide +kernel⟩
theorem gv_1759 : Cond.methodLink RL 277 yX11_clear ∈ gw_L := gw_tab 1759 (by decide +kernel) (by decide +kernel)
theorem gv_1760 : Cond.instanceMethod yX11_clear ∈ gw_L := gw_tab 1760 (by decide +kernel) (by decide +kernel)
theorem gv_1761 : Cond.selects RX11 yX11_clear yX11_clear ∈ gw_L := gw_tab 1761 (by decide +kernel) (by decide +kernel)
theorem gv_1124 : Cond.methodLink RL 283 yL_lastShare ∈ gw_L := gw_tab 1124 (by decide +kernel) (by decide +kernel)
theorem gv_1125 : Cond.static yL_lastShare ∈ gw_L := gw_tab 1125 (by decide +kernel) (by decide +kernel)
theorem gv_1126 : Cond.codeWith yL_lastShare cL_lastShare 3 (some .int) [(0, 8, 11, 120)] ∈ gw_L := gw_tab 1126 (by decide +kernel) (by decide +kernel)
theorem gv_1782 : Cond.code yX11_lastShare cX11_lastShare 1 (some .float) ∈ gw_L := gw_tab 1782 (by decide +kernel) (by decide +kernel)
theorem gk_X11_lastShare : gw_K yX11_lastShare cX11_lastShare 1 (some .float) 0 := ⟨gv_1782, gv_10, by decide +kernel, by decide +kernel⟩
theorem gv_1779 : Cond.methodLink RL 286 yX11_lastShare ∈ gw_L := gw_tab 1779 (by decide +kernel) (by decide +kernel)
theorem gv_1780 : Cond.instanceMethod yX11_lastShare ∈ gw_L := gw_tab 1780 (by decide +kernel) (by decide +kernel)
theorem gv_1781 : Cond.selects RX11 yX11_lastShare yX11_lastShare ∈ gw_L := gw_tab 1781 (by decide +kernel) (by decide +kernel)
theorem gv_1132 : Cond.methodLink RL 287 yL_meanRank ∈ gw_L := gw_tab 1132 (by decide +kernel) (by decide +kernel)
theorem gv_1133 : Cond.static yL_meanRank ∈ gw_L := gw_tab 1133 (by decide +kernel) (by decide +kernel)
theorem gv_1134 : Cond.codeWith yL_meanRank cL_meanRank 3 (some .int) [(0, 7, 10, 120)] ∈ gw_L := gw_tab 1134 (by decide +kernel) (by decide +kernel)
theorem gv_1786 : Cond.code yX11_meanRank cX11_meanRank 3 (some .double) ∈ gw_L := gw_tab 1786 (by decide +kernel) (by decide +kernel)
theorem gk_X11_meanRank : gw_K yX11_meanRank cX11_meanRank 3 (some .double) 0 := ⟨gv_1786, gv_10, by decide +kernel, by decide +kernel⟩
theorem gv_1783 : Cond.methodLink RL 289 yX11_meanRank ∈ gw_L := gw_tab 1783 (by decide +kernel) (by decide +kernel)
theorem gv_1784 : Cond.instanceMethod yX11_meanRank ∈ gw_L := gw_tab 1784 (by decide +kernel) (by decide +kernel)
theorem gv_1785 : Cond.selects RX11 yX11_meanRank yX11_meanRank ∈ gw_L := gw_tab 1785 (by decide +kernel) (by decide +kernel)
theorem gv_331 : Cond.code yX8_isSound cX8_isSound 3 (some .boolean) ∈ gw_L := gw_tab 331 (by decide +kernel) (by decide +kernel)
theorem gk_X8_isSound : gw_K yX8_isSound cX8_isSound 3 (some .boolean) 0 := ⟨gv_331, gv_1, by decide +kernel, by decide +kernel⟩
theorem gv_328 : Cond.methodLink RL 290 yX8_isSound ∈ gw_L := gw_tab 328 (by decide +kernel) (by decide +kernel)
theorem gv_329 : Cond.instanceMethod yX8_isSound ∈ gw_L := gw_tab 329 (by decide +kernel) (by decide +kernel)
theorem gv_330 : Cond.selects RX8 yX8_isSound yX8_isSound ∈ gw_L := gw_tab 330 (by decide +kernel) (by decide +kernel)
theorem gv_1790 : Cond.code yX11_isSound cX11_isSound 1 (some .boolean) ∈ gw_L := gw_tab 1790 (by decide +kernel) (by decide +kernel)
theorem gk_X11_isSound : gw_K yX11_isSound cX11_isSound 1 (some .boolean) 0 := ⟨gv_1790, gv_10, by decide +kernel, by decide +kernel⟩
theorem gv_1787 : Cond.methodLink RL 293 yX11_isSound ∈ gw_L := gw_tab 1787 (by decide +kernel) (by decide +kernel)
theorem gv_1788 : Cond.instanceMethod yX11_isSound ∈ gw_L := gw_tab 1788 (by decide +kernel) (by decide +kernel)
theorem gv_1789 : Cond.selects RX11 yX11_isSound yX11_isSound ∈ gw_L := gw_tab 1789 (by decide +kernel) (by decide +kernel)
set_option maxHeartbeats 4000000 in
set_option maxRecDepth 100000 in
theorem lc_34_against (l : Launch) (hfl : l.stackTraces = false) {p : Program} {e : Env} {s : State} {m : MethodId} {below : List Frame} {meth : Method} {c : Code} {H : Heap} {b : Nat} {xs : Nat → Int32} {G : gw_G} {cL cD : ClassId} {ho hd : Nat} {ls : Array Slot} (K : lc_C p s m meth c b 5 xs G cL cD ho hd) (hP : gw_P G lo_z H) (hPo : va_P G.1 vwCl [(ho, .inl (cL, 1, .inr (.inl (fun _ => 0))))] H) (hS : va_S (fun q => s.heap.size ≤ q) s.heap H []) (hl : lv_has ls 9 [(5, .int 0), (4, .ref hd), (3, .ref ho), (2, .ref (G.2.1 33)), (1, .ref (G.2.1 0)), (0, .ref b)]) (r : Int32) (f2 : Nat → Int64) (o : (Int32 ⊕ String) × gw_S) (h8 : f_X8_against (xs 1) lo_z = some o) (hw : w_against (fun _ => 0) o.1 = some (r, f2)) (o2 : Int32 × gw_S) (h11 : f_X11_against (xs 1) o.2 = some o2) (ht : o2.2 33 4 = r) (hv : r = 0 → f2 0 = o2.1.toInt64) : W p l e room_1 s m #[Value.ref b] below meth c H [] 40 1183 (lw_Z below #[Value.ref b] s) (F0 m 2316 ls []) := by
  obtain ⟨X, -, -, -, -, hKo2, -, hap1, hap2, -, -, hg1, hg2⟩ := id K
  obtain ⟨hx, hb, -, hown, hts, hT, -⟩ := id X
  refine lv_aload_n hx hb dL_law_2316 rfl (lv_at hl 4 rfl) ?_
  refine lv_aload_n hx hb dL_law_2317 rfl (lv_at hl 5 rfl) ?_
  refine lv_iload hx hb dL_law_2318 (lv_at hl 0 rfl) ?_
  refine lv_iconst (v := 1) hx hb dL_law_2320 (by decide) ?_
  refine lv_iadd hx hb dL_law_2321 ?_
  refine lc_sld K hS (j := 1) (by decide) (by unfold vp_in; decide) dL_law_2322 ?_
  refine lv_aload_n hx hb dL_law_2323 rfl (lv_at hl 2 rfl) ?_
  refine lc_call (n := 3) (hq := ho) (x := .inl (cL, 1, .inr (.inl (fun _ => 0)))) (As := [.ref (G.2.1 0), .int (xs 1), .ref ho]) (rest := []) K hP hPo hS (hKo2.sub [0] rfl) hap1 hg1 (gl_against l hfl G (xs 1) cL ho (fun _ => 0) f2 r lo_z o h8 hw) ⟨gv_1070, gv_0, by decide +kernel, by decide +kernel⟩ gv_1068 gv_1069 rfl rfl (Nat.le_of_ble_eq_true rfl) hl.1 ⟨rfl, rfl⟩ ⟨Nat.le_of_ble_eq_true rfl, Nat.le_of_ble_eq_true rfl⟩ ⟨Nat.le_of_ble_eq_true rfl, Nat.le_of_ble_eq_true rfl⟩ dL_law_2324 (fun H hP hPo _ hS => ?_)
  refine lv_istore (lv' := [(6, .int r), (5, .int 0), (4, .ref hd), (3, .ref ho), (2, .ref (G.2.1 33)), (1, .ref (G.2.1 0)), (0, .ref b)]) hx hb dL_law_2327 hl (by decide) rfl (fun ls hl => ?_)
  refine lv_aload_n hx hb dL_law_2329 rfl (lv_at hl 4 rfl) ?_
  refine lv_aload_n hx hb dL_law_2330 rfl (lv_at hl 6 rfl) ?_
  refine lv_iload hx hb dL_law_2331 (lv_at hl 1 rfl) ?_
  refine lv_iconst (v := 1) hx hb dL_law_2333 (by decide) ?_
  refine lv_iadd hx hb dL_law_2334 ?_
  refine lc_sld K hS (j := 1) (by decide) (by unfold vp_in; decide) dL_law_2335 ?_
  refine lc_ci (C := RX11) (As := [.int (xs 1)]) (rest := []) K hP hPo hap1 hS (gc_X11_against l G (xs 1) o.2 o2 h11) gk_X11_against gv_1731 ⟨gv_1732, gv_1733⟩ (va_recv hT.2.1 hP (ci := 13) (q0 := 33) rfl rfl) rfl rfl (Nat.le_of_ble_eq_true rfl) hl.1 ⟨rfl, rfl⟩ ⟨Nat.le_of_ble_eq_true rfl, Nat.le_of_ble_eq_true rfl⟩ ⟨Nat.le_of_ble_eq_true rfl, Nat.le_of_ble_eq_true rfl⟩ dL_law_2336 (fun H hP hPo hS => ?_)
  refine lv_istore (lv' := [(7, .int o2.1), (6, .int r), (5, .int 0), (4, .ref hd), (3, .ref ho), (2, .ref (G.2.1 33)), (1, .ref (G.2.1 0)), (0, .ref b)]) hx hb dL_law_2339 hl (by decide) rfl (fun ls hl => ?_)
  refine lv_aload_n hx hb dL_law_2341 rfl (lv_at hl 5 rfl) ?_
  refine lc_ci (C := RX11) (As := []) (rest := []) K hP hPo hap1 hS (gc_X11_thrown l G o2.2 _ rfl) gk_X11_thrown gv_1191 ⟨gv_1192, gv_1193⟩ (va_recv hT.2.1 hP (ci := 13) (q0 := 33) rfl rfl) rfl rfl (Nat.le_of_ble_eq_true rfl) hl.1 ⟨rfl, rfl⟩ ⟨Nat.le_of_ble_eq_true rfl, Nat.le_of_ble_eq_true rfl⟩ ⟨Nat.le_of_ble_eq_true rfl, Nat.le_of_ble_eq_true rfl⟩ dL_law_2342 (fun H hP hPo hS => ?_)
  refine lv_iload hx hb dL_law_2345 (lv_at hl 1 rfl) ?_
  refine lv_icmp_eq (tgt := 2352) hx hb dL_law_2347 (by decide) (fun _ => ?_) (fun z => absurd ht z)
  refine lv_iload hx hb dL_law_2352 (lv_at hl 1 rfl) ?_
  refine lv_if_ne (tgt := 2369) hx hb dL_law_2354 (by decide) (fun _ => ?_) (fun hr0 => ?_)
  · refine lv_goto (tgt := 2737) hx hb dL_law_2369 (by decide) ?_
    exact lc_end K rfl hS (lv_sub hl [2, 7] rfl) (Nat.le_of_ble_eq_true rfl) (Nat.le_of_ble_eq_true rfl)
  · have hv := hv hr0
    refine lv_aload_n hx hb dL_law_2357 rfl (lv_at hl 4 rfl) ?_
    refine lv_iconst (v := 0) hx hb dL_law_2358 (by decide) ?_
    refine va_lald (D := G.1) hx hb hKo2 hPo 0 0 (n := 1) (f := f2) rfl rfl (by unfold vp_in; decide) dL_law_2359 ?_
    refine lv_iload hx hb dL_law_2360 (lv_at hl 0 rfl) ?_
    refine lv_i2l hx hb dL_law_2362 rfl ?_
    refine W.lcmp hx hb dL_law_2363 ?_
    refine lv_if_eq (tgt := 2369) hx hb dL_law_2364 (by decide) (fun _ => ?_) (fun z => absurd (by rw [show f2 (0 : Int32).toNatClampNeg = f2 0 from rfl, hv]; exact lc_cmp _) z)
    refine lv_goto (tgt := 2737) hx hb dL_law_2369 (by decide) ?_
    exact lc_end K rfl hS (lv_sub hl [2, 7] rfl) (Nat.le_of_ble_eq_true rfl) (Nat.le_of_ble_eq_true rfl)
set_option maxHeartbeats 4000000 in
set_option maxRecDepth 100000 in
theorem lc_35_swap (l : Launch) (hfl : l.stackTraces = false) {p : Program} {e : Env} {s : State} {m : MethodId} {below : List Frame} {meth : Method} {c : Code} {H : Heap} {b : Nat} {xs : Nat → Int32} {G : gw_G} {cL cD : ClassId} {ho hd : Nat} {ls : Array Slot} (K : lc_C p s m meth c b 5 xs G cL cD ho hd) (hP : gw_P G lo_z H) (hPo : va_P G.1 vwCl [(ho, .inl (cL, 1, .inr (.inl (fun _ => 0))))] H) (hS : va_S (fun q => s.heap.size ≤ q) s.heap H []) (hl : lv_has ls 9 [(5, .int 0), (4, .ref hd), (3, .ref ho), (2, .ref (G.2.1 33)), (1, .ref (G.2.1 0)), (0, .ref b)]) (r : Int32) (f2 : Nat → Int64) (o : (Int32 ⊕ String) × gw_S) (h8 : f_X8_swap (xs 1) (xs 2) lo_z = some o) (hw : w_swap (fun _ => 0) o.1 = some (r, f2)) (o2 : Int32 × gw_S) (h11 : f_X11_swap (xs 1) (xs 2) o.2 = some o2) (ht : o2.2 33 4 = r) (hv : r = 0 → f2 0 = (if o2.1 = 0 then (0 : Int64) else (1 : Int64))) : W p l e room_1 s m #[Value.ref b] below meth c H [] 40 1183 (lw_Z below #[Value.ref b] s) (F0 m 2372 ls []) := by
  obtain ⟨X, -, -, -, -, hKo2, -, hap1, hap2, -, -, hg1, hg2⟩ := id K
  obtain ⟨hx, hb, -, hown, hts, hT, -⟩ := id X
  refine lv_aload_n hx hb dL_law_2372 rfl (lv_at hl 4 rfl) ?_
  refine lv_aload_n hx hb dL_law_2373 rfl (lv_at hl 5 rfl) ?_
  refine lv_iload hx hb dL_law_2374 (lv_at hl 0 rfl) ?_
  refine lv_iconst (v := 1) hx hb dL_law_2376 (by decide) ?_
  refine lv_iadd hx hb dL_law_2377 ?_
  refine lc_sld K hS (j := 1) (by decide) (by unfold vp_in; decide) dL_law_2378 ?_
  refine lv_aload_n hx hb dL_law_2379 rfl (lv_at hl 5 rfl) ?_
  refine lv_iload hx hb dL_law_2380 (lv_at hl 0 rfl) ?_
  refine lv_iconst (v := 2) hx hb dL_law_2382 (by decide) ?_
  refine lv_iadd hx hb dL_law_2383 ?_
  refine lc_sld K hS (j := 2) (by decide) (by unfold vp_in; decide) dL_law_2384 ?_
  refine lv_aload_n hx hb dL_law_2385 rfl (lv_at hl 2 rfl) ?_
  refine lc_call (n := 4) (hq := ho) (x := .inl (cL, 1, .inr (.inl (fun _ => 0)))) (As := [.ref (G.2.1 0), .int (xs 1), .int (xs 2), .ref ho]) (rest := []) K hP hPo hS (hKo2.sub [0] rfl) hap1 hg1 (gl_swap l hfl G (xs 1) (xs 2) cL ho (fun _ => 0) f2 r lo_z o h8 hw) ⟨gv_1094, gv_0, by decide +kernel, by decide +kernel⟩ gv_1092 gv_1093 rfl rfl (Nat.le_of_ble_eq_true rfl) hl.1 ⟨rfl, rfl⟩ ⟨Nat.le_of_ble_eq_true rfl, Nat.le_of_ble_eq_true rfl⟩ ⟨Nat.le_of_ble_eq_true rfl, Nat.le_of_ble_eq_true rfl⟩ dL_law_2386 (fun H hP hPo _ hS => ?_)
  refine lv_istore (lv' := [(6, .int r), (5, .int 0), (4, .ref hd), (3, .ref ho), (2, .ref (G.2.1 33)), (1, .ref (G.2.1 0)), (0, .ref b)]) hx hb dL_law_2389 hl (by decide) rfl (fun ls hl => ?_)
  refine lv_aload_n hx hb dL_law_2391 rfl (lv_at hl 4 rfl) ?_
  refine lv_aload_n hx hb dL_law_2392 rfl (lv_at hl 6 rfl) ?_
  refine lv_iload hx hb dL_law_2393 (lv_at hl 1 rfl) ?_
  refine lv_iconst (v := 1) hx hb dL_law_2395 (by decide) ?_
  refine lv_iadd hx hb dL_law_2396 ?_
  refine lc_sld K hS (j := 1) (by decide) (by unfold vp_in; decide) dL_law_2397 ?_
  refine lv_aload_n hx hb dL_law_2398 rfl (lv_at hl 6 rfl) ?_
  refine lv_iload hx hb dL_law_2399 (lv_at hl 1 rfl) ?_
  refine lv_iconst (v := 2) hx hb dL_law_2401 (by decide) ?_
  refine lv_iadd hx hb dL_law_2402 ?_
  refine lc_sld K hS (j := 2) (by decide) (by unfold vp_in; decide) dL_law_2403 ?_
  refine lc_cz (C := RX11) (As := [.int (xs 1), .int (xs 2)]) (rest := []) K hP hPo hap1 hS (gc_X11_swap l G (xs 1) (xs 2) o.2 o2 h11) gk_X11_swap gv_1739 ⟨gv_1740, gv_1741⟩ (va_recv hT.2.1 hP (ci := 13) (q0 := 33) rfl rfl) rfl rfl (Nat.le_of_ble_eq_true rfl) hl.1 ⟨rfl, rfl⟩ ⟨Nat.le_of_ble_eq_true rfl, Nat.le_of_ble_eq_true rfl⟩ ⟨Nat.le_of_ble_eq_true rfl, Nat.le_of_ble_eq_true rfl⟩ dL_law_2404 (fun H hP hPo hS => ?_)
  refine lv_istore (lv' := [(7, .int o2.1), (6, .int r), (5, .int 0), (4, .ref hd), (3, .ref ho), (2, .ref (G.2.1 33)), (1, .ref (G.2.1 0)), (0, .ref b)]) hx hb dL_law_2407 hl (by decide) rfl (fun ls hl => ?_)
  refine lv_aload_n hx hb dL_law_2409 rfl (lv_at hl 5 rfl) ?_
  refine lc_ci (C := RX11) (As := []) (rest := []) K hP hPo hap1 hS (gc_X11_thrown l G o2.2 _ rfl) gk_X11_thrown gv_1191 ⟨gv_1192, gv_1193⟩ (va_recv hT.2.1 hP (ci := 13) (q0 := 33) rfl rfl) rfl rfl (Nat.le_of_ble_eq_true rfl) hl.1 ⟨rfl, rfl⟩ ⟨Nat.le_of_ble_eq_true rfl, Nat.le_of_ble_eq_true rfl⟩ ⟨Nat.le_of_ble_eq_true rfl, Nat.le_of_ble_eq_true rfl⟩ dL_law_2410 (fun H hP hPo hS => ?_)
  refine lv_iload hx hb dL_law_2413 (lv_at hl 1 rfl) ?_
  refine lv_icmp_eq (tgt := 2420) hx hb dL_law_2415 (by decide) (fun _ => ?_) (fun z => absurd ht z)
  refine lv_iload hx hb dL_law_2420 (lv_at hl 1 rfl) ?_
  refine lv_if_ne (tgt := 2444) hx hb dL_law_2422 (by decide) (fun _ => ?_) (fun hr0 => ?_)
  · refine lv_goto (tgt := 2737) hx hb dL_law_2444 (by decide) ?_
    exact lc_end K rfl hS (lv_sub hl [2, 7] rfl) (Nat.le_of_ble_eq_true rfl) (Nat.le_of_ble_eq_true rfl)
  · have hv := hv hr0
    refine lv_aload_n hx hb dL_law_2425 rfl (lv_at hl 4 rfl) ?_
    refine lv_iconst (v := 0) hx hb dL_law_2426 (by decide) ?_
    refine va_lald (D := G.1) hx hb hKo2 hPo 0 0 (n := 1) (f := f2) rfl rfl (by unfold vp_in; decide) dL_law_2427 ?_
    refine lv_iload hx hb dL_law_2428 (lv_at hl 0 rfl) ?_
    refine lv_if_eq (tgt := 2437) hx hb dL_law_2430 (by decide) (fun z0 => ?_) (fun z0 => ?_)
    · have hv := hv.trans (if_pos z0)
      refine lv_lconst (v := 0) hx hb dL_law_2437 (by decide) ?_
      refine W.lcmp hx hb dL_law_2438 ?_
      refine lv_if_eq (tgt := 2444) hx hb dL_law_2439 (by decide) (fun _ => ?_) (fun z => absurd (by rw [show f2 (0 : Int32).toNatClampNeg = f2 0 from rfl, hv]; exact lc_cmp _) z)
      refine lv_goto (tgt := 2737) hx hb dL_law_2444 (by decide) ?_
      exact lc_end K rfl hS (lv_sub hl [2, 7] rfl) (Nat.le_of_ble_eq_true rfl) (Nat.le_of_ble_eq_true rfl)
    · have hv := hv.trans (if_neg z0)
      refine lv_lconst (v := 1) hx hb dL_law_2433 (by decide) ?_
      refine lv_goto (tgt := 2438) hx hb dL_law_2434 (by decide) ?_
      refine W.lcmp hx hb dL_law_2438 ?_
      refine lv_if_eq (tgt := 2444) hx hb dL_law_2439 (by decide) (fun _ => ?_) (fun z => absurd (by rw [show f2 (0 : Int32).toNatClampNeg = f2 0 from rfl, hv]; exact lc_cmp _) z)
      refine lv_goto (tgt := 2737) hx hb dL_law_2444 (by decide) ?_
      exact lc_end K rfl hS (lv_sub hl [2, 7] rfl) (Nat.le_of_ble_eq_true rfl) (Nat.le_of_ble_eq_true rfl)
set_option maxHeartbeats 4000000 in
set_option maxRecDepth 100000 in
theorem lc_36_goes (l : Launch) (hfl : l.stackTraces = false) {p : Program} {e : Env} {s : State} {m : MethodId} {below : List Frame} {meth : Method} {c : Code} {H : Heap} {b : Nat} {xs : Nat → Int32} {G : gw_G} {cL cD : ClassId} {ho hd : Nat} {ls : Array Slot} (K : lc_C p s m meth c b 5 xs G cL cD ho hd) (hP : gw_P G lo_z H) (hPo : va_P G.1 vwCl [(ho, .inl (cL, 1, .inr (.inl (fun _ => 0))))] H) (hS : va_S (fun q => s.heap.size ≤ q) s.heap H []) (hl : lv_has ls 9 [(5, .int 0), (4, .ref hd), (3, .ref ho), (2, .ref (G.2.1 33)), (1, .ref (G.2.1 0)), (0, .ref b)]) (r : Int32) (f2 : Nat → Int64) (o : (Int32 ⊕ String) × gw_S) (h8 : f_X8_goes (xs 1) lo_z = some o) (hw : w_goes (fun _ => 0) o.1 = some (r, f2)) (o2 : Int32 × gw_S) (h11 : f_X11_goes (xs 1) o.2 = some o2) (ht : o2.2 33 4 = r) (hv : r = 0 → f2 0 = o2.1.toInt64) : W p l e room_1 s m #[Value.ref b] below meth c H [] 40 1183 (lw_Z below #[Value.ref b] s) (F0 m 2447 ls []) := by
  obtain ⟨X, -, -, -, -, hKo2, -, hap1, hap2, -, -, hg1, hg2⟩ := id K
  obtain ⟨hx, hb, -, hown, hts, hT, -⟩ := id X
  refine lv_aload_n hx hb dL_law_2447 rfl (lv_at hl 4 rfl) ?_
  refine lv_aload_n hx hb dL_law_2448 rfl (lv_at hl 5 rfl) ?_
  refine lv_iload hx hb dL_law_2449 (lv_at hl 0 rfl) ?_
  refine lv_iconst (v := 1) hx hb dL_law_2451 (by decide) ?_
  refine lv_iadd hx hb dL_law_2452 ?_
  refine lc_sld K hS (j := 1) (by decide) (by unfold vp_in; decide) dL_law_2453 ?_
  refine lv_aload_n hx hb dL_law_2454 rfl (lv_at hl 2 rfl) ?_
  refine lc_call (n := 3) (hq := ho) (x := .inl (cL, 1, .inr (.inl (fun _ => 0)))) (As := [.ref (G.2.1 0), .int (xs 1), .ref ho]) (rest := []) K hP hPo hS (hKo2.sub [0] rfl) hap1 hg1 (gl_goes l hfl G (xs 1) cL ho (fun _ => 0) f2 r lo_z o h8 hw) ⟨gv_1110, gv_0, by decide +kernel, by decide +kernel⟩ gv_1108 gv_1109 rfl rfl (Nat.le_of_ble_eq_true rfl) hl.1 ⟨rfl, rfl⟩ ⟨Nat.le_of_ble_eq_true rfl, Nat.le_of_ble_eq_true rfl⟩ ⟨Nat.le_of_ble_eq_true rfl, Nat.le_of_ble_eq_true rfl⟩ dL_law_2455 (fun H hP hPo _ hS => ?_)
  refine lv_istore (lv' := [(6, .int r), (5, .int 0), (4, .ref hd), (3, .ref ho), (2, .ref (G.2.1 33)), (1, .ref (G.2.1 0)), (0, .ref b)]) hx hb dL_law_2458 hl (by decide) rfl (fun ls hl => ?_)
  refine lv_aload_n hx hb dL_law_2460 rfl (lv_at hl 4 rfl) ?_
  refine lv_aload_n hx hb dL_law_2461 rfl (lv_at hl 6 rfl) ?_
  refine lv_iload hx hb dL_law_2462 (lv_at hl 1 rfl) ?_
  refine lv_iconst (v := 1) hx hb dL_law_2464 (by decide) ?_
  refine lv_iadd hx hb dL_law_2465 ?_
  refine lc_sld K hS (j := 1) (by decide) (by unfold vp_in; decide) dL_law_2466 ?_
  refine lc_ci (C := RX11) (As := [.int (xs 1)]) (rest := []) K hP hPo hap1 hS (gc_X11_goes l G (xs 1) o.2 o2 h11) gk_X11_goes gv_1747 ⟨gv_1748, gv_1749⟩ (va_recv hT.2.1 hP (ci := 13) (q0 := 33) rfl rfl) rfl rfl (Nat.le_of_ble_eq_true rfl) hl.1 ⟨rfl, rfl⟩ ⟨Nat.le_of_ble_eq_true rfl, Nat.le_of_ble_eq_true rfl⟩ ⟨Nat.le_of_ble_eq_true rfl, Nat.le_of_ble_eq_true rfl⟩ dL_law_2467 (fun H hP hPo hS => ?_)
  refine lv_istore (lv' := [(7, .int o2.1), (6, .int r), (5, .int 0), (4, .ref hd), (3, .ref ho), (2, .ref (G.2.1 33)), (1, .ref (G.2.1 0)), (0, .ref b)]) hx hb dL_law_2470 hl (by decide) rfl (fun ls hl => ?_)
  refine lv_aload_n hx hb dL_law_2472 rfl (lv_at hl 5 rfl) ?_
  refine lc_ci (C := RX11) (As := []) (rest := []) K hP hPo hap1 hS (gc_X11_thrown l G o2.2 _ rfl) gk_X11_thrown gv_1191 ⟨gv_1192, gv_1193⟩ (va_recv hT.2.1 hP (ci := 13) (q0 := 33) rfl rfl) rfl rfl (Nat.le_of_ble_eq_true rfl) hl.1 ⟨rfl, rfl⟩ ⟨Nat.le_of_ble_eq_true rfl, Nat.le_of_ble_eq_true rfl⟩ ⟨Nat.le_of_ble_eq_true rfl, Nat.le_of_ble_eq_true rfl⟩ dL_law_2473 (fun H hP hPo hS => ?_)
  refine lv_iload hx hb dL_law_2476 (lv_at hl 1 rfl) ?_
  refine lv_icmp_eq (tgt := 2483) hx hb dL_law_2478 (by decide) (fun _ => ?_) (fun z => absurd ht z)
  refine lv_iload hx hb dL_law_2483 (lv_at hl 1 rfl) ?_
  refine lv_if_ne (tgt := 2500) hx hb dL_law_2485 (by decide) (fun _ => ?_) (fun hr0 => ?_)
  · refine lv_goto (tgt := 2737) hx hb dL_law_2500 (by decide) ?_
    exact lc_end K rfl hS (lv_sub hl [2, 7] rfl) (Nat.le_of_ble_eq_true rfl) (Nat.le_of_ble_eq_true rfl)
  · have hv := hv hr0
    refine lv_aload_n hx hb dL_law_2488 rfl (lv_at hl 4 rfl) ?_
    refine lv_iconst (v := 0) hx hb dL_law_2489 (by decide) ?_
    refine va_lald (D := G.1) hx hb hKo2 hPo 0 0 (n := 1) (f := f2) rfl rfl (by unfold vp_in; decide) dL_law_2490 ?_
    refine lv_iload hx hb dL_law_2491 (lv_at hl 0 rfl) ?_
    refine lv_i2l hx hb dL_law_2493 rfl ?_
    refine W.lcmp hx hb dL_law_2494 ?_
    refine lv_if_eq (tgt := 2500) hx hb dL_law_2495 (by decide) (fun _ => ?_) (fun z => absurd (by rw [show f2 (0 : Int32).toNatClampNeg = f2 0 from rfl, hv]; exact lc_cmp _) z)
    refine lv_goto (tgt := 2737) hx hb dL_law_2500 (by decide) ?_
    exact lc_end K rfl hS (lv_sub hl [2, 7] rfl) (Nat.le_of_ble_eq_true rfl) (Nat.le_of_ble_eq_true rfl)
set_option maxHeartbeats 4000000 in
set_option maxRecDepth 100000 in
theorem lc_37_isFixed (l : Launch) (hfl : l.stackTraces = false) {p : Program} {e : Env} {s : State} {m : MethodId} {below : List Frame} {meth : Method} {c : Code} {H : Heap} {b : Nat} {xs : Nat → Int32} {G : gw_G} {cL cD : ClassId} {ho hd : Nat} {ls : Array Slot} (K : lc_C p s m meth c b 5 xs G cL cD ho hd) (hP : gw_P G lo_z H) (hPo : va_P G.1 vwCl [(ho, .inl (cL, 1, .inr (.inl (fun _ => 0))))] H) (hS : va_S (fun q => s.heap.size ≤ q) s.heap H []) (hl : lv_has ls 9 [(5, .int 0), (4, .ref hd), (3, .ref ho), (2, .ref (G.2.1 33)), (1, .ref (G.2.1 0)), (0, .ref b)]) (r : Int32) (f2 : Nat → Int64) (o : (Int32 ⊕ String) × gw_S) (h8 : f_X8_isFixed (xs 1) lo_z = some o) (hw : w_isFixed (fun _ => 0) o.1 = some (r, f2)) (o2 : Int32 × gw_S) (h11 : f_X11_isFixed (xs 1) o.2 = some o2) (ht : o2.2 33 4 = r) (hv : r = 0 → f2 0 = (if o2.1 = 0 then (0 : Int64) else (1 : Int64))) : W p l e room_1 s m #[Value.ref b] below meth c H [] 40 1183 (lw_Z below #[Value.ref b] s) (F0 m 2503 ls []) := by
  obtain ⟨X, -, -, -, -, hKo2, -, hap1, hap2, -, -, hg1, hg2⟩ := id K
  obtain ⟨hx, hb, -, hown, hts, hT, -⟩ := id X
  refine lv_aload_n hx hb dL_law_2503 rfl (lv_at hl 4 rfl) ?_
  refine lv_aload_n hx hb dL_law_2504 rfl (lv_at hl 5 rfl) ?_
  refine lv_iload hx hb dL_law_2505 (lv_at hl 0 rfl) ?_
  refine lv_iconst (v := 1) hx hb dL_law_2507 (by decide) ?_
  refine lv_iadd hx hb dL_law_2508 ?_
  refine lc_sld K hS (j := 1) (by decide) (by unfold vp_in; decide) dL_law_2509 ?_
  refine lv_aload_n hx hb dL_law_2510 rfl (lv_at hl 2 rfl) ?_
  refine lc_call (n := 3) (hq := ho) (x := .inl (cL, 1, .inr (.inl (fun _ => 0)))) (As := [.ref (G.2.1 0), .int (xs 1), .ref ho]) (rest := []) K hP hPo hS (hKo2.sub [0] rfl) hap1 hg1 (gl_isFixed l hfl G (xs 1) cL ho (fun _ => 0) f2 r lo_z o h8 hw) ⟨gv_1118, gv_0, by decide +kernel, by decide +kernel⟩ gv_1116 gv_1117 rfl rfl (Nat.le_of_ble_eq_true rfl) hl.1 ⟨rfl, rfl⟩ ⟨Nat.le_of_ble_eq_true rfl, Nat.le_of_ble_eq_true rfl⟩ ⟨Nat.le_of_ble_eq_true rfl, Nat.le_of_ble_eq_true rfl⟩ dL_law_2511 (fun H hP hPo _ hS => ?_)
  refine lv_istore (lv' := [(6, .int r), (5, .int 0), (4, .ref hd), (3, .ref ho), (2, .ref (G.2.1 33)), (1, .ref (G.2.1 0)), (0, .ref b)]) hx hb dL_law_2514 hl (by decide) rfl (fun ls hl => ?_)
  refine lv_aload_n hx hb dL_law_2516 rfl (lv_at hl 4 rfl) ?_
  refine lv_aload_n hx hb dL_law_2517 rfl (lv_at hl 6 rfl) ?_
  refine lv_iload hx hb dL_law_2518 (lv_at hl 1 rfl) ?_
  refine lv_iconst (v := 1) hx hb dL_law_2520 (by decide) ?_
  refine lv_iadd hx hb dL_law_2521 ?_
  refine lc_sld K hS (j := 1) (by decide) (by unfold vp_in; decide) dL_law_2522 ?_
  refine lc_cz (C := RX11) (As := [.int (xs 1)]) (rest := []) K hP hPo hap1 hS (gc_X11_isFixed l G (xs 1) o.2 o2 h11) gk_X11_isFixed gv_1751 ⟨gv_1752, gv_1753⟩ (va_recv hT.2.1 hP (ci := 13) (q0 := 33) rfl rfl) rfl rfl (Nat.le_of_ble_eq_true rfl) hl.1 ⟨rfl, rfl⟩ ⟨Nat.le_of_ble_eq_true rfl, Nat.le_of_ble_eq_true rfl⟩ ⟨Nat.le_of_ble_eq_true rfl, Nat.le_of_ble_eq_true rfl⟩ dL_law_2523 (fun H hP hPo hS => ?_)
  refine lv_istore (lv' := [(7, .int o2.1), (6, .int r), (5, .int 0), (4, .ref hd), (3, .ref ho), (2, .ref (G.2.1 33)), (1, .ref (G.2.1 0)), (0, .ref b)]) hx hb dL_law_2526 hl (by decide) rfl (fun ls hl => ?_)
  refine lv_aload_n hx hb dL_law_2528 rfl (lv_at hl 5 rfl) ?_
  refine lc_ci (C := RX11) (As := []) (rest := []) K hP hPo hap1 hS (gc_X11_thrown l G o2.2 _ rfl) gk_X11_thrown gv_1191 ⟨gv_1192, gv_1193⟩ (va_recv hT.2.1 hP (ci := 13) (q0 := 33) rfl rfl) rfl rfl (Nat.le_of_ble_eq_true rfl) hl.1 ⟨rfl, rfl⟩ ⟨Nat.le_of_ble_eq_true rfl, Nat.le_of_ble_eq_true rfl⟩ ⟨Nat.le_of_ble_eq_true rfl, Nat.le_of_ble_eq_true rfl⟩ dL_law_2529 (fun H hP hPo hS => ?_)
  refine lv_iload hx hb dL_law_2532 (lv_at hl 1 rfl) ?_
  refine lv_icmp_eq (tgt := 2539) hx hb dL_law_2534 (by decide) (fun _ => ?_) (fun z => absurd ht z)
  refine lv_iload hx hb dL_law_2539 (lv_at hl 1 rfl) ?_
  refine lv_if_ne (tgt := 2563) hx hb dL_law_2541 (by decide) (fun _ => ?_) (fun hr0 => ?_)
  · refine lv_goto (tgt := 2737) hx hb dL_law_2563 (by decide) ?_
    exact lc_end K rfl hS (lv_sub hl [2, 7] rfl) (Nat.le_of_ble_eq_true rfl) (Nat.le_of_ble_eq_true rfl)
  · have hv := hv hr0
    refine lv_aload_n hx hb dL_law_2544 rfl (lv_at hl 4 rfl) ?_
    refine lv_iconst (v := 0) hx hb dL_law_2545 (by decide) ?_
    refine va_lald (D := G.1) hx hb hKo2 hPo 0 0 (n := 1) (f := f2) rfl rfl (by unfold vp_in; decide) dL_law_2546 ?_
    refine lv_iload hx hb dL_law_2547 (lv_at hl 0 rfl) ?_
    refine lv_if_eq (tgt := 2556) hx hb dL_law_2549 (by decide) (fun z0 => ?_) (fun z0 => ?_)
    · have hv := hv.trans (if_pos z0)
      refine lv_lconst (v := 0) hx hb dL_law_2556 (by decide) ?_
      refine W.lcmp hx hb dL_law_2557 ?_
      refine lv_if_eq (tgt := 2563) hx hb dL_law_2558 (by decide) (fun _ => ?_) (fun z => absurd (by rw [show f2 (0 : Int32).toNatClampNeg = f2 0 from rfl, hv]; exact lc_cmp _) z)
      refine lv_goto (tgt := 2737) hx hb dL_law_2563 (by decide) ?_
      exact lc_end K rfl hS (lv_sub hl [2, 7] rfl) (Nat.le_of_ble_eq_true rfl) (Nat.le_of_ble_eq_true rfl)
    · have hv := hv.trans (if_neg z0)
      refine lv_lconst (v := 1) hx hb dL_law_2552 (by decide) ?_
      refine lv_goto (tgt := 2557) hx hb dL_law_2553 (by decide) ?_
      refine W.lcmp hx hb dL_law_2557 ?_
      refine lv_if_eq (tgt := 2563) hx hb dL_law_2558 (by decide) (fun _ => ?_) (fun z => absurd (by rw [show f2 (0 : Int32).toNatClampNeg = f2 0 from rfl, hv]; exact lc_cmp _) z)
      refine lv_goto (tgt := 2737) hx hb dL_law_2563 (by decide) ?_
      exact lc_end K rfl hS (lv_sub hl [2, 7] rfl) (Nat.le_of_ble_eq_true rfl) (Nat.le_of_ble_eq_true rfl)
set_option maxHeartbeats 4000000 in
set_option maxRecDepth 100000 in
theorem lc_38_clear (l : Launch) {p : Program} {e : Env} {s : State} {m : MethodId} {below : List Frame} {meth : Method} {c : Code} {H : Heap} {b : Nat} {xs : Nat → Int32} {G : gw_G} {cL cD : ClassId} {ho hd : Nat} {ls : Array Slot} (K : lc_C p s m meth c b 5 xs G cL cD ho hd) (hP : gw_P G lo_z H) (hPo : va_P G.1 vwCl [(ho, .inl (cL, 1, .inr (.inl (fun _ => 0))))] H) (hS : va_S (fun q => s.heap.size ≤ q) s.heap H []) (hl : lv_has ls 9 [(5, .int 0), (4, .ref hd), (3, .ref ho), (2, .ref (G.2.1 33)), (1, .ref (G.2.1 0)), (0, .ref b)]) (o : Int32 × gw_S) (h8 : f_X8_clear lo_z = some o) (o2 : Int32 × gw_S) (h11 : f_X11_clear o.2 = some o2) (hv : o.1 = o2.1) : W p l e room_1 s m #[Value.ref b] below meth c H [] 40 1183 (lw_Z below #[Value.ref b] s) (F0 m 2566 ls []) := by
  obtain ⟨X, -, -, -, -, hKo2, -, hap1, hap2, -, -, hg1, hg2⟩ := id K
  obtain ⟨hx, hb, -, hown, hts, hT, -⟩ := id X
  refine lv_aload_n hx hb dL_law_2566 rfl (lv_at hl 4 rfl) ?_
  refine lc_ci (C := RX8) (As := []) (rest := []) K hP hPo hap1 hS (gc_X8_clear l G lo_z o h8) gk_X8_clear gv_288 ⟨gv_289, gv_290⟩ (va_recv hT.2.1 hP (ci := 10) (q0 := 0) rfl rfl) rfl rfl (Nat.le_of_ble_eq_true rfl) hl.1 ⟨rfl, rfl⟩ ⟨Nat.le_of_ble_eq_true rfl, Nat.le_of_ble_eq_true rfl⟩ ⟨Nat.le_of_ble_eq_true rfl, Nat.le_of_ble_eq_true rfl⟩ dL_law_2567 (fun H hP hPo hS => ?_)
  refine lv_aload_n hx hb dL_law_2570 rfl (lv_at hl 3 rfl) ?_
  refine lc_ci (C := RX11) (As := []) (rest := [.int o.1]) K hP hPo hap1 hS (gc_X11_clear l G o.2 o2 h11) gk_X11_clear gv_1759 ⟨gv_1760, gv_1761⟩ (va_recv hT.2.1 hP (ci := 13) (q0 := 33) rfl rfl) rfl rfl (Nat.le_of_ble_eq_true rfl) hl.1 ⟨rfl, rfl⟩ ⟨Nat.le_of_ble_eq_true rfl, Nat.le_of_ble_eq_true rfl⟩ ⟨Nat.le_of_ble_eq_true rfl, Nat.le_of_ble_eq_true rfl⟩ dL_law_2571 (fun H hP hPo hS => ?_)
  refine lv_icmp_eq (tgt := 2737) hx hb dL_law_2574 (by decide) (fun _ => ?_) (fun z => absurd hv z)
  exact lc_end K rfl hS (lv_sub hl [0, 5] rfl) (Nat.le_of_ble_eq_true rfl) (Nat.le_of_ble_eq_true rfl)
set_option maxHeartbeats 4000000 in
set_option maxRecDepth 100000 in
theorem lc_40_lastShare (l : Launch) (hfl : l.stackTraces = false) {p : Program} {e : Env} {s : State} {m : MethodId} {below : List Frame} {meth : Method} {c : Code} {H : Heap} {b : Nat} {xs : Nat → Int32} {G : gw_G} {cL cD : ClassId} {ho hd : Nat} {ls : Array Slot} (K : lc_C p s m meth c b 5 xs G cL cD ho hd) (hP : gw_P G lo_z H) (hPo : va_P G.1 vwCl [(hd, .inl (cD, 1, .inr (.inr (.inr (.inl (fun _ => 0))))))] H) (hS : va_S (fun q => s.heap.size ≤ q) s.heap H []) (hl : lv_has ls 9 [(5, .int 0), (4, .ref hd), (3, .ref ho), (2, .ref (G.2.1 33)), (1, .ref (G.2.1 0)), (0, .ref b)]) (r : Int32) (f2 : Nat → UInt64) (o : (UInt32 ⊕ String) × gw_S) (h8 : f_X8_lastShare lo_z = some o) (hw : w_lastShare (fun _ => 0) o.1 = some (r, f2)) (o2 : UInt32 × gw_S) (h11 : f_X11_lastShare o.2 = some o2) (ht : o2.2 33 4 = r) (hv : ¬ r = 0) : W p l e room_1 s m #[Value.ref b] below meth c H [] 40 1183 (lw_Z below #[Value.ref b] s) (F0 m 2593 ls []) := by
  obtain ⟨X, -, -, -, -, hKo2, -, hap1, hap2, -, -, hg1, hg2⟩ := id K
  obtain ⟨hx, hb, -, hown, hts, hT, -⟩ := id X
  refine lv_aload_n hx hb dL_law_2593 rfl (lv_at hl 4 rfl) ?_
  refine lv_aload hx hb dL_law_2594 (lv_at hl 1 rfl) ?_
  refine lc_call (n := 2) (hq := hd) (x := .inl (cD, 1, .inr (.inr (.inr (.inl (fun _ => 0)))))) (As := [.ref (G.2.1 0), .ref hd]) (rest := []) K hP hPo hS (hKo2.sub [1] rfl) hap2 hg2 (gl_lastShare l hfl G cD hd (fun _ => 0) f2 r lo_z o h8 hw) ⟨gv_1126, gv_0, by decide +kernel, by decide +kernel⟩ gv_1124 gv_1125 rfl rfl (Nat.le_of_ble_eq_true rfl) hl.1 ⟨rfl, rfl⟩ ⟨Nat.le_of_ble_eq_true rfl, Nat.le_of_ble_eq_true rfl⟩ ⟨Nat.le_of_ble_eq_true rfl, Nat.le_of_ble_eq_true rfl⟩ dL_law_2596 (fun H hP hPo _ hS => ?_)
  refine lv_istore (lv' := [(6, .int r), (5, .int 0), (4, .ref hd), (3, .ref ho), (2, .ref (G.2.1 33)), (1, .ref (G.2.1 0)), (0, .ref b)]) hx hb dL_law_2599 hl (by decide) rfl (fun ls hl => ?_)
  refine lv_aload_n hx hb dL_law_2601 rfl (lv_at hl 4 rfl) ?_
  refine lc_cf (C := RX11) (As := []) (rest := []) K hP hPo hap2 hS (gc_X11_lastShare l G o.2 o2 h11) gk_X11_lastShare gv_1779 ⟨gv_1780, gv_1781⟩ (va_recv hT.2.1 hP (ci := 13) (q0 := 33) rfl rfl) rfl rfl (Nat.le_of_ble_eq_true rfl) hl.1 ⟨rfl, rfl⟩ ⟨Nat.le_of_ble_eq_true rfl, Nat.le_of_ble_eq_true rfl⟩ ⟨Nat.le_of_ble_eq_true rfl, Nat.le_of_ble_eq_true rfl⟩ dL_law_2602 (fun H hP hPo hS => ?_)
  refine lv_fstore (lv' := [(7, .float o2.1), (6, .int r), (5, .int 0), (4, .ref hd), (3, .ref ho), (2, .ref (G.2.1 33)), (1, .ref (G.2.1 0)), (0, .ref b)]) hx hb dL_law_2605 hl (by decide) rfl (fun ls hl => ?_)
  refine lv_aload_n hx hb dL_law_2607 rfl (lv_at hl 5 rfl) ?_
  refine lc_ci (C := RX11) (As := []) (rest := []) K hP hPo hap2 hS (gc_X11_thrown l G o2.2 _ rfl) gk_X11_thrown gv_1191 ⟨gv_1192, gv_1193⟩ (va_recv hT.2.1 hP (ci := 13) (q0 := 33) rfl rfl) rfl rfl (Nat.le_of_ble_eq_true rfl) hl.1 ⟨rfl, rfl⟩ ⟨Nat.le_of_ble_eq_true rfl, Nat.le_of_ble_eq_true rfl⟩ ⟨Nat.le_of_ble_eq_true rfl, Nat.le_of_ble_eq_true rfl⟩ dL_law_2608 (fun H hP hPo hS => ?_)
  refine lv_iload hx hb dL_law_2611 (lv_at hl 1 rfl) ?_
  refine lv_icmp_eq (tgt := 2618) hx hb dL_law_2613 (by decide) (fun _ => ?_) (fun z => absurd ht z)
  refine lv_iload hx hb dL_law_2618 (lv_at hl 1 rfl) ?_
  refine lv_if_ne (tgt := 2656) hx hb dL_law_2620 (by decide) (fun _ => ?_) (fun z => absurd z hv)
  refine lv_goto (tgt := 2737) hx hb dL_law_2656 (by decide) ?_
  exact lc_end K rfl hS (lv_sub hl [2, 7] rfl) (Nat.le_of_ble_eq_true rfl) (Nat.le_of_ble_eq_true rfl)
set_option maxHeartbeats 4000000 in
set_option maxRecDepth 100000 in
theorem lc_41_meanRank (l : Launch) (hfl : l.stackTraces = false) {p : Program} {e : Env} {s : State} {m : MethodId} {below : List Frame} {meth : Method} {c : Code} {H : Heap} {b : Nat} {xs : Nat → Int32} {G : gw_G} {cL cD : ClassId} {ho hd : Nat} {ls : Array Slot} (K : lc_C p s m meth c b 5 xs G cL cD ho hd) (hP : gw_P G lo_z H) (hPo : va_P G.1 vwCl [(hd, .inl (cD, 1, .inr (.inr (.inr (.inl (fun _ => 0))))))] H) (hS : va_S (fun q => s.heap.size ≤ q) s.heap H []) (hl : lv_has ls 9 [(5, .int 0), (4, .ref hd), (3, .ref ho), (2, .ref (G.2.1 33)), (1, .ref (G.2.1 0)), (0, .ref b)]) (r : Int32) (f2 : Nat → UInt64) (o : (UInt64 ⊕ String) × gw_S) (h8 : f_X8_meanRank lo_z = some o) (hw : w_meanRank (fun _ => 0) o.1 = some (r, f2)) (o2 : UInt64 × gw_S) (h11 : f_X11_meanRank o.2 = some o2) (ht : o2.2 33 4 = r) (hv : ¬ r = 0) : W p l e room_1 s m #[Value.ref b] below meth c H [] 40 1183 (lw_Z below #[Value.ref b] s) (F0 m 2659 ls []) := by
  obtain ⟨X, -, -, -, -, hKo2, -, hap1, hap2, -, -, hg1, hg2⟩ := id K
  obtain ⟨hx, hb, -, hown, hts, hT, -⟩ := id X
  refine lv_aload_n hx hb dL_law_2659 rfl (lv_at hl 4 rfl) ?_
  refine lv_aload hx hb dL_law_2660 (lv_at hl 1 rfl) ?_
  refine lc_call (n := 2) (hq := hd) (x := .inl (cD, 1, .inr (.inr (.inr (.inl (fun _ => 0)))))) (As := [.ref (G.2.1 0), .ref hd]) (rest := []) K hP hPo hS (hKo2.sub [1] rfl) hap2 hg2 (gl_meanRank l hfl G cD hd (fun _ => 0) f2 r lo_z o h8 hw) ⟨gv_1134, gv_0, by decide +kernel, by decide +kernel⟩ gv_1132 gv_1133 rfl rfl (Nat.le_of_ble_eq_true rfl) hl.1 ⟨rfl, rfl⟩ ⟨Nat.le_of_ble_eq_true rfl, Nat.le_of_ble_eq_true rfl⟩ ⟨Nat.le_of_ble_eq_true rfl, Nat.le_of_ble_eq_true rfl⟩ dL_law_2662 (fun H hP hPo _ hS => ?_)
  refine lv_istore (lv' := [(6, .int r), (5, .int 0), (4, .ref hd), (3, .ref ho), (2, .ref (G.2.1 33)), (1, .ref (G.2.1 0)), (0, .ref b)]) hx hb dL_law_2665 hl (by decide) rfl (fun ls hl => ?_)
  refine lv_aload_n hx hb dL_law_2667 rfl (lv_at hl 4 rfl) ?_
  refine lc_cd (C := RX11) (As := []) (rest := []) K hP hPo hap2 hS (gc_X11_meanRank l G o.2 o2 h11) gk_X11_meanRank gv_1783 ⟨gv_1784, gv_1785⟩ (va_recv hT.2.1 hP (ci := 13) (q0 := 33) rfl rfl) rfl rfl (Nat.le_of_ble_eq_true rfl) hl.1 ⟨rfl, rfl⟩ ⟨Nat.le_of_ble_eq_true rfl, Nat.le_of_ble_eq_true rfl⟩ ⟨Nat.le_of_ble_eq_true rfl, Nat.le_of_ble_eq_true rfl⟩ dL_law_2668 (fun H hP hPo hS => ?_)
  refine lv_dstore (lv' := [(7, .double o2.1), (6, .int r), (5, .int 0), (4, .ref hd), (3, .ref ho), (2, .ref (G.2.1 33)), (1, .ref (G.2.1 0)), (0, .ref b)]) hx hb dL_law_2671 hl (by decide) rfl (fun ls hl => ?_)
  refine lv_aload_n hx hb dL_law_2673 rfl (lv_at hl 5 rfl) ?_
  refine lc_ci (C := RX11) (As := []) (rest := []) K hP hPo hap2 hS (gc_X11_thrown l G o2.2 _ rfl) gk_X11_thrown gv_1191 ⟨gv_1192, gv_1193⟩ (va_recv hT.2.1 hP (ci := 13) (q0 := 33) rfl rfl) rfl rfl (Nat.le_of_ble_eq_true rfl) hl.1 ⟨rfl, rfl⟩ ⟨Nat.le_of_ble_eq_true rfl, Nat.le_of_ble_eq_true rfl⟩ ⟨Nat.le_of_ble_eq_true rfl, Nat.le_of_ble_eq_true rfl⟩ dL_law_2674 (fun H hP hPo hS => ?_)
  refine lv_iload hx hb dL_law_2677 (lv_at hl 1 rfl) ?_
  refine lv_icmp_eq (tgt := 2684) hx hb dL_law_2679 (by decide) (fun _ => ?_) (fun z => absurd ht z)
  refine lv_iload hx hb dL_law_2684 (lv_at hl 1 rfl) ?_
  refine lv_if_ne (tgt := 2721) hx hb dL_law_2686 (by decide) (fun _ => ?_) (fun z => absurd z hv)
  refine lv_goto (tgt := 2737) hx hb dL_law_2721 (by decide) ?_
  exact lc_end K rfl hS (lv_sub hl [2, 7] rfl) (Nat.le_of_ble_eq_true rfl) (Nat.le_of_ble_eq_true rfl)
set_option maxHeartbeats 4000000 in
set_option maxRecDepth 100000 in
theorem lc_42_isSound (l : Launch) {p : Program} {e : Env} {s : State} {m : MethodId} {below : List Frame} {meth : Method} {c : Code} {H : Heap} {b : Nat} {xs : Nat → Int32} {G : gw_G} {cL cD : ClassId} {ho hd : Nat} {ls : Array Slot} (K : lc_C p s m meth c b 5 xs G cL cD ho hd) (hP : gw_P G lo_z H) (hPo : va_P G.1 vwCl [(ho, .inl (cL, 1, .inr (.inl (fun _ => 0))))] H) (hS : va_S (fun q => s.heap.size ≤ q) s.heap H []) (hl : lv_has ls 9 [(5, .int 0), (4, .ref hd), (3, .ref ho), (2, .ref (G.2.1 33)), (1, .ref (G.2.1 0)), (0, .ref b)]) (o : Int32 × gw_S) (h8 : f_X8_isSound lo_z = some o) (o2 : Int32 × gw_S) (h11 : f_X11_isSound o.2 = some o2) (hv : o.1 = o2.1) : W p l e room_1 s m #[Value.ref b] below meth c H [] 40 1183 (lw_Z below #[Value.ref b] s) (F0 m 2724 ls []) := by
  obtain ⟨X, -, -, -, -, hKo2, -, hap1, hap2, -, -, hg1, hg2⟩ := id K
  obtain ⟨hx, hb, -, hown, hts, hT, -⟩ := id X
  refine lv_aload_n hx hb dL_law_2724 rfl (lv_at hl 4 rfl) ?_
  refine lc_cz (C := RX8) (As := []) (rest := []) K hP hPo hap1 hS (gc_X8_isSound l G lo_z o h8) gk_X8_isSound gv_328 ⟨gv_329, gv_330⟩ (va_recv hT.2.1 hP (ci := 10) (q0 := 0) rfl rfl) rfl rfl (Nat.le_of_ble_eq_true rfl) hl.1 ⟨rfl, rfl⟩ ⟨Nat.le_of_ble_eq_true rfl, Nat.le_of_ble_eq_true rfl⟩ ⟨Nat.le_of_ble_eq_true rfl, Nat.le_of_ble_eq_true rfl⟩ dL_law_2725 (fun H hP hPo hS => ?_)
  refine lv_aload_n hx hb dL_law_2728 rfl (lv_at hl 3 rfl) ?_
  refine lc_cz (C := RX11) (As := []) (rest := [.int o.1]) K hP hPo hap1 hS (gc_X11_isSound l G o.2 o2 h11) gk_X11_isSound gv_1787 ⟨gv_1788, gv_1789⟩ (va_recv hT.2.1 hP (ci := 13) (q0 := 33) rfl rfl) rfl rfl (Nat.le_of_ble_eq_true rfl) hl.1 ⟨rfl, rfl⟩ ⟨Nat.le_of_ble_eq_true rfl, Nat.le_of_ble_eq_true rfl⟩ ⟨Nat.le_of_ble_eq_true rfl, Nat.le_of_ble_eq_true rfl⟩ dL_law_2729 (fun H hP hPo hS => ?_)
  refine lv_icmp_eq (tgt := 2737) hx hb dL_law_2732 (by decide) (fun _ => ?_) (fun z => absurd hv z)
  exact lc_end K rfl hS (lv_sub hl [0, 5] rfl) (Nat.le_of_ble_eq_true rfl) (Nat.le_of_ble_eq_true rfl)
