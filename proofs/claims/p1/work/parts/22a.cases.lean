def lo_z : gw_S := fun k => if k = 37 then upd (upd (upd (upd (upd (upd (upd (fun _ => 0) (0 : Int32).toNatClampNeg 0) (1 : Int32).toNatClampNeg 1) (2 : Int32).toNatClampNeg 2) (3 : Int32).toNatClampNeg 3) (4 : Int32).toNatClampNeg 4) (5 : Int32).toNatClampNeg 5) (6 : Int32).toNatClampNeg 6 else fun _ => 0
theorem lc_cmp (x : Int64) : lg_cmp x x = 0 := by
  unfold lg_cmp
  rw [if_neg (show ¬ x > x from Int64.lt_irrefl), if_pos rfl]
theorem gv_632 : Cond.methodLink RL 152 yL_under ∈ gw_L := gw_tab 632 (by decide +kernel) (by decide +kernel)
theorem gv_633 : Cond.static yL_under ∈ gw_L := gw_tab 633 (by decide +kernel) (by decide +kernel)
theorem gv_634 : Cond.codeWith yL_under cL_under 5 (some .int) [(0, 10, 13, 19), (0, 10, 17, 21)] ∈ gw_L := gw_tab 634 (by decide +kernel) (by decide +kernel)
theorem gv_0 : Cond.initialized RL ∈ gw_L := gw_tab 0 (by decide +kernel) (by decide +kernel)
theorem gv_1305 : Cond.code yX11_under cX11_under 6 (some .int) ∈ gw_L := gw_tab 1305 (by decide +kernel) (by decide +kernel)
theorem gk_X11_under : gw_K yX11_under cX11_under 6 (some .int) 2 := ⟨gv_1305, gv_10, by decide +kernel, by decide +kernel⟩
theorem gv_1302 : Cond.methodLink RL 155 yX11_under ∈ gw_L := gw_tab 1302 (by decide +kernel) (by decide +kernel)
theorem gv_1303 : Cond.instanceMethod yX11_under ∈ gw_L := gw_tab 1303 (by decide +kernel) (by decide +kernel)
theorem gv_1304 : Cond.selects RX11 yX11_under yX11_under ∈ gw_L := gw_tab 1304 (by decide +kernel) (by decide +kernel)
theorem gv_1194 : Cond.code yX11_thrown cX11_thrown 1 (some .int) ∈ gw_L := gw_tab 1194 (by decide +kernel) (by decide +kernel)
theorem gk_X11_thrown : gw_K yX11_thrown cX11_thrown 1 (some .int) 0 := ⟨gv_1194, gv_10, by decide +kernel, by decide +kernel⟩
theorem gv_1191 : Cond.methodLink RL 149 yX11_thrown ∈ gw_L := gw_tab 1191 (by decide +kernel) (by decide +kernel)
theorem gv_1192 : Cond.instanceMethod yX11_thrown ∈ gw_L := gw_tab 1192 (by decide +kernel) (by decide +kernel)
theorem gv_1193 : Cond.selects RX11 yX11_thrown yX11_thrown ∈ gw_L := gw_tab 1193 (by decide +kernel) (by decide +kernel)
theorem gv_695 : Cond.methodLink RL 156 yL_isBelow ∈ gw_L := gw_tab 695 (by decide +kernel) (by decide +kernel)
theorem gv_696 : Cond.static yL_isBelow ∈ gw_L := gw_tab 696 (by decide +kernel) (by decide +kernel)
theorem gv_697 : Cond.codeWith yL_isBelow cL_isBelow 5 (some .int) [(0, 17, 20, 19)] ∈ gw_L := gw_tab 697 (by decide +kernel) (by decide +kernel)
theorem gv_1419 : Cond.code yX11_isBelow cX11_isBelow 3 (some .boolean) ∈ gw_L := gw_tab 1419 (by decide +kernel) (by decide +kernel)
theorem gk_X11_isBelow : gw_K yX11_isBelow cX11_isBelow 3 (some .boolean) 2 := ⟨gv_1419, gv_10, by decide +kernel, by decide +kernel⟩
theorem gv_1416 : Cond.methodLink RL 158 yX11_isBelow ∈ gw_L := gw_tab 1416 (by decide +kernel) (by decide +kernel)
theorem gv_1417 : Cond.instanceMethod yX11_isBelow ∈ gw_L := gw_tab 1417 (by decide +kernel) (by decide +kernel)
theorem gv_1418 : Cond.selects RX11 yX11_isBelow yX11_isBelow ∈ gw_L := gw_tab 1418 (by decide +kernel) (by decide +kernel)
theorem gv_702 : Cond.methodLink RL 159 yL_fit ∈ gw_L := gw_tab 702 (by decide +kernel) (by decide +kernel)
theorem gv_703 : Cond.static yL_fit ∈ gw_L := gw_tab 703 (by decide +kernel) (by decide +kernel)
theorem gv_704 : Cond.codeWith yL_fit cL_fit 5 (some .int) [(0, 17, 20, 19)] ∈ gw_L := gw_tab 704 (by decide +kernel) (by decide +kernel)
theorem gv_1423 : Cond.code yX11_fit cX11_fit 3 (some .boolean) ∈ gw_L := gw_tab 1423 (by decide +kernel) (by decide +kernel)
theorem gk_X11_fit : gw_K yX11_fit cX11_fit 3 (some .boolean) 2 := ⟨gv_1423, gv_10, by decide +kernel, by decide +kernel⟩
theorem gv_1420 : Cond.methodLink RL 161 yX11_fit ∈ gw_L := gw_tab 1420 (by decide +kernel) (by decide +kernel)
theorem gv_1421 : Cond.instanceMethod yX11_fit ∈ gw_L := gw_tab 1421 (by decide +kernel) (by decide +kernel)
theorem gv_1422 : Cond.selects RX11 yX11_fit yX11_fit ∈ gw_L := gw_tab 1422 (by decide +kernel) (by decide +kernel)
theorem gv_239 : Cond.code yX8_lasts cX8_lasts 1 (some .int) ∈ gw_L := gw_tab 239 (by decide +kernel) (by decide +kernel)
theorem gk_X8_lasts : gw_K yX8_lasts cX8_lasts 1 (some .int) 0 := ⟨gv_239, gv_1, by decide +kernel, by decide +kernel⟩
theorem gv_236 : Cond.methodLink RL 162 yX8_lasts ∈ gw_L := gw_tab 236 (by decide +kernel) (by decide +kernel)
theorem gv_237 : Cond.instanceMethod yX8_lasts ∈ gw_L := gw_tab 237 (by decide +kernel) (by decide +kernel)
theorem gv_238 : Cond.selects RX8 yX8_lasts yX8_lasts ∈ gw_L := gw_tab 238 (by decide +kernel) (by decide +kernel)
theorem gv_1431 : Cond.code yX11_lasts cX11_lasts 1 (some .int) ∈ gw_L := gw_tab 1431 (by decide +kernel) (by decide +kernel)
theorem gk_X11_lasts : gw_K yX11_lasts cX11_lasts 1 (some .int) 0 := ⟨gv_1431, gv_10, by decide +kernel, by decide +kernel⟩
theorem gv_1428 : Cond.methodLink RL 165 yX11_lasts ∈ gw_L := gw_tab 1428 (by decide +kernel) (by decide +kernel)
theorem gv_1429 : Cond.instanceMethod yX11_lasts ∈ gw_L := gw_tab 1429 (by decide +kernel) (by decide +kernel)
theorem gv_1430 : Cond.selects RX11 yX11_lasts yX11_lasts ∈ gw_L := gw_tab 1430 (by decide +kernel) (by decide +kernel)
theorem gv_709 : Cond.methodLink RL 166 yL_isAntichain ∈ gw_L := gw_tab 709 (by decide +kernel) (by decide +kernel)
theorem gv_710 : Cond.static yL_isAntichain ∈ gw_L := gw_tab 710 (by decide +kernel) (by decide +kernel)
theorem gv_711 : Cond.codeWith yL_isAntichain cL_isAntichain 4 (some .int) [(0, 16, 19, 34)] ∈ gw_L := gw_tab 711 (by decide +kernel) (by decide +kernel)
theorem gv_1439 : Cond.code yX11_isAntichain cX11_isAntichain 2 (some .boolean) ∈ gw_L := gw_tab 1439 (by decide +kernel) (by decide +kernel)
theorem gk_X11_isAntichain : gw_K yX11_isAntichain cX11_isAntichain 2 (some .boolean) 1 := ⟨gv_1439, gv_10, by decide +kernel, by decide +kernel⟩
theorem gv_1436 : Cond.methodLink RL 169 yX11_isAntichain ∈ gw_L := gw_tab 1436 (by decide +kernel) (by decide +kernel)
theorem gv_1437 : Cond.instanceMethod yX11_isAntichain ∈ gw_L := gw_tab 1437 (by decide +kernel) (by decide +kernel)
theorem gv_1438 : Cond.selects RX11 yX11_isAntichain yX11_isAntichain ∈ gw_L := gw_tab 1438 (by decide +kernel) (by decide +kernel)
theorem gv_247 : Cond.code yX8_widest cX8_widest 1 (some .int) ∈ gw_L := gw_tab 247 (by decide +kernel) (by decide +kernel)
theorem gk_X8_widest : gw_K yX8_widest cX8_widest 1 (some .int) 0 := ⟨gv_247, gv_1, by decide +kernel, by decide +kernel⟩
theorem gv_244 : Cond.methodLink RL 170 yX8_widest ∈ gw_L := gw_tab 244 (by decide +kernel) (by decide +kernel)
theorem gv_245 : Cond.instanceMethod yX8_widest ∈ gw_L := gw_tab 245 (by decide +kernel) (by decide +kernel)
theorem gv_246 : Cond.selects RX8 yX8_widest yX8_widest ∈ gw_L := gw_tab 246 (by decide +kernel) (by decide +kernel)
theorem gv_1451 : Cond.code yX11_widest cX11_widest 3 (some .int) ∈ gw_L := gw_tab 1451 (by decide +kernel) (by decide +kernel)
theorem gk_X11_widest : gw_K yX11_widest cX11_widest 3 (some .int) 0 := ⟨gv_1451, gv_10, by decide +kernel, by decide +kernel⟩
theorem gv_1448 : Cond.methodLink RL 173 yX11_widest ∈ gw_L := gw_tab 1448 (by decide +kernel) (by decide +kernel)
theorem gv_1449 : Cond.instanceMethod yX11_widest ∈ gw_L := gw_tab 1449 (by decide +kernel) (by decide +kernel)
theorem gv_1450 : Cond.selects RX11 yX11_widest yX11_widest ∈ gw_L := gw_tab 1450 (by decide +kernel) (by decide +kernel)
theorem gv_745 : Cond.methodLink RL 177 yL_isFilter ∈ gw_L := gw_tab 745 (by decide +kernel) (by decide +kernel)
theorem gv_746 : Cond.static yL_isFilter ∈ gw_L := gw_tab 746 (by decide +kernel) (by decide +kernel)
theorem gv_747 : Cond.codeWith yL_isFilter cL_isFilter 4 (some .int) [(0, 16, 19, 34)] ∈ gw_L := gw_tab 747 (by decide +kernel) (by decide +kernel)
theorem gv_1460 : Cond.code yX11_isFilter cX11_isFilter 2 (some .boolean) ∈ gw_L := gw_tab 1460 (by decide +kernel) (by decide +kernel)
theorem gk_X11_isFilter : gw_K yX11_isFilter cX11_isFilter 2 (some .boolean) 1 := ⟨gv_1460, gv_10, by decide +kernel, by decide +kernel⟩
theorem gv_1457 : Cond.methodLink RL 179 yX11_isFilter ∈ gw_L := gw_tab 1457 (by decide +kernel) (by decide +kernel)
theorem gv_1458 : Cond.instanceMethod yX11_isFilter ∈ gw_L := gw_tab 1458 (by decide +kernel) (by decide +kernel)
theorem gv_1459 : Cond.selects RX11 yX11_isFilter yX11_isFilter ∈ gw_L := gw_tab 1459 (by decide +kernel) (by decide +kernel)
theorem gv_257 : Cond.code yX8_filters cX8_filters 1 (some .int) ∈ gw_L := gw_tab 257 (by decide +kernel) (by decide +kernel)
theorem gk_X8_filters : gw_K yX8_filters cX8_filters 1 (some .int) 0 := ⟨gv_257, gv_1, by decide +kernel, by decide +kernel⟩
theorem gv_254 : Cond.methodLink RL 180 yX8_filters ∈ gw_L := gw_tab 254 (by decide +kernel) (by decide +kernel)
theorem gv_255 : Cond.instanceMethod yX8_filters ∈ gw_L := gw_tab 255 (by decide +kernel) (by decide +kernel)
theorem gv_256 : Cond.selects RX8 yX8_filters yX8_filters ∈ gw_L := gw_tab 256 (by decide +kernel) (by decide +kernel)
theorem gv_1468 : Cond.code yX11_filters_ cX11_filters_ 3 (some .int) ∈ gw_L := gw_tab 1468 (by decide +kernel) (by decide +kernel)
theorem gk_X11_filters_ : gw_K yX11_filters_ cX11_filters_ 3 (some .int) 0 := ⟨gv_1468, gv_10, by decide +kernel, by decide +kernel⟩
theorem gv_1465 : Cond.methodLink RL 183 yX11_filters_ ∈ gw_L := gw_tab 1465 (by decide +kernel) (by decide +kernel)
theorem gv_1466 : Cond.instanceMethod yX11_filters_ ∈ gw_L := gw_tab 1466 (by decide +kernel) (by decide +kernel)
theorem gv_1467 : Cond.selects RX11 yX11_filters_ yX11_filters_ ∈ gw_L := gw_tab 1467 (by decide +kernel) (by decide +kernel)
theorem gv_265 : Cond.code yX8_isSeparative cX8_isSeparative 3 (some .boolean) ∈ gw_L := gw_tab 265 (by decide +kernel) (by decide +kernel)
theorem gk_X8_isSeparative : gw_K yX8_isSeparative cX8_isSeparative 3 (some .boolean) 0 := ⟨gv_265, gv_1, by decide +kernel, by decide +kernel⟩
theorem gv_262 : Cond.methodLink RL 184 yX8_isSeparative ∈ gw_L := gw_tab 262 (by decide +kernel) (by decide +kernel)
theorem gv_263 : Cond.instanceMethod yX8_isSeparative ∈ gw_L := gw_tab 263 (by decide +kernel) (by decide +kernel)
theorem gv_264 : Cond.selects RX8 yX8_isSeparative yX8_isSeparative ∈ gw_L := gw_tab 264 (by decide +kernel) (by decide +kernel)
theorem gv_1472 : Cond.code yX11_isSeparative cX11_isSeparative 6 (some .boolean) ∈ gw_L := gw_tab 1472 (by decide +kernel) (by decide +kernel)
theorem gk_X11_isSeparative : gw_K yX11_isSeparative cX11_isSeparative 6 (some .boolean) 0 := ⟨gv_1472, gv_10, by decide +kernel, by decide +kernel⟩
theorem gv_1469 : Cond.methodLink RL 188 yX11_isSeparative ∈ gw_L := gw_tab 1469 (by decide +kernel) (by decide +kernel)
theorem gv_1470 : Cond.instanceMethod yX11_isSeparative ∈ gw_L := gw_tab 1470 (by decide +kernel) (by decide +kernel)
theorem gv_1471 : Cond.selects RX11 yX11_isSeparative yX11_isSeparative ∈ gw_L := gw_tab 1471 (by decide +kernel) (by decide +kernel)
theorem gv_760 : Cond.methodLink RL 189 yL_cut ∈ gw_L := gw_tab 760 (by decide +kernel) (by decide +kernel)
theorem gv_761 : Cond.static yL_cut ∈ gw_L := gw_tab 761 (by decide +kernel) (by decide +kernel)
theorem gv_762 : Cond.codeWith yL_cut cL_cut 4 (some .int) [(0, 9, 12, 19)] ∈ gw_L := gw_tab 762 (by decide +kernel) (by decide +kernel)
theorem gv_1476 : Cond.code yX11_cut cX11_cut 2 (some .int) ∈ gw_L := gw_tab 1476 (by decide +kernel) (by decide +kernel)
theorem gk_X11_cut : gw_K yX11_cut cX11_cut 2 (some .int) 1 := ⟨gv_1476, gv_10, by decide +kernel, by decide +kernel⟩
theorem gv_1473 : Cond.methodLink RL 191 yX11_cut ∈ gw_L := gw_tab 1473 (by decide +kernel) (by decide +kernel)
theorem gv_1474 : Cond.instanceMethod yX11_cut ∈ gw_L := gw_tab 1474 (by decide +kernel) (by decide +kernel)
theorem gv_1475 : Cond.selects RX11 yX11_cut yX11_cut ∈ gw_L := gw_tab 1475 (by decide +kernel) (by decide +kernel)
set_option maxHeartbeats 4000000 in
set_option maxRecDepth 100000 in
theorem lc_1_under (l : Launch) (hfl : l.stackTraces = false) {p : Program} {e : Env} {s : State} {m : MethodId} {below : List Frame} {meth : Method} {c : Code} {H : Heap} {b : Nat} {xs : Nat → Int32} {G : gw_G} {cL cD : ClassId} {ho hd : Nat} {ls : Array Slot} (K : lc_C p s m meth c b 5 xs G cL cD ho hd) (hP : gw_P G lo_z H) (hPo : va_P G.1 vwCl [(ho, .inl (cL, 1, .inr (.inl (fun _ => 0))))] H) (hS : va_S (fun q => s.heap.size ≤ q) s.heap H []) (hl : lv_has ls 9 [(5, .int 0), (4, .ref hd), (3, .ref ho), (2, .ref (G.2.1 33)), (1, .ref (G.2.1 0)), (0, .ref b)]) (r : Int32) (f2 : Nat → Int64) (o : (Int32 ⊕ String) × gw_S) (h8 : f_X8_under (xs 1) (xs 2) lo_z = some o) (hw : w_under (fun _ => 0) o.1 = some (r, f2)) (o2 : Int32 × gw_S) (h11 : f_X11_under (xs 1) (xs 2) o.2 = some o2) (ht : o2.2 33 4 = r) (hv : r = 0 → f2 0 = o2.1.toInt64) : W p l e room_1 s m #[Value.ref b] below meth c H [] 40 1183 (lw_Z below #[Value.ref b] s) (F0 m 276 ls []) := by
  obtain ⟨X, -, -, -, -, hKo2, -, hap1, hap2, -, -, hg1, hg2⟩ := id K
  obtain ⟨hx, hb, -, hown, hts, hT, -⟩ := id X
  refine lv_aload_n hx hb dL_law_276 rfl (lv_at hl 4 rfl) ?_
  refine lv_aload_n hx hb dL_law_277 rfl (lv_at hl 5 rfl) ?_
  refine lv_iload hx hb dL_law_278 (lv_at hl 0 rfl) ?_
  refine lv_iconst (v := 1) hx hb dL_law_280 (by decide) ?_
  refine lv_iadd hx hb dL_law_281 ?_
  refine lc_sld K hS (j := 1) (by decide) (by unfold vp_in; decide) dL_law_282 ?_
  refine lv_aload_n hx hb dL_law_283 rfl (lv_at hl 5 rfl) ?_
  refine lv_iload hx hb dL_law_284 (lv_at hl 0 rfl) ?_
  refine lv_iconst (v := 2) hx hb dL_law_286 (by decide) ?_
  refine lv_iadd hx hb dL_law_287 ?_
  refine lc_sld K hS (j := 2) (by decide) (by unfold vp_in; decide) dL_law_288 ?_
  refine lv_aload_n hx hb dL_law_289 rfl (lv_at hl 2 rfl) ?_
  refine lc_call (n := 4) (hq := ho) (x := .inl (cL, 1, .inr (.inl (fun _ => 0)))) (As := [.ref (G.2.1 0), .int (xs 1), .int (xs 2), .ref ho]) (rest := []) K hP hPo hS (hKo2.sub [0] rfl) hap1 hg1 (gl_under l hfl G (xs 1) (xs 2) cL ho (fun _ => 0) f2 r lo_z o h8 hw) ⟨gv_634, gv_0, by decide +kernel, by decide +kernel⟩ gv_632 gv_633 rfl rfl (Nat.le_of_ble_eq_true rfl) hl.1 ⟨rfl, rfl⟩ ⟨Nat.le_of_ble_eq_true rfl, Nat.le_of_ble_eq_true rfl⟩ ⟨Nat.le_of_ble_eq_true rfl, Nat.le_of_ble_eq_true rfl⟩ dL_law_290 (fun H hP hPo _ hS => ?_)
  refine lv_istore (lv' := [(6, .int r), (5, .int 0), (4, .ref hd), (3, .ref ho), (2, .ref (G.2.1 33)), (1, .ref (G.2.1 0)), (0, .ref b)]) hx hb dL_law_293 hl (by decide) rfl (fun ls hl => ?_)
  refine lv_aload_n hx hb dL_law_295 rfl (lv_at hl 4 rfl) ?_
  refine lv_aload_n hx hb dL_law_296 rfl (lv_at hl 6 rfl) ?_
  refine lv_iload hx hb dL_law_297 (lv_at hl 1 rfl) ?_
  refine lv_iconst (v := 1) hx hb dL_law_299 (by decide) ?_
  refine lv_iadd hx hb dL_law_300 ?_
  refine lc_sld K hS (j := 1) (by decide) (by unfold vp_in; decide) dL_law_301 ?_
  refine lv_aload_n hx hb dL_law_302 rfl (lv_at hl 6 rfl) ?_
  refine lv_iload hx hb dL_law_303 (lv_at hl 1 rfl) ?_
  refine lv_iconst (v := 2) hx hb dL_law_305 (by decide) ?_
  refine lv_iadd hx hb dL_law_306 ?_
  refine lc_sld K hS (j := 2) (by decide) (by unfold vp_in; decide) dL_law_307 ?_
  refine lc_ci (C := RX11) (As := [.int (xs 1), .int (xs 2)]) (rest := []) K hP hPo hap1 hS (gc_X11_under l G (xs 1) (xs 2) o.2 o2 h11) gk_X11_under gv_1302 ⟨gv_1303, gv_1304⟩ (va_recv hT.2.1 hP (ci := 13) (q0 := 33) rfl rfl) rfl rfl (Nat.le_of_ble_eq_true rfl) hl.1 ⟨rfl, rfl⟩ ⟨Nat.le_of_ble_eq_true rfl, Nat.le_of_ble_eq_true rfl⟩ ⟨Nat.le_of_ble_eq_true rfl, Nat.le_of_ble_eq_true rfl⟩ dL_law_308 (fun H hP hPo hS => ?_)
  refine lv_istore (lv' := [(7, .int o2.1), (6, .int r), (5, .int 0), (4, .ref hd), (3, .ref ho), (2, .ref (G.2.1 33)), (1, .ref (G.2.1 0)), (0, .ref b)]) hx hb dL_law_311 hl (by decide) rfl (fun ls hl => ?_)
  refine lv_aload_n hx hb dL_law_313 rfl (lv_at hl 5 rfl) ?_
  refine lc_ci (C := RX11) (As := []) (rest := []) K hP hPo hap1 hS (gc_X11_thrown l G o2.2 _ rfl) gk_X11_thrown gv_1191 ⟨gv_1192, gv_1193⟩ (va_recv hT.2.1 hP (ci := 13) (q0 := 33) rfl rfl) rfl rfl (Nat.le_of_ble_eq_true rfl) hl.1 ⟨rfl, rfl⟩ ⟨Nat.le_of_ble_eq_true rfl, Nat.le_of_ble_eq_true rfl⟩ ⟨Nat.le_of_ble_eq_true rfl, Nat.le_of_ble_eq_true rfl⟩ dL_law_314 (fun H hP hPo hS => ?_)
  refine lv_iload hx hb dL_law_317 (lv_at hl 1 rfl) ?_
  refine lv_icmp_eq (tgt := 324) hx hb dL_law_319 (by decide) (fun _ => ?_) (fun z => absurd ht z)
  refine lv_iload hx hb dL_law_324 (lv_at hl 1 rfl) ?_
  refine lv_if_ne (tgt := 341) hx hb dL_law_326 (by decide) (fun _ => ?_) (fun hr0 => ?_)
  · refine lv_goto (tgt := 2737) hx hb dL_law_341 (by decide) ?_
    exact lc_end K rfl hS (lv_sub hl [2, 7] rfl) (Nat.le_of_ble_eq_true rfl) (Nat.le_of_ble_eq_true rfl)
  · have hv := hv hr0
    refine lv_aload_n hx hb dL_law_329 rfl (lv_at hl 4 rfl) ?_
    refine lv_iconst (v := 0) hx hb dL_law_330 (by decide) ?_
    refine va_lald (D := G.1) hx hb hKo2 hPo 0 0 (n := 1) (f := f2) rfl rfl (by unfold vp_in; decide) dL_law_331 ?_
    refine lv_iload hx hb dL_law_332 (lv_at hl 0 rfl) ?_
    refine lv_i2l hx hb dL_law_334 rfl ?_
    refine W.lcmp hx hb dL_law_335 ?_
    refine lv_if_eq (tgt := 341) hx hb dL_law_336 (by decide) (fun _ => ?_) (fun z => absurd (by rw [show f2 (0 : Int32).toNatClampNeg = f2 0 from rfl, hv]; exact lc_cmp _) z)
    refine lv_goto (tgt := 2737) hx hb dL_law_341 (by decide) ?_
    exact lc_end K rfl hS (lv_sub hl [2, 7] rfl) (Nat.le_of_ble_eq_true rfl) (Nat.le_of_ble_eq_true rfl)
set_option maxHeartbeats 4000000 in
set_option maxRecDepth 100000 in
theorem lc_2_isBelow (l : Launch) (hfl : l.stackTraces = false) {p : Program} {e : Env} {s : State} {m : MethodId} {below : List Frame} {meth : Method} {c : Code} {H : Heap} {b : Nat} {xs : Nat → Int32} {G : gw_G} {cL cD : ClassId} {ho hd : Nat} {ls : Array Slot} (K : lc_C p s m meth c b 5 xs G cL cD ho hd) (hP : gw_P G lo_z H) (hPo : va_P G.1 vwCl [(ho, .inl (cL, 1, .inr (.inl (fun _ => 0))))] H) (hS : va_S (fun q => s.heap.size ≤ q) s.heap H []) (hl : lv_has ls 9 [(5, .int 0), (4, .ref hd), (3, .ref ho), (2, .ref (G.2.1 33)), (1, .ref (G.2.1 0)), (0, .ref b)]) (r : Int32) (f2 : Nat → Int64) (o : (Int32 ⊕ String) × gw_S) (h8 : f_X8_isBelow (xs 1) (xs 2) lo_z = some o) (hw : w_isBelow (fun _ => 0) o.1 = some (r, f2)) (o2 : Int32 × gw_S) (h11 : f_X11_isBelow (xs 1) (xs 2) o.2 = some o2) (ht : o2.2 33 4 = r) (hv : r = 0 → f2 0 = (if o2.1 = 0 then (0 : Int64) else (1 : Int64))) : W p l e room_1 s m #[Value.ref b] below meth c H [] 40 1183 (lw_Z below #[Value.ref b] s) (F0 m 344 ls []) := by
  obtain ⟨X, -, -, -, -, hKo2, -, hap1, hap2, -, -, hg1, hg2⟩ := id K
  obtain ⟨hx, hb, -, hown, hts, hT, -⟩ := id X
  refine lv_aload_n hx hb dL_law_344 rfl (lv_at hl 4 rfl) ?_
  refine lv_aload_n hx hb dL_law_345 rfl (lv_at hl 5 rfl) ?_
  refine lv_iload hx hb dL_law_346 (lv_at hl 0 rfl) ?_
  refine lv_iconst (v := 1) hx hb dL_law_348 (by decide) ?_
  refine lv_iadd hx hb dL_law_349 ?_
  refine lc_sld K hS (j := 1) (by decide) (by unfold vp_in; decide) dL_law_350 ?_
  refine lv_aload_n hx hb dL_law_351 rfl (lv_at hl 5 rfl) ?_
  refine lv_iload hx hb dL_law_352 (lv_at hl 0 rfl) ?_
  refine lv_iconst (v := 2) hx hb dL_law_354 (by decide) ?_
  refine lv_iadd hx hb dL_law_355 ?_
  refine lc_sld K hS (j := 2) (by decide) (by unfold vp_in; decide) dL_law_356 ?_
  refine lv_aload_n hx hb dL_law_357 rfl (lv_at hl 2 rfl) ?_
  refine lc_call (n := 4) (hq := ho) (x := .inl (cL, 1, .inr (.inl (fun _ => 0)))) (As := [.ref (G.2.1 0), .int (xs 1), .int (xs 2), .ref ho]) (rest := []) K hP hPo hS (hKo2.sub [0] rfl) hap1 hg1 (gl_isBelow l hfl G (xs 1) (xs 2) cL ho (fun _ => 0) f2 r lo_z o h8 hw) ⟨gv_697, gv_0, by decide +kernel, by decide +kernel⟩ gv_695 gv_696 rfl rfl (Nat.le_of_ble_eq_true rfl) hl.1 ⟨rfl, rfl⟩ ⟨Nat.le_of_ble_eq_true rfl, Nat.le_of_ble_eq_true rfl⟩ ⟨Nat.le_of_ble_eq_true rfl, Nat.le_of_ble_eq_true rfl⟩ dL_law_358 (fun H hP hPo _ hS => ?_)
  refine lv_istore (lv' := [(6, .int r), (5, .int 0), (4, .ref hd), (3, .ref ho), (2, .ref (G.2.1 33)), (1, .ref (G.2.1 0)), (0, .ref b)]) hx hb dL_law_361 hl (by decide) rfl (fun ls hl => ?_)
  refine lv_aload_n hx hb dL_law_363 rfl (lv_at hl 4 rfl) ?_
  refine lv_aload_n hx hb dL_law_364 rfl (lv_at hl 6 rfl) ?_
  refine lv_iload hx hb dL_law_365 (lv_at hl 1 rfl) ?_
  refine lv_iconst (v := 1) hx hb dL_law_367 (by decide) ?_
  refine lv_iadd hx hb dL_law_368 ?_
  refine lc_sld K hS (j := 1) (by decide) (by unfold vp_in; decide) dL_law_369 ?_
  refine lv_aload_n hx hb dL_law_370 rfl (lv_at hl 6 rfl) ?_
  refine lv_iload hx hb dL_law_371 (lv_at hl 1 rfl) ?_
  refine lv_iconst (v := 2) hx hb dL_law_373 (by decide) ?_
  refine lv_iadd hx hb dL_law_374 ?_
  refine lc_sld K hS (j := 2) (by decide) (by unfold vp_in; decide) dL_law_375 ?_
  refine lc_cz (C := RX11) (As := [.int (xs 1), .int (xs 2)]) (rest := []) K hP hPo hap1 hS (gc_X11_isBelow l G (xs 1) (xs 2) o.2 o2 h11) gk_X11_isBelow gv_1416 ⟨gv_1417, gv_1418⟩ (va_recv hT.2.1 hP (ci := 13) (q0 := 33) rfl rfl) rfl rfl (Nat.le_of_ble_eq_true rfl) hl.1 ⟨rfl, rfl⟩ ⟨Nat.le_of_ble_eq_true rfl, Nat.le_of_ble_eq_true rfl⟩ ⟨Nat.le_of_ble_eq_true rfl, Nat.le_of_ble_eq_true rfl⟩ dL_law_376 (fun H hP hPo hS => ?_)
  refine lv_istore (lv' := [(7, .int o2.1), (6, .int r), (5, .int 0), (4, .ref hd), (3, .ref ho), (2, .ref (G.2.1 33)), (1, .ref (G.2.1 0)), (0, .ref b)]) hx hb dL_law_379 hl (by decide) rfl (fun ls hl => ?_)
  refine lv_aload_n hx hb dL_law_381 rfl (lv_at hl 5 rfl) ?_
  refine lc_ci (C := RX11) (As := []) (rest := []) K hP hPo hap1 hS (gc_X11_thrown l G o2.2 _ rfl) gk_X11_thrown gv_1191 ⟨gv_1192, gv_1193⟩ (va_recv hT.2.1 hP (ci := 13) (q0 := 33) rfl rfl) rfl rfl (Nat.le_of_ble_eq_true rfl) hl.1 ⟨rfl, rfl⟩ ⟨Nat.le_of_ble_eq_true rfl, Nat.le_of_ble_eq_true rfl⟩ ⟨Nat.le_of_ble_eq_true rfl, Nat.le_of_ble_eq_true rfl⟩ dL_law_382 (fun H hP hPo hS => ?_)
  refine lv_iload hx hb dL_law_385 (lv_at hl 1 rfl) ?_
  refine lv_icmp_eq (tgt := 392) hx hb dL_law_387 (by decide) (fun _ => ?_) (fun z => absurd ht z)
  refine lv_iload hx hb dL_law_392 (lv_at hl 1 rfl) ?_
  refine lv_if_ne (tgt := 416) hx hb dL_law_394 (by decide) (fun _ => ?_) (fun hr0 => ?_)
  · refine lv_goto (tgt := 2737) hx hb dL_law_416 (by decide) ?_
    exact lc_end K rfl hS (lv_sub hl [2, 7] rfl) (Nat.le_of_ble_eq_true rfl) (Nat.le_of_ble_eq_true rfl)
  · have hv := hv hr0
    refine lv_aload_n hx hb dL_law_397 rfl (lv_at hl 4 rfl) ?_
    refine lv_iconst (v := 0) hx hb dL_law_398 (by decide) ?_
    refine va_lald (D := G.1) hx hb hKo2 hPo 0 0 (n := 1) (f := f2) rfl rfl (by unfold vp_in; decide) dL_law_399 ?_
    refine lv_iload hx hb dL_law_400 (lv_at hl 0 rfl) ?_
    refine lv_if_eq (tgt := 409) hx hb dL_law_402 (by decide) (fun z0 => ?_) (fun z0 => ?_)
    · have hv := hv.trans (if_pos z0)
      refine lv_lconst (v := 0) hx hb dL_law_409 (by decide) ?_
      refine W.lcmp hx hb dL_law_410 ?_
      refine lv_if_eq (tgt := 416) hx hb dL_law_411 (by decide) (fun _ => ?_) (fun z => absurd (by rw [show f2 (0 : Int32).toNatClampNeg = f2 0 from rfl, hv]; exact lc_cmp _) z)
      refine lv_goto (tgt := 2737) hx hb dL_law_416 (by decide) ?_
      exact lc_end K rfl hS (lv_sub hl [2, 7] rfl) (Nat.le_of_ble_eq_true rfl) (Nat.le_of_ble_eq_true rfl)
    · have hv := hv.trans (if_neg z0)
      refine lv_lconst (v := 1) hx hb dL_law_405 (by decide) ?_
      refine lv_goto (tgt := 410) hx hb dL_law_406 (by decide) ?_
      refine W.lcmp hx hb dL_law_410 ?_
      refine lv_if_eq (tgt := 416) hx hb dL_law_411 (by decide) (fun _ => ?_) (fun z => absurd (by rw [show f2 (0 : Int32).toNatClampNeg = f2 0 from rfl, hv]; exact lc_cmp _) z)
      refine lv_goto (tgt := 2737) hx hb dL_law_416 (by decide) ?_
      exact lc_end K rfl hS (lv_sub hl [2, 7] rfl) (Nat.le_of_ble_eq_true rfl) (Nat.le_of_ble_eq_true rfl)
set_option maxHeartbeats 4000000 in
set_option maxRecDepth 100000 in
theorem lc_3_fit (l : Launch) (hfl : l.stackTraces = false) {p : Program} {e : Env} {s : State} {m : MethodId} {below : List Frame} {meth : Method} {c : Code} {H : Heap} {b : Nat} {xs : Nat → Int32} {G : gw_G} {cL cD : ClassId} {ho hd : Nat} {ls : Array Slot} (K : lc_C p s m meth c b 5 xs G cL cD ho hd) (hP : gw_P G lo_z H) (hPo : va_P G.1 vwCl [(ho, .inl (cL, 1, .inr (.inl (fun _ => 0))))] H) (hS : va_S (fun q => s.heap.size ≤ q) s.heap H []) (hl : lv_has ls 9 [(5, .int 0), (4, .ref hd), (3, .ref ho), (2, .ref (G.2.1 33)), (1, .ref (G.2.1 0)), (0, .ref b)]) (r : Int32) (f2 : Nat → Int64) (o : (Int32 ⊕ String) × gw_S) (h8 : f_X8_fit (xs 1) (xs 2) lo_z = some o) (hw : w_fit (fun _ => 0) o.1 = some (r, f2)) (o2 : Int32 × gw_S) (h11 : f_X11_fit (xs 1) (xs 2) o.2 = some o2) (ht : o2.2 33 4 = r) (hv : r = 0 → f2 0 = (if o2.1 = 0 then (0 : Int64) else (1 : Int64))) : W p l e room_1 s m #[Value.ref b] below meth c H [] 40 1183 (lw_Z below #[Value.ref b] s) (F0 m 419 ls []) := by
  obtain ⟨X, -, -, -, -, hKo2, -, hap1, hap2, -, -, hg1, hg2⟩ := id K
  obtain ⟨hx, hb, -, hown, hts, hT, -⟩ := id X
  refine lv_aload_n hx hb dL_law_419 rfl (lv_at hl 4 rfl) ?_
  refine lv_aload_n hx hb dL_law_420 rfl (lv_at hl 5 rfl) ?_
  refine lv_iload hx hb dL_law_421 (lv_at hl 0 rfl) ?_
  refine lv_iconst (v := 1) hx hb dL_law_423 (by decide) ?_
  refine lv_iadd hx hb dL_law_424 ?_
  refine lc_sld K hS (j := 1) (by decide) (by unfold vp_in; decide) dL_law_425 ?_
  refine lv_aload_n hx hb dL_law_426 rfl (lv_at hl 5 rfl) ?_
  refine lv_iload hx hb dL_law_427 (lv_at hl 0 rfl) ?_
  refine lv_iconst (v := 2) hx hb dL_law_429 (by decide) ?_
  refine lv_iadd hx hb dL_law_430 ?_
  refine lc_sld K hS (j := 2) (by decide) (by unfold vp_in; decide) dL_law_431 ?_
  refine lv_aload_n hx hb dL_law_432 rfl (lv_at hl 2 rfl) ?_
  refine lc_call (n := 4) (hq := ho) (x := .inl (cL, 1, .inr (.inl (fun _ => 0)))) (As := [.ref (G.2.1 0), .int (xs 1), .int (xs 2), .ref ho]) (rest := []) K hP hPo hS (hKo2.sub [0] rfl) hap1 hg1 (gl_fit l hfl G (xs 1) (xs 2) cL ho (fun _ => 0) f2 r lo_z o h8 hw) ⟨gv_704, gv_0, by decide +kernel, by decide +kernel⟩ gv_702 gv_703 rfl rfl (Nat.le_of_ble_eq_true rfl) hl.1 ⟨rfl, rfl⟩ ⟨Nat.le_of_ble_eq_true rfl, Nat.le_of_ble_eq_true rfl⟩ ⟨Nat.le_of_ble_eq_true rfl, Nat.le_of_ble_eq_true rfl⟩ dL_law_433 (fun H hP hPo _ hS => ?_)
  refine lv_istore (lv' := [(6, .int r), (5, .int 0), (4, .ref hd), (3, .ref ho), (2, .ref (G.2.1 33)), (1, .ref (G.2.1 0)), (0, .ref b)]) hx hb dL_law_436 hl (by decide) rfl (fun ls hl => ?_)
  refine lv_aload_n hx hb dL_law_438 rfl (lv_at hl 4 rfl) ?_
  refine lv_aload_n hx hb dL_law_439 rfl (lv_at hl 6 rfl) ?_
  refine lv_iload hx hb dL_law_440 (lv_at hl 1 rfl) ?_
  refine lv_iconst (v := 1) hx hb dL_law_442 (by decide) ?_
  refine lv_iadd hx hb dL_law_443 ?_
  refine lc_sld K hS (j := 1) (by decide) (by unfold vp_in; decide) dL_law_444 ?_
  refine lv_aload_n hx hb dL_law_445 rfl (lv_at hl 6 rfl) ?_
  refine lv_iload hx hb dL_law_446 (lv_at hl 1 rfl) ?_
  refine lv_iconst (v := 2) hx hb dL_law_448 (by decide) ?_
  refine lv_iadd hx hb dL_law_449 ?_
  refine lc_sld K hS (j := 2) (by decide) (by unfold vp_in; decide) dL_law_450 ?_
  refine lc_cz (C := RX11) (As := [.int (xs 1), .int (xs 2)]) (rest := []) K hP hPo hap1 hS (gc_X11_fit l G (xs 1) (xs 2) o.2 o2 h11) gk_X11_fit gv_1420 ⟨gv_1421, gv_1422⟩ (va_recv hT.2.1 hP (ci := 13) (q0 := 33) rfl rfl) rfl rfl (Nat.le_of_ble_eq_true rfl) hl.1 ⟨rfl, rfl⟩ ⟨Nat.le_of_ble_eq_true rfl, Nat.le_of_ble_eq_true rfl⟩ ⟨Nat.le_of_ble_eq_true rfl, Nat.le_of_ble_eq_true rfl⟩ dL_law_451 (fun H hP hPo hS => ?_)
  refine lv_istore (lv' := [(7, .int o2.1), (6, .int r), (5, .int 0), (4, .ref hd), (3, .ref ho), (2, .ref (G.2.1 33)), (1, .ref (G.2.1 0)), (0, .ref b)]) hx hb dL_law_454 hl (by decide) rfl (fun ls hl => ?_)
  refine lv_aload_n hx hb dL_law_456 rfl (lv_at hl 5 rfl) ?_
  refine lc_ci (C := RX11) (As := []) (rest := []) K hP hPo hap1 hS (gc_X11_thrown l G o2.2 _ rfl) gk_X11_thrown gv_1191 ⟨gv_1192, gv_1193⟩ (va_recv hT.2.1 hP (ci := 13) (q0 := 33) rfl rfl) rfl rfl (Nat.le_of_ble_eq_true rfl) hl.1 ⟨rfl, rfl⟩ ⟨Nat.le_of_ble_eq_true rfl, Nat.le_of_ble_eq_true rfl⟩ ⟨Nat.le_of_ble_eq_true rfl, Nat.le_of_ble_eq_true rfl⟩ dL_law_457 (fun H hP hPo hS => ?_)
  refine lv_iload hx hb dL_law_460 (lv_at hl 1 rfl) ?_
  refine lv_icmp_eq (tgt := 467) hx hb dL_law_462 (by decide) (fun _ => ?_) (fun z => absurd ht z)
  refine lv_iload hx hb dL_law_467 (lv_at hl 1 rfl) ?_
  refine lv_if_ne (tgt := 491) hx hb dL_law_469 (by decide) (fun _ => ?_) (fun hr0 => ?_)
  · refine lv_goto (tgt := 2737) hx hb dL_law_491 (by decide) ?_
    exact lc_end K rfl hS (lv_sub hl [2, 7] rfl) (Nat.le_of_ble_eq_true rfl) (Nat.le_of_ble_eq_true rfl)
  · have hv := hv hr0
    refine lv_aload_n hx hb dL_law_472 rfl (lv_at hl 4 rfl) ?_
    refine lv_iconst (v := 0) hx hb dL_law_473 (by decide) ?_
    refine va_lald (D := G.1) hx hb hKo2 hPo 0 0 (n := 1) (f := f2) rfl rfl (by unfold vp_in; decide) dL_law_474 ?_
    refine lv_iload hx hb dL_law_475 (lv_at hl 0 rfl) ?_
    refine lv_if_eq (tgt := 484) hx hb dL_law_477 (by decide) (fun z0 => ?_) (fun z0 => ?_)
    · have hv := hv.trans (if_pos z0)
      refine lv_lconst (v := 0) hx hb dL_law_484 (by decide) ?_
      refine W.lcmp hx hb dL_law_485 ?_
      refine lv_if_eq (tgt := 491) hx hb dL_law_486 (by decide) (fun _ => ?_) (fun z => absurd (by rw [show f2 (0 : Int32).toNatClampNeg = f2 0 from rfl, hv]; exact lc_cmp _) z)
      refine lv_goto (tgt := 2737) hx hb dL_law_491 (by decide) ?_
      exact lc_end K rfl hS (lv_sub hl [2, 7] rfl) (Nat.le_of_ble_eq_true rfl) (Nat.le_of_ble_eq_true rfl)
    · have hv := hv.trans (if_neg z0)
      refine lv_lconst (v := 1) hx hb dL_law_480 (by decide) ?_
      refine lv_goto (tgt := 485) hx hb dL_law_481 (by decide) ?_
      refine W.lcmp hx hb dL_law_485 ?_
      refine lv_if_eq (tgt := 491) hx hb dL_law_486 (by decide) (fun _ => ?_) (fun z => absurd (by rw [show f2 (0 : Int32).toNatClampNeg = f2 0 from rfl, hv]; exact lc_cmp _) z)
      refine lv_goto (tgt := 2737) hx hb dL_law_491 (by decide) ?_
      exact lc_end K rfl hS (lv_sub hl [2, 7] rfl) (Nat.le_of_ble_eq_true rfl) (Nat.le_of_ble_eq_true rfl)
set_option maxHeartbeats 4000000 in
set_option maxRecDepth 100000 in
theorem lc_4_lasts (l : Launch) {p : Program} {e : Env} {s : State} {m : MethodId} {below : List Frame} {meth : Method} {c : Code} {H : Heap} {b : Nat} {xs : Nat → Int32} {G : gw_G} {cL cD : ClassId} {ho hd : Nat} {ls : Array Slot} (K : lc_C p s m meth c b 5 xs G cL cD ho hd) (hP : gw_P G lo_z H) (hPo : va_P G.1 vwCl [(ho, .inl (cL, 1, .inr (.inl (fun _ => 0))))] H) (hS : va_S (fun q => s.heap.size ≤ q) s.heap H []) (hl : lv_has ls 9 [(5, .int 0), (4, .ref hd), (3, .ref ho), (2, .ref (G.2.1 33)), (1, .ref (G.2.1 0)), (0, .ref b)]) (o : Int32 × gw_S) (h8 : f_X8_lasts lo_z = some o) (o2 : Int32 × gw_S) (h11 : f_X11_lasts o.2 = some o2) (hv : o.1 = o2.1) : W p l e room_1 s m #[Value.ref b] below meth c H [] 40 1183 (lw_Z below #[Value.ref b] s) (F0 m 494 ls []) := by
  obtain ⟨X, -, -, -, -, hKo2, -, hap1, hap2, -, -, hg1, hg2⟩ := id K
  obtain ⟨hx, hb, -, hown, hts, hT, -⟩ := id X
  refine lv_aload_n hx hb dL_law_494 rfl (lv_at hl 4 rfl) ?_
  refine lc_ci (C := RX8) (As := []) (rest := []) K hP hPo hap1 hS (gc_X8_lasts l G lo_z o h8) gk_X8_lasts gv_236 ⟨gv_237, gv_238⟩ (va_recv hT.2.1 hP (ci := 10) (q0 := 0) rfl rfl) rfl rfl (Nat.le_of_ble_eq_true rfl) hl.1 ⟨rfl, rfl⟩ ⟨Nat.le_of_ble_eq_true rfl, Nat.le_of_ble_eq_true rfl⟩ ⟨Nat.le_of_ble_eq_true rfl, Nat.le_of_ble_eq_true rfl⟩ dL_law_495 (fun H hP hPo hS => ?_)
  refine lv_aload_n hx hb dL_law_498 rfl (lv_at hl 3 rfl) ?_
  refine lc_ci (C := RX11) (As := []) (rest := [.int o.1]) K hP hPo hap1 hS (gc_X11_lasts l G o.2 o2 h11) gk_X11_lasts gv_1428 ⟨gv_1429, gv_1430⟩ (va_recv hT.2.1 hP (ci := 13) (q0 := 33) rfl rfl) rfl rfl (Nat.le_of_ble_eq_true rfl) hl.1 ⟨rfl, rfl⟩ ⟨Nat.le_of_ble_eq_true rfl, Nat.le_of_ble_eq_true rfl⟩ ⟨Nat.le_of_ble_eq_true rfl, Nat.le_of_ble_eq_true rfl⟩ dL_law_499 (fun H hP hPo hS => ?_)
  refine lv_icmp_eq (tgt := 2737) hx hb dL_law_502 (by decide) (fun _ => ?_) (fun z => absurd hv z)
  exact lc_end K rfl hS (lv_sub hl [0, 5] rfl) (Nat.le_of_ble_eq_true rfl) (Nat.le_of_ble_eq_true rfl)
set_option maxHeartbeats 4000000 in
set_option maxRecDepth 100000 in
theorem lc_5_isAntichain (l : Launch) (hfl : l.stackTraces = false) {p : Program} {e : Env} {s : State} {m : MethodId} {below : List Frame} {meth : Method} {c : Code} {H : Heap} {b : Nat} {xs : Nat → Int32} {G : gw_G} {cL cD : ClassId} {ho hd : Nat} {ls : Array Slot} (K : lc_C p s m meth c b 5 xs G cL cD ho hd) (hP : gw_P G lo_z H) (hPo : va_P G.1 vwCl [(ho, .inl (cL, 1, .inr (.inl (fun _ => 0))))] H) (hS : va_S (fun q => s.heap.size ≤ q) s.heap H []) (hl : lv_has ls 9 [(5, .int 0), (4, .ref hd), (3, .ref ho), (2, .ref (G.2.1 33)), (1, .ref (G.2.1 0)), (0, .ref b)]) (r : Int32) (f2 : Nat → Int64) (o : (Int32 ⊕ String) × gw_S) (h8 : f_X8_isAntichain (xs 1) lo_z = some o) (hw : w_isAntichain (fun _ => 0) o.1 = some (r, f2)) (o2 : Int32 × gw_S) (h11 : f_X11_isAntichain (xs 1) o.2 = some o2) (ht : o2.2 33 4 = r) (hv : r = 0 → f2 0 = (if o2.1 = 0 then (0 : Int64) else (1 : Int64))) : W p l e room_1 s m #[Value.ref b] below meth c H [] 40 1183 (lw_Z below #[Value.ref b] s) (F0 m 507 ls []) := by
  obtain ⟨X, -, -, -, -, hKo2, -, hap1, hap2, -, -, hg1, hg2⟩ := id K
  obtain ⟨hx, hb, -, hown, hts, hT, -⟩ := id X
  refine lv_aload_n hx hb dL_law_507 rfl (lv_at hl 4 rfl) ?_
  refine lv_aload_n hx hb dL_law_508 rfl (lv_at hl 5 rfl) ?_
  refine lv_iload hx hb dL_law_509 (lv_at hl 0 rfl) ?_
  refine lv_iconst (v := 1) hx hb dL_law_511 (by decide) ?_
  refine lv_iadd hx hb dL_law_512 ?_
  refine lc_sld K hS (j := 1) (by decide) (by unfold vp_in; decide) dL_law_513 ?_
  refine lv_aload_n hx hb dL_law_514 rfl (lv_at hl 2 rfl) ?_
  refine lc_call (n := 3) (hq := ho) (x := .inl (cL, 1, .inr (.inl (fun _ => 0)))) (As := [.ref (G.2.1 0), .int (xs 1), .ref ho]) (rest := []) K hP hPo hS (hKo2.sub [0] rfl) hap1 hg1 (gl_isAntichain l hfl G (xs 1) cL ho (fun _ => 0) f2 r lo_z o h8 hw) ⟨gv_711, gv_0, by decide +kernel, by decide +kernel⟩ gv_709 gv_710 rfl rfl (Nat.le_of_ble_eq_true rfl) hl.1 ⟨rfl, rfl⟩ ⟨Nat.le_of_ble_eq_true rfl, Nat.le_of_ble_eq_true rfl⟩ ⟨Nat.le_of_ble_eq_true rfl, Nat.le_of_ble_eq_true rfl⟩ dL_law_515 (fun H hP hPo _ hS => ?_)
  refine lv_istore (lv' := [(6, .int r), (5, .int 0), (4, .ref hd), (3, .ref ho), (2, .ref (G.2.1 33)), (1, .ref (G.2.1 0)), (0, .ref b)]) hx hb dL_law_518 hl (by decide) rfl (fun ls hl => ?_)
  refine lv_aload_n hx hb dL_law_520 rfl (lv_at hl 4 rfl) ?_
  refine lv_aload_n hx hb dL_law_521 rfl (lv_at hl 6 rfl) ?_
  refine lv_iload hx hb dL_law_522 (lv_at hl 1 rfl) ?_
  refine lv_iconst (v := 1) hx hb dL_law_524 (by decide) ?_
  refine lv_iadd hx hb dL_law_525 ?_
  refine lc_sld K hS (j := 1) (by decide) (by unfold vp_in; decide) dL_law_526 ?_
  refine lc_cz (C := RX11) (As := [.int (xs 1)]) (rest := []) K hP hPo hap1 hS (gc_X11_isAntichain l G (xs 1) o.2 o2 h11) gk_X11_isAntichain gv_1436 ⟨gv_1437, gv_1438⟩ (va_recv hT.2.1 hP (ci := 13) (q0 := 33) rfl rfl) rfl rfl (Nat.le_of_ble_eq_true rfl) hl.1 ⟨rfl, rfl⟩ ⟨Nat.le_of_ble_eq_true rfl, Nat.le_of_ble_eq_true rfl⟩ ⟨Nat.le_of_ble_eq_true rfl, Nat.le_of_ble_eq_true rfl⟩ dL_law_527 (fun H hP hPo hS => ?_)
  refine lv_istore (lv' := [(7, .int o2.1), (6, .int r), (5, .int 0), (4, .ref hd), (3, .ref ho), (2, .ref (G.2.1 33)), (1, .ref (G.2.1 0)), (0, .ref b)]) hx hb dL_law_530 hl (by decide) rfl (fun ls hl => ?_)
  refine lv_aload_n hx hb dL_law_532 rfl (lv_at hl 5 rfl) ?_
  refine lc_ci (C := RX11) (As := []) (rest := []) K hP hPo hap1 hS (gc_X11_thrown l G o2.2 _ rfl) gk_X11_thrown gv_1191 ⟨gv_1192, gv_1193⟩ (va_recv hT.2.1 hP (ci := 13) (q0 := 33) rfl rfl) rfl rfl (Nat.le_of_ble_eq_true rfl) hl.1 ⟨rfl, rfl⟩ ⟨Nat.le_of_ble_eq_true rfl, Nat.le_of_ble_eq_true rfl⟩ ⟨Nat.le_of_ble_eq_true rfl, Nat.le_of_ble_eq_true rfl⟩ dL_law_533 (fun H hP hPo hS => ?_)
  refine lv_iload hx hb dL_law_536 (lv_at hl 1 rfl) ?_
  refine lv_icmp_eq (tgt := 543) hx hb dL_law_538 (by decide) (fun _ => ?_) (fun z => absurd ht z)
  refine lv_iload hx hb dL_law_543 (lv_at hl 1 rfl) ?_
  refine lv_if_ne (tgt := 567) hx hb dL_law_545 (by decide) (fun _ => ?_) (fun hr0 => ?_)
  · refine lv_goto (tgt := 2737) hx hb dL_law_567 (by decide) ?_
    exact lc_end K rfl hS (lv_sub hl [2, 7] rfl) (Nat.le_of_ble_eq_true rfl) (Nat.le_of_ble_eq_true rfl)
  · have hv := hv hr0
    refine lv_aload_n hx hb dL_law_548 rfl (lv_at hl 4 rfl) ?_
    refine lv_iconst (v := 0) hx hb dL_law_549 (by decide) ?_
    refine va_lald (D := G.1) hx hb hKo2 hPo 0 0 (n := 1) (f := f2) rfl rfl (by unfold vp_in; decide) dL_law_550 ?_
    refine lv_iload hx hb dL_law_551 (lv_at hl 0 rfl) ?_
    refine lv_if_eq (tgt := 560) hx hb dL_law_553 (by decide) (fun z0 => ?_) (fun z0 => ?_)
    · have hv := hv.trans (if_pos z0)
      refine lv_lconst (v := 0) hx hb dL_law_560 (by decide) ?_
      refine W.lcmp hx hb dL_law_561 ?_
      refine lv_if_eq (tgt := 567) hx hb dL_law_562 (by decide) (fun _ => ?_) (fun z => absurd (by rw [show f2 (0 : Int32).toNatClampNeg = f2 0 from rfl, hv]; exact lc_cmp _) z)
      refine lv_goto (tgt := 2737) hx hb dL_law_567 (by decide) ?_
      exact lc_end K rfl hS (lv_sub hl [2, 7] rfl) (Nat.le_of_ble_eq_true rfl) (Nat.le_of_ble_eq_true rfl)
    · have hv := hv.trans (if_neg z0)
      refine lv_lconst (v := 1) hx hb dL_law_556 (by decide) ?_
      refine lv_goto (tgt := 561) hx hb dL_law_557 (by decide) ?_
      refine W.lcmp hx hb dL_law_561 ?_
      refine lv_if_eq (tgt := 567) hx hb dL_law_562 (by decide) (fun _ => ?_) (fun z => absurd (by rw [show f2 (0 : Int32).toNatClampNeg = f2 0 from rfl, hv]; exact lc_cmp _) z)
      refine lv_goto (tgt := 2737) hx hb dL_law_567 (by decide) ?_
      exact lc_end K rfl hS (lv_sub hl [2, 7] rfl) (Nat.le_of_ble_eq_true rfl) (Nat.le_of_ble_eq_true rfl)
set_option maxHeartbeats 4000000 in
set_option maxRecDepth 100000 in
theorem lc_6_widest (l : Launch) {p : Program} {e : Env} {s : State} {m : MethodId} {below : List Frame} {meth : Method} {c : Code} {H : Heap} {b : Nat} {xs : Nat → Int32} {G : gw_G} {cL cD : ClassId} {ho hd : Nat} {ls : Array Slot} (K : lc_C p s m meth c b 5 xs G cL cD ho hd) (hP : gw_P G lo_z H) (hPo : va_P G.1 vwCl [(ho, .inl (cL, 1, .inr (.inl (fun _ => 0))))] H) (hS : va_S (fun q => s.heap.size ≤ q) s.heap H []) (hl : lv_has ls 9 [(5, .int 0), (4, .ref hd), (3, .ref ho), (2, .ref (G.2.1 33)), (1, .ref (G.2.1 0)), (0, .ref b)]) (o : Int32 × gw_S) (h8 : f_X8_widest lo_z = some o) (o2 : Int32 × gw_S) (h11 : f_X11_widest o.2 = some o2) (hv : o.1 = o2.1) : W p l e room_1 s m #[Value.ref b] below meth c H [] 40 1183 (lw_Z below #[Value.ref b] s) (F0 m 570 ls []) := by
  obtain ⟨X, -, -, -, -, hKo2, -, hap1, hap2, -, -, hg1, hg2⟩ := id K
  obtain ⟨hx, hb, -, hown, hts, hT, -⟩ := id X
  refine lv_aload_n hx hb dL_law_570 rfl (lv_at hl 4 rfl) ?_
  refine lc_ci (C := RX8) (As := []) (rest := []) K hP hPo hap1 hS (gc_X8_widest l G lo_z o h8) gk_X8_widest gv_244 ⟨gv_245, gv_246⟩ (va_recv hT.2.1 hP (ci := 10) (q0 := 0) rfl rfl) rfl rfl (Nat.le_of_ble_eq_true rfl) hl.1 ⟨rfl, rfl⟩ ⟨Nat.le_of_ble_eq_true rfl, Nat.le_of_ble_eq_true rfl⟩ ⟨Nat.le_of_ble_eq_true rfl, Nat.le_of_ble_eq_true rfl⟩ dL_law_571 (fun H hP hPo hS => ?_)
  refine lv_aload_n hx hb dL_law_574 rfl (lv_at hl 3 rfl) ?_
  refine lc_ci (C := RX11) (As := []) (rest := [.int o.1]) K hP hPo hap1 hS (gc_X11_widest l G o.2 o2 h11) gk_X11_widest gv_1448 ⟨gv_1449, gv_1450⟩ (va_recv hT.2.1 hP (ci := 13) (q0 := 33) rfl rfl) rfl rfl (Nat.le_of_ble_eq_true rfl) hl.1 ⟨rfl, rfl⟩ ⟨Nat.le_of_ble_eq_true rfl, Nat.le_of_ble_eq_true rfl⟩ ⟨Nat.le_of_ble_eq_true rfl, Nat.le_of_ble_eq_true rfl⟩ dL_law_575 (fun H hP hPo hS => ?_)
  refine lv_icmp_eq (tgt := 2737) hx hb dL_law_578 (by decide) (fun _ => ?_) (fun z => absurd hv z)
  exact lc_end K rfl hS (lv_sub hl [0, 5] rfl) (Nat.le_of_ble_eq_true rfl) (Nat.le_of_ble_eq_true rfl)
set_option maxHeartbeats 4000000 in
set_option maxRecDepth 100000 in
theorem lc_8_isFilter (l : Launch) (hfl : l.stackTraces = false) {p : Program} {e : Env} {s : State} {m : MethodId} {below : List Frame} {meth : Method} {c : Code} {H : Heap} {b : Nat} {xs : Nat → Int32} {G : gw_G} {cL cD : ClassId} {ho hd : Nat} {ls : Array Slot} (K : lc_C p s m meth c b 5 xs G cL cD ho hd) (hP : gw_P G lo_z H) (hPo : va_P G.1 vwCl [(ho, .inl (cL, 1, .inr (.inl (fun _ => 0))))] H) (hS : va_S (fun q => s.heap.size ≤ q) s.heap H []) (hl : lv_has ls 9 [(5, .int 0), (4, .ref hd), (3, .ref ho), (2, .ref (G.2.1 33)), (1, .ref (G.2.1 0)), (0, .ref b)]) (r : Int32) (f2 : Nat → Int64) (o : (Int32 ⊕ String) × gw_S) (h8 : f_X8_isFilter (xs 1) lo_z = some o) (hw : w_isFilter (fun _ => 0) o.1 = some (r, f2)) (o2 : Int32 × gw_S) (h11 : f_X11_isFilter (xs 1) o.2 = some o2) (ht : o2.2 33 4 = r) (hv : r = 0 → f2 0 = (if o2.1 = 0 then (0 : Int64) else (1 : Int64))) : W p l e room_1 s m #[Value.ref b] below meth c H [] 40 1183 (lw_Z below #[Value.ref b] s) (F0 m 646 ls []) := by
  obtain ⟨X, -, -, -, -, hKo2, -, hap1, hap2, -, -, hg1, hg2⟩ := id K
  obtain ⟨hx, hb, -, hown, hts, hT, -⟩ := id X
  refine lv_aload_n hx hb dL_law_646 rfl (lv_at hl 4 rfl) ?_
  refine lv_aload_n hx hb dL_law_647 rfl (lv_at hl 5 rfl) ?_
  refine lv_iload hx hb dL_law_648 (lv_at hl 0 rfl) ?_
  refine lv_iconst (v := 1) hx hb dL_law_650 (by decide) ?_
  refine lv_iadd hx hb dL_law_651 ?_
  refine lc_sld K hS (j := 1) (by decide) (by unfold vp_in; decide) dL_law_652 ?_
  refine lv_aload_n hx hb dL_law_653 rfl (lv_at hl 2 rfl) ?_
  refine lc_call (n := 3) (hq := ho) (x := .inl (cL, 1, .inr (.inl (fun _ => 0)))) (As := [.ref (G.2.1 0), .int (xs 1), .ref ho]) (rest := []) K hP hPo hS (hKo2.sub [0] rfl) hap1 hg1 (gl_isFilter l hfl G (xs 1) cL ho (fun _ => 0) f2 r lo_z o h8 hw) ⟨gv_747, gv_0, by decide +kernel, by decide +kernel⟩ gv_745 gv_746 rfl rfl (Nat.le_of_ble_eq_true rfl) hl.1 ⟨rfl, rfl⟩ ⟨Nat.le_of_ble_eq_true rfl, Nat.le_of_ble_eq_true rfl⟩ ⟨Nat.le_of_ble_eq_true rfl, Nat.le_of_ble_eq_true rfl⟩ dL_law_654 (fun H hP hPo _ hS => ?_)
  refine lv_istore (lv' := [(6, .int r), (5, .int 0), (4, .ref hd), (3, .ref ho), (2, .ref (G.2.1 33)), (1, .ref (G.2.1 0)), (0, .ref b)]) hx hb dL_law_657 hl (by decide) rfl (fun ls hl => ?_)
  refine lv_aload_n hx hb dL_law_659 rfl (lv_at hl 4 rfl) ?_
  refine lv_aload_n hx hb dL_law_660 rfl (lv_at hl 6 rfl) ?_
  refine lv_iload hx hb dL_law_661 (lv_at hl 1 rfl) ?_
  refine lv_iconst (v := 1) hx hb dL_law_663 (by decide) ?_
  refine lv_iadd hx hb dL_law_664 ?_
  refine lc_sld K hS (j := 1) (by decide) (by unfold vp_in; decide) dL_law_665 ?_
  refine lc_cz (C := RX11) (As := [.int (xs 1)]) (rest := []) K hP hPo hap1 hS (gc_X11_isFilter l G (xs 1) o.2 o2 h11) gk_X11_isFilter gv_1457 ⟨gv_1458, gv_1459⟩ (va_recv hT.2.1 hP (ci := 13) (q0 := 33) rfl rfl) rfl rfl (Nat.le_of_ble_eq_true rfl) hl.1 ⟨rfl, rfl⟩ ⟨Nat.le_of_ble_eq_true rfl, Nat.le_of_ble_eq_true rfl⟩ ⟨Nat.le_of_ble_eq_true rfl, Nat.le_of_ble_eq_true rfl⟩ dL_law_666 (fun H hP hPo hS => ?_)
  refine lv_istore (lv' := [(7, .int o2.1), (6, .int r), (5, .int 0), (4, .ref hd), (3, .ref ho), (2, .ref (G.2.1 33)), (1, .ref (G.2.1 0)), (0, .ref b)]) hx hb dL_law_669 hl (by decide) rfl (fun ls hl => ?_)
  refine lv_aload_n hx hb dL_law_671 rfl (lv_at hl 5 rfl) ?_
  refine lc_ci (C := RX11) (As := []) (rest := []) K hP hPo hap1 hS (gc_X11_thrown l G o2.2 _ rfl) gk_X11_thrown gv_1191 ⟨gv_1192, gv_1193⟩ (va_recv hT.2.1 hP (ci := 13) (q0 := 33) rfl rfl) rfl rfl (Nat.le_of_ble_eq_true rfl) hl.1 ⟨rfl, rfl⟩ ⟨Nat.le_of_ble_eq_true rfl, Nat.le_of_ble_eq_true rfl⟩ ⟨Nat.le_of_ble_eq_true rfl, Nat.le_of_ble_eq_true rfl⟩ dL_law_672 (fun H hP hPo hS => ?_)
  refine lv_iload hx hb dL_law_675 (lv_at hl 1 rfl) ?_
  refine lv_icmp_eq (tgt := 682) hx hb dL_law_677 (by decide) (fun _ => ?_) (fun z => absurd ht z)
  refine lv_iload hx hb dL_law_682 (lv_at hl 1 rfl) ?_
  refine lv_if_ne (tgt := 706) hx hb dL_law_684 (by decide) (fun _ => ?_) (fun hr0 => ?_)
  · refine lv_goto (tgt := 2737) hx hb dL_law_706 (by decide) ?_
    exact lc_end K rfl hS (lv_sub hl [2, 7] rfl) (Nat.le_of_ble_eq_true rfl) (Nat.le_of_ble_eq_true rfl)
  · have hv := hv hr0
    refine lv_aload_n hx hb dL_law_687 rfl (lv_at hl 4 rfl) ?_
    refine lv_iconst (v := 0) hx hb dL_law_688 (by decide) ?_
    refine va_lald (D := G.1) hx hb hKo2 hPo 0 0 (n := 1) (f := f2) rfl rfl (by unfold vp_in; decide) dL_law_689 ?_
    refine lv_iload hx hb dL_law_690 (lv_at hl 0 rfl) ?_
    refine lv_if_eq (tgt := 699) hx hb dL_law_692 (by decide) (fun z0 => ?_) (fun z0 => ?_)
    · have hv := hv.trans (if_pos z0)
      refine lv_lconst (v := 0) hx hb dL_law_699 (by decide) ?_
      refine W.lcmp hx hb dL_law_700 ?_
      refine lv_if_eq (tgt := 706) hx hb dL_law_701 (by decide) (fun _ => ?_) (fun z => absurd (by rw [show f2 (0 : Int32).toNatClampNeg = f2 0 from rfl, hv]; exact lc_cmp _) z)
      refine lv_goto (tgt := 2737) hx hb dL_law_706 (by decide) ?_
      exact lc_end K rfl hS (lv_sub hl [2, 7] rfl) (Nat.le_of_ble_eq_true rfl) (Nat.le_of_ble_eq_true rfl)
    · have hv := hv.trans (if_neg z0)
      refine lv_lconst (v := 1) hx hb dL_law_695 (by decide) ?_
      refine lv_goto (tgt := 700) hx hb dL_law_696 (by decide) ?_
      refine W.lcmp hx hb dL_law_700 ?_
      refine lv_if_eq (tgt := 706) hx hb dL_law_701 (by decide) (fun _ => ?_) (fun z => absurd (by rw [show f2 (0 : Int32).toNatClampNeg = f2 0 from rfl, hv]; exact lc_cmp _) z)
      refine lv_goto (tgt := 2737) hx hb dL_law_706 (by decide) ?_
      exact lc_end K rfl hS (lv_sub hl [2, 7] rfl) (Nat.le_of_ble_eq_true rfl) (Nat.le_of_ble_eq_true rfl)
set_option maxHeartbeats 4000000 in
set_option maxRecDepth 100000 in
theorem lc_9_filters (l : Launch) {p : Program} {e : Env} {s : State} {m : MethodId} {below : List Frame} {meth : Method} {c : Code} {H : Heap} {b : Nat} {xs : Nat → Int32} {G : gw_G} {cL cD : ClassId} {ho hd : Nat} {ls : Array Slot} (K : lc_C p s m meth c b 5 xs G cL cD ho hd) (hP : gw_P G lo_z H) (hPo : va_P G.1 vwCl [(ho, .inl (cL, 1, .inr (.inl (fun _ => 0))))] H) (hS : va_S (fun q => s.heap.size ≤ q) s.heap H []) (hl : lv_has ls 9 [(5, .int 0), (4, .ref hd), (3, .ref ho), (2, .ref (G.2.1 33)), (1, .ref (G.2.1 0)), (0, .ref b)]) (o : Int32 × gw_S) (h8 : f_X8_filters lo_z = some o) (o2 : Int32 × gw_S) (h11 : f_X11_filters_ o.2 = some o2) (hv : o.1 = o2.1) : W p l e room_1 s m #[Value.ref b] below meth c H [] 40 1183 (lw_Z below #[Value.ref b] s) (F0 m 709 ls []) := by
  obtain ⟨X, -, -, -, -, hKo2, -, hap1, hap2, -, -, hg1, hg2⟩ := id K
  obtain ⟨hx, hb, -, hown, hts, hT, -⟩ := id X
  refine lv_aload_n hx hb dL_law_709 rfl (lv_at hl 4 rfl) ?_
  refine lc_ci (C := RX8) (As := []) (rest := []) K hP hPo hap1 hS (gc_X8_filters l G lo_z o h8) gk_X8_filters gv_254 ⟨gv_255, gv_256⟩ (va_recv hT.2.1 hP (ci := 10) (q0 := 0) rfl rfl) rfl rfl (Nat.le_of_ble_eq_true rfl) hl.1 ⟨rfl, rfl⟩ ⟨Nat.le_of_ble_eq_true rfl, Nat.le_of_ble_eq_true rfl⟩ ⟨Nat.le_of_ble_eq_true rfl, Nat.le_of_ble_eq_true rfl⟩ dL_law_710 (fun H hP hPo hS => ?_)
  refine lv_aload_n hx hb dL_law_713 rfl (lv_at hl 3 rfl) ?_
  refine lc_ci (C := RX11) (As := []) (rest := [.int o.1]) K hP hPo hap1 hS (gc_X11_filters_ l G o.2 o2 h11) gk_X11_filters_ gv_1465 ⟨gv_1466, gv_1467⟩ (va_recv hT.2.1 hP (ci := 13) (q0 := 33) rfl rfl) rfl rfl (Nat.le_of_ble_eq_true rfl) hl.1 ⟨rfl, rfl⟩ ⟨Nat.le_of_ble_eq_true rfl, Nat.le_of_ble_eq_true rfl⟩ ⟨Nat.le_of_ble_eq_true rfl, Nat.le_of_ble_eq_true rfl⟩ dL_law_714 (fun H hP hPo hS => ?_)
  refine lv_icmp_eq (tgt := 2737) hx hb dL_law_717 (by decide) (fun _ => ?_) (fun z => absurd hv z)
  exact lc_end K rfl hS (lv_sub hl [0, 5] rfl) (Nat.le_of_ble_eq_true rfl) (Nat.le_of_ble_eq_true rfl)
set_option maxHeartbeats 4000000 in
set_option maxRecDepth 100000 in
theorem lc_10_isSeparative (l : Launch) {p : Program} {e : Env} {s : State} {m : MethodId} {below : List Frame} {meth : Method} {c : Code} {H : Heap} {b : Nat} {xs : Nat → Int32} {G : gw_G} {cL cD : ClassId} {ho hd : Nat} {ls : Array Slot} (K : lc_C p s m meth c b 5 xs G cL cD ho hd) (hP : gw_P G lo_z H) (hPo : va_P G.1 vwCl [(ho, .inl (cL, 1, .inr (.inl (fun _ => 0))))] H) (hS : va_S (fun q => s.heap.size ≤ q) s.heap H []) (hl : lv_has ls 9 [(5, .int 0), (4, .ref hd), (3, .ref ho), (2, .ref (G.2.1 33)), (1, .ref (G.2.1 0)), (0, .ref b)]) (o : Int32 × gw_S) (h8 : f_X8_isSeparative lo_z = some o) (o2 : Int32 × gw_S) (h11 : f_X11_isSeparative o.2 = some o2) (hv : o.1 = o2.1) : W p l e room_1 s m #[Value.ref b] below meth c H [] 40 1183 (lw_Z below #[Value.ref b] s) (F0 m 722 ls []) := by
  obtain ⟨X, -, -, -, -, hKo2, -, hap1, hap2, -, -, hg1, hg2⟩ := id K
  obtain ⟨hx, hb, -, hown, hts, hT, -⟩ := id X
  refine lv_aload_n hx hb dL_law_722 rfl (lv_at hl 4 rfl) ?_
  refine lc_cz (C := RX8) (As := []) (rest := []) K hP hPo hap1 hS (gc_X8_isSeparative l G lo_z o h8) gk_X8_isSeparative gv_262 ⟨gv_263, gv_264⟩ (va_recv hT.2.1 hP (ci := 10) (q0 := 0) rfl rfl) rfl rfl (Nat.le_of_ble_eq_true rfl) hl.1 ⟨rfl, rfl⟩ ⟨Nat.le_of_ble_eq_true rfl, Nat.le_of_ble_eq_true rfl⟩ ⟨Nat.le_of_ble_eq_true rfl, Nat.le_of_ble_eq_true rfl⟩ dL_law_723 (fun H hP hPo hS => ?_)
  refine lv_aload_n hx hb dL_law_726 rfl (lv_at hl 3 rfl) ?_
  refine lc_cz (C := RX11) (As := []) (rest := [.int o.1]) K hP hPo hap1 hS (gc_X11_isSeparative l G o.2 o2 h11) gk_X11_isSeparative gv_1469 ⟨gv_1470, gv_1471⟩ (va_recv hT.2.1 hP (ci := 13) (q0 := 33) rfl rfl) rfl rfl (Nat.le_of_ble_eq_true rfl) hl.1 ⟨rfl, rfl⟩ ⟨Nat.le_of_ble_eq_true rfl, Nat.le_of_ble_eq_true rfl⟩ ⟨Nat.le_of_ble_eq_true rfl, Nat.le_of_ble_eq_true rfl⟩ dL_law_727 (fun H hP hPo hS => ?_)
  refine lv_icmp_eq (tgt := 2737) hx hb dL_law_730 (by decide) (fun _ => ?_) (fun z => absurd hv z)
  exact lc_end K rfl hS (lv_sub hl [0, 5] rfl) (Nat.le_of_ble_eq_true rfl) (Nat.le_of_ble_eq_true rfl)
set_option maxHeartbeats 4000000 in
set_option maxRecDepth 100000 in
theorem lc_11_cut (l : Launch) (hfl : l.stackTraces = false) {p : Program} {e : Env} {s : State} {m : MethodId} {below : List Frame} {meth : Method} {c : Code} {H : Heap} {b : Nat} {xs : Nat → Int32} {G : gw_G} {cL cD : ClassId} {ho hd : Nat} {ls : Array Slot} (K : lc_C p s m meth c b 5 xs G cL cD ho hd) (hP : gw_P G lo_z H) (hPo : va_P G.1 vwCl [(ho, .inl (cL, 1, .inr (.inl (fun _ => 0))))] H) (hS : va_S (fun q => s.heap.size ≤ q) s.heap H []) (hl : lv_has ls 9 [(5, .int 0), (4, .ref hd), (3, .ref ho), (2, .ref (G.2.1 33)), (1, .ref (G.2.1 0)), (0, .ref b)]) (r : Int32) (f2 : Nat → Int64) (o : (Int32 ⊕ String) × gw_S) (h8 : f_X8_cut (xs 1) lo_z = some o) (hw : w_cut (fun _ => 0) o.1 = some (r, f2)) (o2 : Int32 × gw_S) (h11 : f_X11_cut (xs 1) o.2 = some o2) (ht : o2.2 33 4 = r) (hv : r = 0 → f2 0 = o2.1.toInt64) : W p l e room_1 s m #[Value.ref b] below meth c H [] 40 1183 (lw_Z below #[Value.ref b] s) (F0 m 735 ls []) := by
  obtain ⟨X, -, -, -, -, hKo2, -, hap1, hap2, -, -, hg1, hg2⟩ := id K
  obtain ⟨hx, hb, -, hown, hts, hT, -⟩ := id X
  refine lv_aload_n hx hb dL_law_735 rfl (lv_at hl 4 rfl) ?_
  refine lv_aload_n hx hb dL_law_736 rfl (lv_at hl 5 rfl) ?_
  refine lv_iload hx hb dL_law_737 (lv_at hl 0 rfl) ?_
  refine lv_iconst (v := 1) hx hb dL_law_739 (by decide) ?_
  refine lv_iadd hx hb dL_law_740 ?_
  refine lc_sld K hS (j := 1) (by decide) (by unfold vp_in; decide) dL_law_741 ?_
  refine lv_aload_n hx hb dL_law_742 rfl (lv_at hl 2 rfl) ?_
  refine lc_call (n := 3) (hq := ho) (x := .inl (cL, 1, .inr (.inl (fun _ => 0)))) (As := [.ref (G.2.1 0), .int (xs 1), .ref ho]) (rest := []) K hP hPo hS (hKo2.sub [0] rfl) hap1 hg1 (gl_cut l hfl G (xs 1) cL ho (fun _ => 0) f2 r lo_z o h8 hw) ⟨gv_762, gv_0, by decide +kernel, by decide +kernel⟩ gv_760 gv_761 rfl rfl (Nat.le_of_ble_eq_true rfl) hl.1 ⟨rfl, rfl⟩ ⟨Nat.le_of_ble_eq_true rfl, Nat.le_of_ble_eq_true rfl⟩ ⟨Nat.le_of_ble_eq_true rfl, Nat.le_of_ble_eq_true rfl⟩ dL_law_743 (fun H hP hPo _ hS => ?_)
  refine lv_istore (lv' := [(6, .int r), (5, .int 0), (4, .ref hd), (3, .ref ho), (2, .ref (G.2.1 33)), (1, .ref (G.2.1 0)), (0, .ref b)]) hx hb dL_law_746 hl (by decide) rfl (fun ls hl => ?_)
  refine lv_aload_n hx hb dL_law_748 rfl (lv_at hl 4 rfl) ?_
  refine lv_aload_n hx hb dL_law_749 rfl (lv_at hl 6 rfl) ?_
  refine lv_iload hx hb dL_law_750 (lv_at hl 1 rfl) ?_
  refine lv_iconst (v := 1) hx hb dL_law_752 (by decide) ?_
  refine lv_iadd hx hb dL_law_753 ?_
  refine lc_sld K hS (j := 1) (by decide) (by unfold vp_in; decide) dL_law_754 ?_
  refine lc_ci (C := RX11) (As := [.int (xs 1)]) (rest := []) K hP hPo hap1 hS (gc_X11_cut l G (xs 1) o.2 o2 h11) gk_X11_cut gv_1473 ⟨gv_1474, gv_1475⟩ (va_recv hT.2.1 hP (ci := 13) (q0 := 33) rfl rfl) rfl rfl (Nat.le_of_ble_eq_true rfl) hl.1 ⟨rfl, rfl⟩ ⟨Nat.le_of_ble_eq_true rfl, Nat.le_of_ble_eq_true rfl⟩ ⟨Nat.le_of_ble_eq_true rfl, Nat.le_of_ble_eq_true rfl⟩ dL_law_755 (fun H hP hPo hS => ?_)
  refine lv_istore (lv' := [(7, .int o2.1), (6, .int r), (5, .int 0), (4, .ref hd), (3, .ref ho), (2, .ref (G.2.1 33)), (1, .ref (G.2.1 0)), (0, .ref b)]) hx hb dL_law_758 hl (by decide) rfl (fun ls hl => ?_)
  refine lv_aload_n hx hb dL_law_760 rfl (lv_at hl 5 rfl) ?_
  refine lc_ci (C := RX11) (As := []) (rest := []) K hP hPo hap1 hS (gc_X11_thrown l G o2.2 _ rfl) gk_X11_thrown gv_1191 ⟨gv_1192, gv_1193⟩ (va_recv hT.2.1 hP (ci := 13) (q0 := 33) rfl rfl) rfl rfl (Nat.le_of_ble_eq_true rfl) hl.1 ⟨rfl, rfl⟩ ⟨Nat.le_of_ble_eq_true rfl, Nat.le_of_ble_eq_true rfl⟩ ⟨Nat.le_of_ble_eq_true rfl, Nat.le_of_ble_eq_true rfl⟩ dL_law_761 (fun H hP hPo hS => ?_)
  refine lv_iload hx hb dL_law_764 (lv_at hl 1 rfl) ?_
  refine lv_icmp_eq (tgt := 771) hx hb dL_law_766 (by decide) (fun _ => ?_) (fun z => absurd ht z)
  refine lv_iload hx hb dL_law_771 (lv_at hl 1 rfl) ?_
  refine lv_if_ne (tgt := 788) hx hb dL_law_773 (by decide) (fun _ => ?_) (fun hr0 => ?_)
  · refine lv_goto (tgt := 2737) hx hb dL_law_788 (by decide) ?_
    exact lc_end K rfl hS (lv_sub hl [2, 7] rfl) (Nat.le_of_ble_eq_true rfl) (Nat.le_of_ble_eq_true rfl)
  · have hv := hv hr0
    refine lv_aload_n hx hb dL_law_776 rfl (lv_at hl 4 rfl) ?_
    refine lv_iconst (v := 0) hx hb dL_law_777 (by decide) ?_
    refine va_lald (D := G.1) hx hb hKo2 hPo 0 0 (n := 1) (f := f2) rfl rfl (by unfold vp_in; decide) dL_law_778 ?_
    refine lv_iload hx hb dL_law_779 (lv_at hl 0 rfl) ?_
    refine lv_i2l hx hb dL_law_781 rfl ?_
    refine W.lcmp hx hb dL_law_782 ?_
    refine lv_if_eq (tgt := 788) hx hb dL_law_783 (by decide) (fun _ => ?_) (fun z => absurd (by rw [show f2 (0 : Int32).toNatClampNeg = f2 0 from rfl, hv]; exact lc_cmp _) z)
    refine lv_goto (tgt := 2737) hx hb dL_law_788 (by decide) ?_
    exact lc_end K rfl hS (lv_sub hl [2, 7] rfl) (Nat.le_of_ble_eq_true rfl) (Nat.le_of_ble_eq_true rfl)
