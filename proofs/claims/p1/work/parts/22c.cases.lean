theorem gv_929 : Cond.methodLink RL 226 yL_forcesLike ∈ gw_L := gw_tab 929 (by decide +kernel) (by decide +kernel)
theorem gv_930 : Cond.static yL_forcesLike ∈ gw_L := gw_tab 930 (by decide +kernel) (by decide +kernel)
theorem gv_931 : Cond.codeWith yL_forcesLike cL_forcesLike 6 (some .int) [(0, 19, 22, 19)] ∈ gw_L := gw_tab 931 (by decide +kernel) (by decide +kernel)
theorem gv_1600 : Cond.code yX11_forcesLike cX11_forcesLike 4 (some .boolean) ∈ gw_L := gw_tab 1600 (by decide +kernel) (by decide +kernel)
theorem gk_X11_forcesLike : gw_K yX11_forcesLike cX11_forcesLike 4 (some .boolean) 3 := ⟨gv_1600, gv_10, by decide +kernel, by decide +kernel⟩
theorem gv_1597 : Cond.methodLink RL 228 yX11_forcesLike ∈ gw_L := gw_tab 1597 (by decide +kernel) (by decide +kernel)
theorem gv_1598 : Cond.instanceMethod yX11_forcesLike ∈ gw_L := gw_tab 1598 (by decide +kernel) (by decide +kernel)
theorem gv_1599 : Cond.selects RX11 yX11_forcesLike yX11_forcesLike ∈ gw_L := gw_tab 1599 (by decide +kernel) (by decide +kernel)
theorem gv_936 : Cond.methodLink RL 229 yL_mix ∈ gw_L := gw_tab 936 (by decide +kernel) (by decide +kernel)
theorem gv_937 : Cond.static yL_mix ∈ gw_L := gw_tab 937 (by decide +kernel) (by decide +kernel)
theorem gv_938 : Cond.codeWith yL_mix cL_mix 7 (some .int) [(0, 14, 17, 19), (0, 14, 21, 21), (0, 14, 25, 13)] ∈ gw_L := gw_tab 938 (by decide +kernel) (by decide +kernel)
theorem gv_1604 : Cond.code yX11_mix cX11_mix 12 (some .int) ∈ gw_L := gw_tab 1604 (by decide +kernel) (by decide +kernel)
theorem gk_X11_mix : gw_K yX11_mix cX11_mix 12 (some .int) 4 := ⟨gv_1604, gv_10, by decide +kernel, by decide +kernel⟩
theorem gv_1601 : Cond.methodLink RL 232 yX11_mix ∈ gw_L := gw_tab 1601 (by decide +kernel) (by decide +kernel)
theorem gv_1602 : Cond.instanceMethod yX11_mix ∈ gw_L := gw_tab 1602 (by decide +kernel) (by decide +kernel)
theorem gv_1603 : Cond.selects RX11 yX11_mix yX11_mix ∈ gw_L := gw_tab 1603 (by decide +kernel) (by decide +kernel)
theorem gv_990 : Cond.methodLink RL 237 yL_both ∈ gw_L := gw_tab 990 (by decide +kernel) (by decide +kernel)
theorem gv_991 : Cond.static yL_both ∈ gw_L := gw_tab 991 (by decide +kernel) (by decide +kernel)
theorem gv_992 : Cond.codeWith yL_both cL_both 6 (some .int) [(0, 12, 15, 19), (0, 12, 19, 34), (0, 12, 23, 21), (0, 12, 27, 13)] ∈ gw_L := gw_tab 992 (by decide +kernel) (by decide +kernel)
theorem gv_1651 : Cond.code yX11_both cX11_both 5 (some .int) ∈ gw_L := gw_tab 1651 (by decide +kernel) (by decide +kernel)
theorem gk_X11_both : gw_K yX11_both cX11_both 5 (some .int) 3 := ⟨gv_1651, gv_10, by decide +kernel, by decide +kernel⟩
theorem gv_1648 : Cond.methodLink RL 239 yX11_both ∈ gw_L := gw_tab 1648 (by decide +kernel) (by decide +kernel)
theorem gv_1649 : Cond.instanceMethod yX11_both ∈ gw_L := gw_tab 1649 (by decide +kernel) (by decide +kernel)
theorem gv_1650 : Cond.selects RX11 yX11_both yX11_both ∈ gw_L := gw_tab 1650 (by decide +kernel) (by decide +kernel)
theorem gv_1012 : Cond.methodLink RL 240 yL_not ∈ gw_L := gw_tab 1012 (by decide +kernel) (by decide +kernel)
theorem gv_1013 : Cond.static yL_not ∈ gw_L := gw_tab 1013 (by decide +kernel) (by decide +kernel)
theorem gv_1014 : Cond.codeWith yL_not cL_not 4 (some .int) [(0, 9, 12, 19), (0, 9, 15, 21), (0, 9, 18, 13)] ∈ gw_L := gw_tab 1014 (by decide +kernel) (by decide +kernel)
theorem gv_1663 : Cond.code yX11_not cX11_not 2 (some .int) ∈ gw_L := gw_tab 1663 (by decide +kernel) (by decide +kernel)
theorem gk_X11_not : gw_K yX11_not cX11_not 2 (some .int) 1 := ⟨gv_1663, gv_10, by decide +kernel, by decide +kernel⟩
theorem gv_1660 : Cond.methodLink RL 242 yX11_not ∈ gw_L := gw_tab 1660 (by decide +kernel) (by decide +kernel)
theorem gv_1661 : Cond.instanceMethod yX11_not ∈ gw_L := gw_tab 1661 (by decide +kernel) (by decide +kernel)
theorem gv_1662 : Cond.selects RX11 yX11_not yX11_not ∈ gw_L := gw_tab 1662 (by decide +kernel) (by decide +kernel)
theorem gv_1019 : Cond.methodLink RL 243 yL_bind ∈ gw_L := gw_tab 1019 (by decide +kernel) (by decide +kernel)
theorem gv_1020 : Cond.static yL_bind ∈ gw_L := gw_tab 1020 (by decide +kernel) (by decide +kernel)
theorem gv_1021 : Cond.codeWith yL_bind cL_bind 7 (some .int) [(0, 14, 17, 19), (0, 14, 21, 34), (0, 14, 25, 21), (0, 14, 29, 13)] ∈ gw_L := gw_tab 1021 (by decide +kernel) (by decide +kernel)
theorem gv_1667 : Cond.code yX11_bind cX11_bind 5 (some .int) ∈ gw_L := gw_tab 1667 (by decide +kernel) (by decide +kernel)
theorem gk_X11_bind : gw_K yX11_bind cX11_bind 5 (some .int) 4 := ⟨gv_1667, gv_10, by decide +kernel, by decide +kernel⟩
theorem gv_1664 : Cond.methodLink RL 246 yX11_bind ∈ gw_L := gw_tab 1664 (by decide +kernel) (by decide +kernel)
theorem gv_1665 : Cond.instanceMethod yX11_bind ∈ gw_L := gw_tab 1665 (by decide +kernel) (by decide +kernel)
theorem gv_1666 : Cond.selects RX11 yX11_bind yX11_bind ∈ gw_L := gw_tab 1666 (by decide +kernel) (by decide +kernel)
theorem gv_1027 : Cond.methodLink RL 247 yL_free ∈ gw_L := gw_tab 1027 (by decide +kernel) (by decide +kernel)
theorem gv_1028 : Cond.static yL_free ∈ gw_L := gw_tab 1028 (by decide +kernel) (by decide +kernel)
theorem gv_1029 : Cond.codeWith yL_free cL_free 4 (some .int) [(0, 9, 12, 19)] ∈ gw_L := gw_tab 1029 (by decide +kernel) (by decide +kernel)
theorem gv_1671 : Cond.code yX11_free cX11_free 2 (some .int) ∈ gw_L := gw_tab 1671 (by decide +kernel) (by decide +kernel)
theorem gk_X11_free : gw_K yX11_free cX11_free 2 (some .int) 1 := ⟨gv_1671, gv_10, by decide +kernel, by decide +kernel⟩
theorem gv_1668 : Cond.methodLink RL 249 yX11_free ∈ gw_L := gw_tab 1668 (by decide +kernel) (by decide +kernel)
theorem gv_1669 : Cond.instanceMethod yX11_free ∈ gw_L := gw_tab 1669 (by decide +kernel) (by decide +kernel)
theorem gv_1670 : Cond.selects RX11 yX11_free yX11_free ∈ gw_L := gw_tab 1670 (by decide +kernel) (by decide +kernel)
theorem gv_1034 : Cond.methodLink RL 250 yL_value ∈ gw_L := gw_tab 1034 (by decide +kernel) (by decide +kernel)
theorem gv_1035 : Cond.static yL_value ∈ gw_L := gw_tab 1035 (by decide +kernel) (by decide +kernel)
theorem gv_1036 : Cond.codeWith yL_value cL_value 4 (some .int) [(0, 9, 12, 19), (0, 9, 15, 21)] ∈ gw_L := gw_tab 1036 (by decide +kernel) (by decide +kernel)
theorem gv_1682 : Cond.code yX11_value cX11_value 2 (some .int) ∈ gw_L := gw_tab 1682 (by decide +kernel) (by decide +kernel)
theorem gk_X11_value : gw_K yX11_value cX11_value 2 (some .int) 1 := ⟨gv_1682, gv_10, by decide +kernel, by decide +kernel⟩
theorem gv_1679 : Cond.methodLink RL 252 yX11_value ∈ gw_L := gw_tab 1679 (by decide +kernel) (by decide +kernel)
theorem gv_1680 : Cond.instanceMethod yX11_value ∈ gw_L := gw_tab 1680 (by decide +kernel) (by decide +kernel)
theorem gv_1681 : Cond.selects RX11 yX11_value yX11_value ∈ gw_L := gw_tab 1681 (by decide +kernel) (by decide +kernel)
theorem gv_1046 : Cond.methodLink RL 253 yL_forces ∈ gw_L := gw_tab 1046 (by decide +kernel) (by decide +kernel)
theorem gv_1047 : Cond.static yL_forces ∈ gw_L := gw_tab 1047 (by decide +kernel) (by decide +kernel)
theorem gv_1048 : Cond.codeWith yL_forces cL_forces 5 (some .int) [(0, 17, 20, 19), (0, 17, 24, 21)] ∈ gw_L := gw_tab 1048 (by decide +kernel) (by decide +kernel)
theorem gv_1704 : Cond.code yX11_forces cX11_forces 3 (some .boolean) ∈ gw_L := gw_tab 1704 (by decide +kernel) (by decide +kernel)
theorem gk_X11_forces : gw_K yX11_forces cX11_forces 3 (some .boolean) 2 := ⟨gv_1704, gv_10, by decide +kernel, by decide +kernel⟩
theorem gv_1701 : Cond.methodLink RL 255 yX11_forces ∈ gw_L := gw_tab 1701 (by decide +kernel) (by decide +kernel)
theorem gv_1702 : Cond.instanceMethod yX11_forces ∈ gw_L := gw_tab 1702 (by decide +kernel) (by decide +kernel)
theorem gv_1703 : Cond.selects RX11 yX11_forces yX11_forces ∈ gw_L := gw_tab 1703 (by decide +kernel) (by decide +kernel)
theorem gv_1053 : Cond.methodLink RL 256 yL_weakly ∈ gw_L := gw_tab 1053 (by decide +kernel) (by decide +kernel)
theorem gv_1054 : Cond.static yL_weakly ∈ gw_L := gw_tab 1054 (by decide +kernel) (by decide +kernel)
theorem gv_1055 : Cond.codeWith yL_weakly cL_weakly 5 (some .int) [(0, 17, 20, 19), (0, 17, 24, 21)] ∈ gw_L := gw_tab 1055 (by decide +kernel) (by decide +kernel)
theorem gv_1708 : Cond.code yX11_weakly cX11_weakly 3 (some .boolean) ∈ gw_L := gw_tab 1708 (by decide +kernel) (by decide +kernel)
theorem gk_X11_weakly : gw_K yX11_weakly cX11_weakly 3 (some .boolean) 2 := ⟨gv_1708, gv_10, by decide +kernel, by decide +kernel⟩
theorem gv_1705 : Cond.methodLink RL 258 yX11_weakly ∈ gw_L := gw_tab 1705 (by decide +kernel) (by decide +kernel)
theorem gv_1706 : Cond.instanceMethod yX11_weakly ∈ gw_L := gw_tab 1706 (by decide +kernel) (by decide +kernel)
theorem gv_1707 : Cond.selects RX11 yX11_weakly yX11_weakly ∈ gw_L := gw_tab 1707 (by decide +kernel) (by decide +kernel)
theorem gv_1060 : Cond.methodLink RL 259 yL_holds ∈ gw_L := gw_tab 1060 (by decide +kernel) (by decide +kernel)
theorem gv_1061 : Cond.static yL_holds ∈ gw_L := gw_tab 1061 (by decide +kernel) (by decide +kernel)
theorem gv_1062 : Cond.codeWith yL_holds cL_holds 5 (some .int) [(0, 17, 20, 19), (0, 17, 24, 21), (0, 17, 28, 34)] ∈ gw_L := gw_tab 1062 (by decide +kernel) (by decide +kernel)
theorem gv_1730 : Cond.code yX11_holds cX11_holds 3 (some .boolean) ∈ gw_L := gw_tab 1730 (by decide +kernel) (by decide +kernel)
theorem gk_X11_holds : gw_K yX11_holds cX11_holds 3 (some .boolean) 2 := ⟨gv_1730, gv_10, by decide +kernel, by decide +kernel⟩
theorem gv_1727 : Cond.methodLink RL 261 yX11_holds ∈ gw_L := gw_tab 1727 (by decide +kernel) (by decide +kernel)
theorem gv_1728 : Cond.instanceMethod yX11_holds ∈ gw_L := gw_tab 1728 (by decide +kernel) (by decide +kernel)
theorem gv_1729 : Cond.selects RX11 yX11_holds yX11_holds ∈ gw_L := gw_tab 1729 (by decide +kernel) (by decide +kernel)
set_option maxHeartbeats 4000000 in
set_option maxRecDepth 100000 in
theorem lc_23_forcesLike (l : Launch) (hfl : l.stackTraces = false) {p : Program} {e : Env} {s : State} {m : MethodId} {below : List Frame} {meth : Method} {c : Code} {H : Heap} {b : Nat} {xs : Nat → Int32} {G : gw_G} {cL cD : ClassId} {ho hd : Nat} {ls : Array Slot} (K : lc_C p s m meth c b 5 xs G cL cD ho hd) (hP : gw_P G lo_z H) (hPo : va_P G.1 vwCl [(ho, .inl (cL, 1, .inr (.inl (fun _ => 0))))] H) (hS : va_S (fun q => s.heap.size ≤ q) s.heap H []) (hl : lv_has ls 9 [(5, .int 0), (4, .ref hd), (3, .ref ho), (2, .ref (G.2.1 33)), (1, .ref (G.2.1 0)), (0, .ref b)]) (r : Int32) (f2 : Nat → Int64) (o : (Int32 ⊕ String) × gw_S) (h8 : f_X8_forcesLike (xs 1) (xs 2) (xs 3) lo_z = some o) (hw : w_forcesLike (fun _ => 0) o.1 = some (r, f2)) (o2 : Int32 × gw_S) (h11 : f_X11_forcesLike (xs 1) (xs 2) (xs 3) o.2 = some o2) (ht : o2.2 33 4 = r) (hv : r = 0 → f2 0 = (if o2.1 = 0 then (0 : Int64) else (1 : Int64))) : W p l e room_1 s m #[Value.ref b] below meth c H [] 40 1183 (lw_Z below #[Value.ref b] s) (F0 m 1486 ls []) := by
  obtain ⟨X, -, -, -, -, hKo2, -, hap1, hap2, -, -, hg1, hg2⟩ := id K
  obtain ⟨hx, hb, -, hown, hts, hT, -⟩ := id X
  refine lv_aload_n hx hb dL_law_1486 rfl (lv_at hl 4 rfl) ?_
  refine lv_aload_n hx hb dL_law_1487 rfl (lv_at hl 5 rfl) ?_
  refine lv_iload hx hb dL_law_1488 (lv_at hl 0 rfl) ?_
  refine lv_iconst (v := 1) hx hb dL_law_1490 (by decide) ?_
  refine lv_iadd hx hb dL_law_1491 ?_
  refine lc_sld K hS (j := 1) (by decide) (by unfold vp_in; decide) dL_law_1492 ?_
  refine lv_aload_n hx hb dL_law_1493 rfl (lv_at hl 5 rfl) ?_
  refine lv_iload hx hb dL_law_1494 (lv_at hl 0 rfl) ?_
  refine lv_iconst (v := 2) hx hb dL_law_1496 (by decide) ?_
  refine lv_iadd hx hb dL_law_1497 ?_
  refine lc_sld K hS (j := 2) (by decide) (by unfold vp_in; decide) dL_law_1498 ?_
  refine lv_aload_n hx hb dL_law_1499 rfl (lv_at hl 5 rfl) ?_
  refine lv_iload hx hb dL_law_1500 (lv_at hl 0 rfl) ?_
  refine lv_iconst (v := 3) hx hb dL_law_1502 (by decide) ?_
  refine lv_iadd hx hb dL_law_1503 ?_
  refine lc_sld K hS (j := 3) (by decide) (by unfold vp_in; decide) dL_law_1504 ?_
  refine lv_aload_n hx hb dL_law_1505 rfl (lv_at hl 2 rfl) ?_
  refine lc_call (n := 5) (hq := ho) (x := .inl (cL, 1, .inr (.inl (fun _ => 0)))) (As := [.ref (G.2.1 0), .int (xs 1), .int (xs 2), .int (xs 3), .ref ho]) (rest := []) K hP hPo hS (hKo2.sub [0] rfl) hap1 hg1 (gl_forcesLike l hfl G (xs 1) (xs 2) (xs 3) cL ho (fun _ => 0) f2 r lo_z o h8 hw) ⟨gv_931, gv_0, by decide +kernel, by decide +kernel⟩ gv_929 gv_930 rfl rfl (Nat.le_of_ble_eq_true rfl) hl.1 ⟨rfl, rfl⟩ ⟨Nat.le_of_ble_eq_true rfl, Nat.le_of_ble_eq_true rfl⟩ ⟨Nat.le_of_ble_eq_true rfl, Nat.le_of_ble_eq_true rfl⟩ dL_law_1506 (fun H hP hPo _ hS => ?_)
  refine lv_istore (lv' := [(6, .int r), (5, .int 0), (4, .ref hd), (3, .ref ho), (2, .ref (G.2.1 33)), (1, .ref (G.2.1 0)), (0, .ref b)]) hx hb dL_law_1509 hl (by decide) rfl (fun ls hl => ?_)
  refine lv_aload_n hx hb dL_law_1511 rfl (lv_at hl 4 rfl) ?_
  refine lv_aload_n hx hb dL_law_1512 rfl (lv_at hl 6 rfl) ?_
  refine lv_iload hx hb dL_law_1513 (lv_at hl 1 rfl) ?_
  refine lv_iconst (v := 1) hx hb dL_law_1515 (by decide) ?_
  refine lv_iadd hx hb dL_law_1516 ?_
  refine lc_sld K hS (j := 1) (by decide) (by unfold vp_in; decide) dL_law_1517 ?_
  refine lv_aload_n hx hb dL_law_1518 rfl (lv_at hl 6 rfl) ?_
  refine lv_iload hx hb dL_law_1519 (lv_at hl 1 rfl) ?_
  refine lv_iconst (v := 2) hx hb dL_law_1521 (by decide) ?_
  refine lv_iadd hx hb dL_law_1522 ?_
  refine lc_sld K hS (j := 2) (by decide) (by unfold vp_in; decide) dL_law_1523 ?_
  refine lv_aload_n hx hb dL_law_1524 rfl (lv_at hl 6 rfl) ?_
  refine lv_iload hx hb dL_law_1525 (lv_at hl 1 rfl) ?_
  refine lv_iconst (v := 3) hx hb dL_law_1527 (by decide) ?_
  refine lv_iadd hx hb dL_law_1528 ?_
  refine lc_sld K hS (j := 3) (by decide) (by unfold vp_in; decide) dL_law_1529 ?_
  refine lc_cz (C := RX11) (As := [.int (xs 1), .int (xs 2), .int (xs 3)]) (rest := []) K hP hPo hap1 hS (gc_X11_forcesLike l G (xs 1) (xs 2) (xs 3) o.2 o2 h11) gk_X11_forcesLike gv_1597 ⟨gv_1598, gv_1599⟩ (va_recv hT.2.1 hP (ci := 13) (q0 := 33) rfl rfl) rfl rfl (Nat.le_of_ble_eq_true rfl) hl.1 ⟨rfl, rfl⟩ ⟨Nat.le_of_ble_eq_true rfl, Nat.le_of_ble_eq_true rfl⟩ ⟨Nat.le_of_ble_eq_true rfl, Nat.le_of_ble_eq_true rfl⟩ dL_law_1530 (fun H hP hPo hS => ?_)
  refine lv_istore (lv' := [(7, .int o2.1), (6, .int r), (5, .int 0), (4, .ref hd), (3, .ref ho), (2, .ref (G.2.1 33)), (1, .ref (G.2.1 0)), (0, .ref b)]) hx hb dL_law_1533 hl (by decide) rfl (fun ls hl => ?_)
  refine lv_aload_n hx hb dL_law_1535 rfl (lv_at hl 5 rfl) ?_
  refine lc_ci (C := RX11) (As := []) (rest := []) K hP hPo hap1 hS (gc_X11_thrown l G o2.2 _ rfl) gk_X11_thrown gv_1191 ⟨gv_1192, gv_1193⟩ (va_recv hT.2.1 hP (ci := 13) (q0 := 33) rfl rfl) rfl rfl (Nat.le_of_ble_eq_true rfl) hl.1 ⟨rfl, rfl⟩ ⟨Nat.le_of_ble_eq_true rfl, Nat.le_of_ble_eq_true rfl⟩ ⟨Nat.le_of_ble_eq_true rfl, Nat.le_of_ble_eq_true rfl⟩ dL_law_1536 (fun H hP hPo hS => ?_)
  refine lv_iload hx hb dL_law_1539 (lv_at hl 1 rfl) ?_
  refine lv_icmp_eq (tgt := 1546) hx hb dL_law_1541 (by decide) (fun _ => ?_) (fun z => absurd ht z)
  refine lv_iload hx hb dL_law_1546 (lv_at hl 1 rfl) ?_
  refine lv_if_ne (tgt := 1570) hx hb dL_law_1548 (by decide) (fun _ => ?_) (fun hr0 => ?_)
  · refine lv_goto (tgt := 2737) hx hb dL_law_1570 (by decide) ?_
    exact lc_end K rfl hS (lv_sub hl [2, 7] rfl) (Nat.le_of_ble_eq_true rfl) (Nat.le_of_ble_eq_true rfl)
  · have hv := hv hr0
    refine lv_aload_n hx hb dL_law_1551 rfl (lv_at hl 4 rfl) ?_
    refine lv_iconst (v := 0) hx hb dL_law_1552 (by decide) ?_
    refine va_lald (D := G.1) hx hb hKo2 hPo 0 0 (n := 1) (f := f2) rfl rfl (by unfold vp_in; decide) dL_law_1553 ?_
    refine lv_iload hx hb dL_law_1554 (lv_at hl 0 rfl) ?_
    refine lv_if_eq (tgt := 1563) hx hb dL_law_1556 (by decide) (fun z0 => ?_) (fun z0 => ?_)
    · have hv := hv.trans (if_pos z0)
      refine lv_lconst (v := 0) hx hb dL_law_1563 (by decide) ?_
      refine W.lcmp hx hb dL_law_1564 ?_
      refine lv_if_eq (tgt := 1570) hx hb dL_law_1565 (by decide) (fun _ => ?_) (fun z => absurd (by rw [show f2 (0 : Int32).toNatClampNeg = f2 0 from rfl, hv]; exact lc_cmp _) z)
      refine lv_goto (tgt := 2737) hx hb dL_law_1570 (by decide) ?_
      exact lc_end K rfl hS (lv_sub hl [2, 7] rfl) (Nat.le_of_ble_eq_true rfl) (Nat.le_of_ble_eq_true rfl)
    · have hv := hv.trans (if_neg z0)
      refine lv_lconst (v := 1) hx hb dL_law_1559 (by decide) ?_
      refine lv_goto (tgt := 1564) hx hb dL_law_1560 (by decide) ?_
      refine W.lcmp hx hb dL_law_1564 ?_
      refine lv_if_eq (tgt := 1570) hx hb dL_law_1565 (by decide) (fun _ => ?_) (fun z => absurd (by rw [show f2 (0 : Int32).toNatClampNeg = f2 0 from rfl, hv]; exact lc_cmp _) z)
      refine lv_goto (tgt := 2737) hx hb dL_law_1570 (by decide) ?_
      exact lc_end K rfl hS (lv_sub hl [2, 7] rfl) (Nat.le_of_ble_eq_true rfl) (Nat.le_of_ble_eq_true rfl)
set_option maxHeartbeats 4000000 in
set_option maxRecDepth 100000 in
theorem lc_24_mix (l : Launch) (hfl : l.stackTraces = false) {p : Program} {e : Env} {s : State} {m : MethodId} {below : List Frame} {meth : Method} {c : Code} {H : Heap} {b : Nat} {xs : Nat → Int32} {G : gw_G} {cL cD : ClassId} {ho hd : Nat} {ls : Array Slot} (K : lc_C p s m meth c b 5 xs G cL cD ho hd) (hP : gw_P G lo_z H) (hPo : va_P G.1 vwCl [(ho, .inl (cL, 1, .inr (.inl (fun _ => 0))))] H) (hS : va_S (fun q => s.heap.size ≤ q) s.heap H []) (hl : lv_has ls 9 [(5, .int 0), (4, .ref hd), (3, .ref ho), (2, .ref (G.2.1 33)), (1, .ref (G.2.1 0)), (0, .ref b)]) (r : Int32) (f2 : Nat → Int64) (o : (Int32 ⊕ String) × gw_S) (h8 : f_X8_mix (xs 1) (xs 2) (xs 3) (xs 4) lo_z = some o) (hw : w_mix (fun _ => 0) o.1 = some (r, f2)) (o2 : Int32 × gw_S) (h11 : f_X11_mix (xs 1) (xs 2) (xs 3) (xs 4) o.2 = some o2) (ht : o2.2 33 4 = r) (hv : r = 0 → f2 0 = o2.1.toInt64) : W p l e room_1 s m #[Value.ref b] below meth c H [] 40 1183 (lw_Z below #[Value.ref b] s) (F0 m 1573 ls []) := by
  obtain ⟨X, -, -, -, -, hKo2, -, hap1, hap2, -, -, hg1, hg2⟩ := id K
  obtain ⟨hx, hb, -, hown, hts, hT, -⟩ := id X
  refine lv_aload_n hx hb dL_law_1573 rfl (lv_at hl 4 rfl) ?_
  refine lv_aload_n hx hb dL_law_1574 rfl (lv_at hl 5 rfl) ?_
  refine lv_iload hx hb dL_law_1575 (lv_at hl 0 rfl) ?_
  refine lv_iconst (v := 1) hx hb dL_law_1577 (by decide) ?_
  refine lv_iadd hx hb dL_law_1578 ?_
  refine lc_sld K hS (j := 1) (by decide) (by unfold vp_in; decide) dL_law_1579 ?_
  refine lv_aload_n hx hb dL_law_1580 rfl (lv_at hl 5 rfl) ?_
  refine lv_iload hx hb dL_law_1581 (lv_at hl 0 rfl) ?_
  refine lv_iconst (v := 2) hx hb dL_law_1583 (by decide) ?_
  refine lv_iadd hx hb dL_law_1584 ?_
  refine lc_sld K hS (j := 2) (by decide) (by unfold vp_in; decide) dL_law_1585 ?_
  refine lv_aload_n hx hb dL_law_1586 rfl (lv_at hl 5 rfl) ?_
  refine lv_iload hx hb dL_law_1587 (lv_at hl 0 rfl) ?_
  refine lv_iconst (v := 3) hx hb dL_law_1589 (by decide) ?_
  refine lv_iadd hx hb dL_law_1590 ?_
  refine lc_sld K hS (j := 3) (by decide) (by unfold vp_in; decide) dL_law_1591 ?_
  refine lv_aload_n hx hb dL_law_1592 rfl (lv_at hl 5 rfl) ?_
  refine lv_iload hx hb dL_law_1593 (lv_at hl 0 rfl) ?_
  refine lv_iconst (v := 4) hx hb dL_law_1595 (by decide) ?_
  refine lv_iadd hx hb dL_law_1596 ?_
  refine lc_sld K hS (j := 4) (by decide) (by unfold vp_in; decide) dL_law_1597 ?_
  refine lv_aload_n hx hb dL_law_1598 rfl (lv_at hl 2 rfl) ?_
  refine lc_call (n := 6) (hq := ho) (x := .inl (cL, 1, .inr (.inl (fun _ => 0)))) (As := [.ref (G.2.1 0), .int (xs 1), .int (xs 2), .int (xs 3), .int (xs 4), .ref ho]) (rest := []) K hP hPo hS (hKo2.sub [0] rfl) hap1 hg1 (gl_mix l hfl G (xs 1) (xs 2) (xs 3) (xs 4) cL ho (fun _ => 0) f2 r lo_z o h8 hw) ⟨gv_938, gv_0, by decide +kernel, by decide +kernel⟩ gv_936 gv_937 rfl rfl (Nat.le_of_ble_eq_true rfl) hl.1 ⟨rfl, rfl⟩ ⟨Nat.le_of_ble_eq_true rfl, Nat.le_of_ble_eq_true rfl⟩ ⟨Nat.le_of_ble_eq_true rfl, Nat.le_of_ble_eq_true rfl⟩ dL_law_1599 (fun H hP hPo _ hS => ?_)
  refine lv_istore (lv' := [(6, .int r), (5, .int 0), (4, .ref hd), (3, .ref ho), (2, .ref (G.2.1 33)), (1, .ref (G.2.1 0)), (0, .ref b)]) hx hb dL_law_1602 hl (by decide) rfl (fun ls hl => ?_)
  refine lv_aload_n hx hb dL_law_1604 rfl (lv_at hl 4 rfl) ?_
  refine lv_aload_n hx hb dL_law_1605 rfl (lv_at hl 6 rfl) ?_
  refine lv_iload hx hb dL_law_1606 (lv_at hl 1 rfl) ?_
  refine lv_iconst (v := 1) hx hb dL_law_1608 (by decide) ?_
  refine lv_iadd hx hb dL_law_1609 ?_
  refine lc_sld K hS (j := 1) (by decide) (by unfold vp_in; decide) dL_law_1610 ?_
  refine lv_aload_n hx hb dL_law_1611 rfl (lv_at hl 6 rfl) ?_
  refine lv_iload hx hb dL_law_1612 (lv_at hl 1 rfl) ?_
  refine lv_iconst (v := 2) hx hb dL_law_1614 (by decide) ?_
  refine lv_iadd hx hb dL_law_1615 ?_
  refine lc_sld K hS (j := 2) (by decide) (by unfold vp_in; decide) dL_law_1616 ?_
  refine lv_aload_n hx hb dL_law_1617 rfl (lv_at hl 6 rfl) ?_
  refine lv_iload hx hb dL_law_1618 (lv_at hl 1 rfl) ?_
  refine lv_iconst (v := 3) hx hb dL_law_1620 (by decide) ?_
  refine lv_iadd hx hb dL_law_1621 ?_
  refine lc_sld K hS (j := 3) (by decide) (by unfold vp_in; decide) dL_law_1622 ?_
  refine lv_aload_n hx hb dL_law_1623 rfl (lv_at hl 6 rfl) ?_
  refine lv_iload hx hb dL_law_1624 (lv_at hl 1 rfl) ?_
  refine lv_iconst (v := 4) hx hb dL_law_1626 (by decide) ?_
  refine lv_iadd hx hb dL_law_1627 ?_
  refine lc_sld K hS (j := 4) (by decide) (by unfold vp_in; decide) dL_law_1628 ?_
  refine lc_ci (C := RX11) (As := [.int (xs 1), .int (xs 2), .int (xs 3), .int (xs 4)]) (rest := []) K hP hPo hap1 hS (gc_X11_mix l G (xs 1) (xs 2) (xs 3) (xs 4) o.2 o2 h11) gk_X11_mix gv_1601 ⟨gv_1602, gv_1603⟩ (va_recv hT.2.1 hP (ci := 13) (q0 := 33) rfl rfl) rfl rfl (Nat.le_of_ble_eq_true rfl) hl.1 ⟨rfl, rfl⟩ ⟨Nat.le_of_ble_eq_true rfl, Nat.le_of_ble_eq_true rfl⟩ ⟨Nat.le_of_ble_eq_true rfl, Nat.le_of_ble_eq_true rfl⟩ dL_law_1629 (fun H hP hPo hS => ?_)
  refine lv_istore (lv' := [(7, .int o2.1), (6, .int r), (5, .int 0), (4, .ref hd), (3, .ref ho), (2, .ref (G.2.1 33)), (1, .ref (G.2.1 0)), (0, .ref b)]) hx hb dL_law_1632 hl (by decide) rfl (fun ls hl => ?_)
  refine lv_aload_n hx hb dL_law_1634 rfl (lv_at hl 5 rfl) ?_
  refine lc_ci (C := RX11) (As := []) (rest := []) K hP hPo hap1 hS (gc_X11_thrown l G o2.2 _ rfl) gk_X11_thrown gv_1191 ⟨gv_1192, gv_1193⟩ (va_recv hT.2.1 hP (ci := 13) (q0 := 33) rfl rfl) rfl rfl (Nat.le_of_ble_eq_true rfl) hl.1 ⟨rfl, rfl⟩ ⟨Nat.le_of_ble_eq_true rfl, Nat.le_of_ble_eq_true rfl⟩ ⟨Nat.le_of_ble_eq_true rfl, Nat.le_of_ble_eq_true rfl⟩ dL_law_1635 (fun H hP hPo hS => ?_)
  refine lv_iload hx hb dL_law_1638 (lv_at hl 1 rfl) ?_
  refine lv_icmp_eq (tgt := 1645) hx hb dL_law_1640 (by decide) (fun _ => ?_) (fun z => absurd ht z)
  refine lv_iload hx hb dL_law_1645 (lv_at hl 1 rfl) ?_
  refine lv_if_ne (tgt := 1662) hx hb dL_law_1647 (by decide) (fun _ => ?_) (fun hr0 => ?_)
  · refine lv_goto (tgt := 2737) hx hb dL_law_1662 (by decide) ?_
    exact lc_end K rfl hS (lv_sub hl [2, 7] rfl) (Nat.le_of_ble_eq_true rfl) (Nat.le_of_ble_eq_true rfl)
  · have hv := hv hr0
    refine lv_aload_n hx hb dL_law_1650 rfl (lv_at hl 4 rfl) ?_
    refine lv_iconst (v := 0) hx hb dL_law_1651 (by decide) ?_
    refine va_lald (D := G.1) hx hb hKo2 hPo 0 0 (n := 1) (f := f2) rfl rfl (by unfold vp_in; decide) dL_law_1652 ?_
    refine lv_iload hx hb dL_law_1653 (lv_at hl 0 rfl) ?_
    refine lv_i2l hx hb dL_law_1655 rfl ?_
    refine W.lcmp hx hb dL_law_1656 ?_
    refine lv_if_eq (tgt := 1662) hx hb dL_law_1657 (by decide) (fun _ => ?_) (fun z => absurd (by rw [show f2 (0 : Int32).toNatClampNeg = f2 0 from rfl, hv]; exact lc_cmp _) z)
    refine lv_goto (tgt := 2737) hx hb dL_law_1662 (by decide) ?_
    exact lc_end K rfl hS (lv_sub hl [2, 7] rfl) (Nat.le_of_ble_eq_true rfl) (Nat.le_of_ble_eq_true rfl)
set_option maxHeartbeats 4000000 in
set_option maxRecDepth 100000 in
theorem lc_26_both (l : Launch) (hfl : l.stackTraces = false) {p : Program} {e : Env} {s : State} {m : MethodId} {below : List Frame} {meth : Method} {c : Code} {H : Heap} {b : Nat} {xs : Nat → Int32} {G : gw_G} {cL cD : ClassId} {ho hd : Nat} {ls : Array Slot} (K : lc_C p s m meth c b 5 xs G cL cD ho hd) (hP : gw_P G lo_z H) (hPo : va_P G.1 vwCl [(ho, .inl (cL, 1, .inr (.inl (fun _ => 0))))] H) (hS : va_S (fun q => s.heap.size ≤ q) s.heap H []) (hl : lv_has ls 9 [(5, .int 0), (4, .ref hd), (3, .ref ho), (2, .ref (G.2.1 33)), (1, .ref (G.2.1 0)), (0, .ref b)]) (r : Int32) (f2 : Nat → Int64) (o : (Int32 ⊕ String) × gw_S) (h8 : f_X8_both ((xs 1).toUInt32 % 65536).toInt32 (xs 2) (xs 3) lo_z = some o) (hw : w_both (fun _ => 0) o.1 = some (r, f2)) (o2 : Int32 × gw_S) (h11 : f_X11_both ((xs 1).toUInt32 % 65536).toInt32 (xs 2) (xs 3) o.2 = some o2) (ht : o2.2 33 4 = r) (hv : r = 0 → f2 0 = o2.1.toInt64) : W p l e room_1 s m #[Value.ref b] below meth c H [] 40 1183 (lw_Z below #[Value.ref b] s) (F0 m 1747 ls []) := by
  obtain ⟨X, -, -, -, -, hKo2, -, hap1, hap2, -, -, hg1, hg2⟩ := id K
  obtain ⟨hx, hb, -, hown, hts, hT, -⟩ := id X
  refine lv_aload_n hx hb dL_law_1747 rfl (lv_at hl 4 rfl) ?_
  refine lv_aload_n hx hb dL_law_1748 rfl (lv_at hl 5 rfl) ?_
  refine lv_iload hx hb dL_law_1749 (lv_at hl 0 rfl) ?_
  refine lv_iconst (v := 1) hx hb dL_law_1751 (by decide) ?_
  refine lv_iadd hx hb dL_law_1752 ?_
  refine lc_sld K hS (j := 1) (by decide) (by unfold vp_in; decide) dL_law_1753 ?_
  refine lv_i2c hx hb dL_law_1754 rfl ?_
  refine lv_aload_n hx hb dL_law_1755 rfl (lv_at hl 5 rfl) ?_
  refine lv_iload hx hb dL_law_1756 (lv_at hl 0 rfl) ?_
  refine lv_iconst (v := 2) hx hb dL_law_1758 (by decide) ?_
  refine lv_iadd hx hb dL_law_1759 ?_
  refine lc_sld K hS (j := 2) (by decide) (by unfold vp_in; decide) dL_law_1760 ?_
  refine lv_aload_n hx hb dL_law_1761 rfl (lv_at hl 5 rfl) ?_
  refine lv_iload hx hb dL_law_1762 (lv_at hl 0 rfl) ?_
  refine lv_iconst (v := 3) hx hb dL_law_1764 (by decide) ?_
  refine lv_iadd hx hb dL_law_1765 ?_
  refine lc_sld K hS (j := 3) (by decide) (by unfold vp_in; decide) dL_law_1766 ?_
  refine lv_aload_n hx hb dL_law_1767 rfl (lv_at hl 2 rfl) ?_
  refine lc_call (n := 5) (hq := ho) (x := .inl (cL, 1, .inr (.inl (fun _ => 0)))) (As := [.ref (G.2.1 0), .int ((xs 1).toUInt32 % 65536).toInt32, .int (xs 2), .int (xs 3), .ref ho]) (rest := []) K hP hPo hS (hKo2.sub [0] rfl) hap1 hg1 (gl_both l hfl G ((xs 1).toUInt32 % 65536).toInt32 (xs 2) (xs 3) cL ho (fun _ => 0) f2 r lo_z o h8 hw) ⟨gv_992, gv_0, by decide +kernel, by decide +kernel⟩ gv_990 gv_991 rfl rfl (Nat.le_of_ble_eq_true rfl) hl.1 ⟨rfl, rfl⟩ ⟨Nat.le_of_ble_eq_true rfl, Nat.le_of_ble_eq_true rfl⟩ ⟨Nat.le_of_ble_eq_true rfl, Nat.le_of_ble_eq_true rfl⟩ dL_law_1768 (fun H hP hPo _ hS => ?_)
  refine lv_istore (lv' := [(6, .int r), (5, .int 0), (4, .ref hd), (3, .ref ho), (2, .ref (G.2.1 33)), (1, .ref (G.2.1 0)), (0, .ref b)]) hx hb dL_law_1771 hl (by decide) rfl (fun ls hl => ?_)
  refine lv_aload_n hx hb dL_law_1773 rfl (lv_at hl 4 rfl) ?_
  refine lv_aload_n hx hb dL_law_1774 rfl (lv_at hl 6 rfl) ?_
  refine lv_iload hx hb dL_law_1775 (lv_at hl 1 rfl) ?_
  refine lv_iconst (v := 1) hx hb dL_law_1777 (by decide) ?_
  refine lv_iadd hx hb dL_law_1778 ?_
  refine lc_sld K hS (j := 1) (by decide) (by unfold vp_in; decide) dL_law_1779 ?_
  refine lv_i2c hx hb dL_law_1780 rfl ?_
  refine lv_aload_n hx hb dL_law_1781 rfl (lv_at hl 6 rfl) ?_
  refine lv_iload hx hb dL_law_1782 (lv_at hl 1 rfl) ?_
  refine lv_iconst (v := 2) hx hb dL_law_1784 (by decide) ?_
  refine lv_iadd hx hb dL_law_1785 ?_
  refine lc_sld K hS (j := 2) (by decide) (by unfold vp_in; decide) dL_law_1786 ?_
  refine lv_aload_n hx hb dL_law_1787 rfl (lv_at hl 6 rfl) ?_
  refine lv_iload hx hb dL_law_1788 (lv_at hl 1 rfl) ?_
  refine lv_iconst (v := 3) hx hb dL_law_1790 (by decide) ?_
  refine lv_iadd hx hb dL_law_1791 ?_
  refine lc_sld K hS (j := 3) (by decide) (by unfold vp_in; decide) dL_law_1792 ?_
  refine lc_ci (C := RX11) (As := [.int (((xs 1)).toUInt32 % 65536).toInt32, .int (xs 2), .int (xs 3)]) (rest := []) K hP hPo hap1 hS (gc_X11_both l G ((xs 1).toUInt32 % 65536).toInt32 (xs 2) (xs 3) o.2 o2 h11) gk_X11_both gv_1648 ⟨gv_1649, gv_1650⟩ (va_recv hT.2.1 hP (ci := 13) (q0 := 33) rfl rfl) rfl rfl (Nat.le_of_ble_eq_true rfl) hl.1 ⟨rfl, rfl⟩ ⟨Nat.le_of_ble_eq_true rfl, Nat.le_of_ble_eq_true rfl⟩ ⟨Nat.le_of_ble_eq_true rfl, Nat.le_of_ble_eq_true rfl⟩ dL_law_1793 (fun H hP hPo hS => ?_)
  refine lv_istore (lv' := [(7, .int o2.1), (6, .int r), (5, .int 0), (4, .ref hd), (3, .ref ho), (2, .ref (G.2.1 33)), (1, .ref (G.2.1 0)), (0, .ref b)]) hx hb dL_law_1796 hl (by decide) rfl (fun ls hl => ?_)
  refine lv_aload_n hx hb dL_law_1798 rfl (lv_at hl 5 rfl) ?_
  refine lc_ci (C := RX11) (As := []) (rest := []) K hP hPo hap1 hS (gc_X11_thrown l G o2.2 _ rfl) gk_X11_thrown gv_1191 ⟨gv_1192, gv_1193⟩ (va_recv hT.2.1 hP (ci := 13) (q0 := 33) rfl rfl) rfl rfl (Nat.le_of_ble_eq_true rfl) hl.1 ⟨rfl, rfl⟩ ⟨Nat.le_of_ble_eq_true rfl, Nat.le_of_ble_eq_true rfl⟩ ⟨Nat.le_of_ble_eq_true rfl, Nat.le_of_ble_eq_true rfl⟩ dL_law_1799 (fun H hP hPo hS => ?_)
  refine lv_iload hx hb dL_law_1802 (lv_at hl 1 rfl) ?_
  refine lv_icmp_eq (tgt := 1809) hx hb dL_law_1804 (by decide) (fun _ => ?_) (fun z => absurd ht z)
  refine lv_iload hx hb dL_law_1809 (lv_at hl 1 rfl) ?_
  refine lv_if_ne (tgt := 1826) hx hb dL_law_1811 (by decide) (fun _ => ?_) (fun hr0 => ?_)
  · refine lv_goto (tgt := 2737) hx hb dL_law_1826 (by decide) ?_
    exact lc_end K rfl hS (lv_sub hl [2, 7] rfl) (Nat.le_of_ble_eq_true rfl) (Nat.le_of_ble_eq_true rfl)
  · have hv := hv hr0
    refine lv_aload_n hx hb dL_law_1814 rfl (lv_at hl 4 rfl) ?_
    refine lv_iconst (v := 0) hx hb dL_law_1815 (by decide) ?_
    refine va_lald (D := G.1) hx hb hKo2 hPo 0 0 (n := 1) (f := f2) rfl rfl (by unfold vp_in; decide) dL_law_1816 ?_
    refine lv_iload hx hb dL_law_1817 (lv_at hl 0 rfl) ?_
    refine lv_i2l hx hb dL_law_1819 rfl ?_
    refine W.lcmp hx hb dL_law_1820 ?_
    refine lv_if_eq (tgt := 1826) hx hb dL_law_1821 (by decide) (fun _ => ?_) (fun z => absurd (by rw [show f2 (0 : Int32).toNatClampNeg = f2 0 from rfl, hv]; exact lc_cmp _) z)
    refine lv_goto (tgt := 2737) hx hb dL_law_1826 (by decide) ?_
    exact lc_end K rfl hS (lv_sub hl [2, 7] rfl) (Nat.le_of_ble_eq_true rfl) (Nat.le_of_ble_eq_true rfl)
set_option maxHeartbeats 4000000 in
set_option maxRecDepth 100000 in
theorem lc_27_not (l : Launch) (hfl : l.stackTraces = false) {p : Program} {e : Env} {s : State} {m : MethodId} {below : List Frame} {meth : Method} {c : Code} {H : Heap} {b : Nat} {xs : Nat → Int32} {G : gw_G} {cL cD : ClassId} {ho hd : Nat} {ls : Array Slot} (K : lc_C p s m meth c b 5 xs G cL cD ho hd) (hP : gw_P G lo_z H) (hPo : va_P G.1 vwCl [(ho, .inl (cL, 1, .inr (.inl (fun _ => 0))))] H) (hS : va_S (fun q => s.heap.size ≤ q) s.heap H []) (hl : lv_has ls 9 [(5, .int 0), (4, .ref hd), (3, .ref ho), (2, .ref (G.2.1 33)), (1, .ref (G.2.1 0)), (0, .ref b)]) (r : Int32) (f2 : Nat → Int64) (o : (Int32 ⊕ String) × gw_S) (h8 : f_X8_not (xs 1) lo_z = some o) (hw : w_not (fun _ => 0) o.1 = some (r, f2)) (o2 : Int32 × gw_S) (h11 : f_X11_not (xs 1) o.2 = some o2) (ht : o2.2 33 4 = r) (hv : r = 0 → f2 0 = o2.1.toInt64) : W p l e room_1 s m #[Value.ref b] below meth c H [] 40 1183 (lw_Z below #[Value.ref b] s) (F0 m 1829 ls []) := by
  obtain ⟨X, -, -, -, -, hKo2, -, hap1, hap2, -, -, hg1, hg2⟩ := id K
  obtain ⟨hx, hb, -, hown, hts, hT, -⟩ := id X
  refine lv_aload_n hx hb dL_law_1829 rfl (lv_at hl 4 rfl) ?_
  refine lv_aload_n hx hb dL_law_1830 rfl (lv_at hl 5 rfl) ?_
  refine lv_iload hx hb dL_law_1831 (lv_at hl 0 rfl) ?_
  refine lv_iconst (v := 1) hx hb dL_law_1833 (by decide) ?_
  refine lv_iadd hx hb dL_law_1834 ?_
  refine lc_sld K hS (j := 1) (by decide) (by unfold vp_in; decide) dL_law_1835 ?_
  refine lv_aload_n hx hb dL_law_1836 rfl (lv_at hl 2 rfl) ?_
  refine lc_call (n := 3) (hq := ho) (x := .inl (cL, 1, .inr (.inl (fun _ => 0)))) (As := [.ref (G.2.1 0), .int (xs 1), .ref ho]) (rest := []) K hP hPo hS (hKo2.sub [0] rfl) hap1 hg1 (gl_not l hfl G (xs 1) cL ho (fun _ => 0) f2 r lo_z o h8 hw) ⟨gv_1014, gv_0, by decide +kernel, by decide +kernel⟩ gv_1012 gv_1013 rfl rfl (Nat.le_of_ble_eq_true rfl) hl.1 ⟨rfl, rfl⟩ ⟨Nat.le_of_ble_eq_true rfl, Nat.le_of_ble_eq_true rfl⟩ ⟨Nat.le_of_ble_eq_true rfl, Nat.le_of_ble_eq_true rfl⟩ dL_law_1837 (fun H hP hPo _ hS => ?_)
  refine lv_istore (lv' := [(6, .int r), (5, .int 0), (4, .ref hd), (3, .ref ho), (2, .ref (G.2.1 33)), (1, .ref (G.2.1 0)), (0, .ref b)]) hx hb dL_law_1840 hl (by decide) rfl (fun ls hl => ?_)
  refine lv_aload_n hx hb dL_law_1842 rfl (lv_at hl 4 rfl) ?_
  refine lv_aload_n hx hb dL_law_1843 rfl (lv_at hl 6 rfl) ?_
  refine lv_iload hx hb dL_law_1844 (lv_at hl 1 rfl) ?_
  refine lv_iconst (v := 1) hx hb dL_law_1846 (by decide) ?_
  refine lv_iadd hx hb dL_law_1847 ?_
  refine lc_sld K hS (j := 1) (by decide) (by unfold vp_in; decide) dL_law_1848 ?_
  refine lc_ci (C := RX11) (As := [.int (xs 1)]) (rest := []) K hP hPo hap1 hS (gc_X11_not l G (xs 1) o.2 o2 h11) gk_X11_not gv_1660 ⟨gv_1661, gv_1662⟩ (va_recv hT.2.1 hP (ci := 13) (q0 := 33) rfl rfl) rfl rfl (Nat.le_of_ble_eq_true rfl) hl.1 ⟨rfl, rfl⟩ ⟨Nat.le_of_ble_eq_true rfl, Nat.le_of_ble_eq_true rfl⟩ ⟨Nat.le_of_ble_eq_true rfl, Nat.le_of_ble_eq_true rfl⟩ dL_law_1849 (fun H hP hPo hS => ?_)
  refine lv_istore (lv' := [(7, .int o2.1), (6, .int r), (5, .int 0), (4, .ref hd), (3, .ref ho), (2, .ref (G.2.1 33)), (1, .ref (G.2.1 0)), (0, .ref b)]) hx hb dL_law_1852 hl (by decide) rfl (fun ls hl => ?_)
  refine lv_aload_n hx hb dL_law_1854 rfl (lv_at hl 5 rfl) ?_
  refine lc_ci (C := RX11) (As := []) (rest := []) K hP hPo hap1 hS (gc_X11_thrown l G o2.2 _ rfl) gk_X11_thrown gv_1191 ⟨gv_1192, gv_1193⟩ (va_recv hT.2.1 hP (ci := 13) (q0 := 33) rfl rfl) rfl rfl (Nat.le_of_ble_eq_true rfl) hl.1 ⟨rfl, rfl⟩ ⟨Nat.le_of_ble_eq_true rfl, Nat.le_of_ble_eq_true rfl⟩ ⟨Nat.le_of_ble_eq_true rfl, Nat.le_of_ble_eq_true rfl⟩ dL_law_1855 (fun H hP hPo hS => ?_)
  refine lv_iload hx hb dL_law_1858 (lv_at hl 1 rfl) ?_
  refine lv_icmp_eq (tgt := 1865) hx hb dL_law_1860 (by decide) (fun _ => ?_) (fun z => absurd ht z)
  refine lv_iload hx hb dL_law_1865 (lv_at hl 1 rfl) ?_
  refine lv_if_ne (tgt := 1882) hx hb dL_law_1867 (by decide) (fun _ => ?_) (fun hr0 => ?_)
  · refine lv_goto (tgt := 2737) hx hb dL_law_1882 (by decide) ?_
    exact lc_end K rfl hS (lv_sub hl [2, 7] rfl) (Nat.le_of_ble_eq_true rfl) (Nat.le_of_ble_eq_true rfl)
  · have hv := hv hr0
    refine lv_aload_n hx hb dL_law_1870 rfl (lv_at hl 4 rfl) ?_
    refine lv_iconst (v := 0) hx hb dL_law_1871 (by decide) ?_
    refine va_lald (D := G.1) hx hb hKo2 hPo 0 0 (n := 1) (f := f2) rfl rfl (by unfold vp_in; decide) dL_law_1872 ?_
    refine lv_iload hx hb dL_law_1873 (lv_at hl 0 rfl) ?_
    refine lv_i2l hx hb dL_law_1875 rfl ?_
    refine W.lcmp hx hb dL_law_1876 ?_
    refine lv_if_eq (tgt := 1882) hx hb dL_law_1877 (by decide) (fun _ => ?_) (fun z => absurd (by rw [show f2 (0 : Int32).toNatClampNeg = f2 0 from rfl, hv]; exact lc_cmp _) z)
    refine lv_goto (tgt := 2737) hx hb dL_law_1882 (by decide) ?_
    exact lc_end K rfl hS (lv_sub hl [2, 7] rfl) (Nat.le_of_ble_eq_true rfl) (Nat.le_of_ble_eq_true rfl)
set_option maxHeartbeats 4000000 in
set_option maxRecDepth 100000 in
theorem lc_28_bind (l : Launch) (hfl : l.stackTraces = false) {p : Program} {e : Env} {s : State} {m : MethodId} {below : List Frame} {meth : Method} {c : Code} {H : Heap} {b : Nat} {xs : Nat → Int32} {G : gw_G} {cL cD : ClassId} {ho hd : Nat} {ls : Array Slot} (K : lc_C p s m meth c b 5 xs G cL cD ho hd) (hP : gw_P G lo_z H) (hPo : va_P G.1 vwCl [(ho, .inl (cL, 1, .inr (.inl (fun _ => 0))))] H) (hS : va_S (fun q => s.heap.size ≤ q) s.heap H []) (hl : lv_has ls 9 [(5, .int 0), (4, .ref hd), (3, .ref ho), (2, .ref (G.2.1 33)), (1, .ref (G.2.1 0)), (0, .ref b)]) (r : Int32) (f2 : Nat → Int64) (o : (Int32 ⊕ String) × gw_S) (h8 : f_X8_bind ((xs 1).toUInt32 % 65536).toInt32 (xs 2) (xs 3) (xs 4) lo_z = some o) (hw : w_bind (fun _ => 0) o.1 = some (r, f2)) (o2 : Int32 × gw_S) (h11 : f_X11_bind ((xs 1).toUInt32 % 65536).toInt32 (xs 2) (xs 3) (xs 4) o.2 = some o2) (ht : o2.2 33 4 = r) (hv : r = 0 → f2 0 = o2.1.toInt64) : W p l e room_1 s m #[Value.ref b] below meth c H [] 40 1183 (lw_Z below #[Value.ref b] s) (F0 m 1885 ls []) := by
  obtain ⟨X, -, -, -, -, hKo2, -, hap1, hap2, -, -, hg1, hg2⟩ := id K
  obtain ⟨hx, hb, -, hown, hts, hT, -⟩ := id X
  refine lv_aload_n hx hb dL_law_1885 rfl (lv_at hl 4 rfl) ?_
  refine lv_aload_n hx hb dL_law_1886 rfl (lv_at hl 5 rfl) ?_
  refine lv_iload hx hb dL_law_1887 (lv_at hl 0 rfl) ?_
  refine lv_iconst (v := 1) hx hb dL_law_1889 (by decide) ?_
  refine lv_iadd hx hb dL_law_1890 ?_
  refine lc_sld K hS (j := 1) (by decide) (by unfold vp_in; decide) dL_law_1891 ?_
  refine lv_i2c hx hb dL_law_1892 rfl ?_
  refine lv_aload_n hx hb dL_law_1893 rfl (lv_at hl 5 rfl) ?_
  refine lv_iload hx hb dL_law_1894 (lv_at hl 0 rfl) ?_
  refine lv_iconst (v := 2) hx hb dL_law_1896 (by decide) ?_
  refine lv_iadd hx hb dL_law_1897 ?_
  refine lc_sld K hS (j := 2) (by decide) (by unfold vp_in; decide) dL_law_1898 ?_
  refine lv_aload_n hx hb dL_law_1899 rfl (lv_at hl 5 rfl) ?_
  refine lv_iload hx hb dL_law_1900 (lv_at hl 0 rfl) ?_
  refine lv_iconst (v := 3) hx hb dL_law_1902 (by decide) ?_
  refine lv_iadd hx hb dL_law_1903 ?_
  refine lc_sld K hS (j := 3) (by decide) (by unfold vp_in; decide) dL_law_1904 ?_
  refine lv_aload_n hx hb dL_law_1905 rfl (lv_at hl 5 rfl) ?_
  refine lv_iload hx hb dL_law_1906 (lv_at hl 0 rfl) ?_
  refine lv_iconst (v := 4) hx hb dL_law_1908 (by decide) ?_
  refine lv_iadd hx hb dL_law_1909 ?_
  refine lc_sld K hS (j := 4) (by decide) (by unfold vp_in; decide) dL_law_1910 ?_
  refine lv_aload_n hx hb dL_law_1911 rfl (lv_at hl 2 rfl) ?_
  refine lc_call (n := 6) (hq := ho) (x := .inl (cL, 1, .inr (.inl (fun _ => 0)))) (As := [.ref (G.2.1 0), .int ((xs 1).toUInt32 % 65536).toInt32, .int (xs 2), .int (xs 3), .int (xs 4), .ref ho]) (rest := []) K hP hPo hS (hKo2.sub [0] rfl) hap1 hg1 (gl_bind l hfl G ((xs 1).toUInt32 % 65536).toInt32 (xs 2) (xs 3) (xs 4) cL ho (fun _ => 0) f2 r lo_z o h8 hw) ⟨gv_1021, gv_0, by decide +kernel, by decide +kernel⟩ gv_1019 gv_1020 rfl rfl (Nat.le_of_ble_eq_true rfl) hl.1 ⟨rfl, rfl⟩ ⟨Nat.le_of_ble_eq_true rfl, Nat.le_of_ble_eq_true rfl⟩ ⟨Nat.le_of_ble_eq_true rfl, Nat.le_of_ble_eq_true rfl⟩ dL_law_1912 (fun H hP hPo _ hS => ?_)
  refine lv_istore (lv' := [(6, .int r), (5, .int 0), (4, .ref hd), (3, .ref ho), (2, .ref (G.2.1 33)), (1, .ref (G.2.1 0)), (0, .ref b)]) hx hb dL_law_1915 hl (by decide) rfl (fun ls hl => ?_)
  refine lv_aload_n hx hb dL_law_1917 rfl (lv_at hl 4 rfl) ?_
  refine lv_aload_n hx hb dL_law_1918 rfl (lv_at hl 6 rfl) ?_
  refine lv_iload hx hb dL_law_1919 (lv_at hl 1 rfl) ?_
  refine lv_iconst (v := 1) hx hb dL_law_1921 (by decide) ?_
  refine lv_iadd hx hb dL_law_1922 ?_
  refine lc_sld K hS (j := 1) (by decide) (by unfold vp_in; decide) dL_law_1923 ?_
  refine lv_i2c hx hb dL_law_1924 rfl ?_
  refine lv_aload_n hx hb dL_law_1925 rfl (lv_at hl 6 rfl) ?_
  refine lv_iload hx hb dL_law_1926 (lv_at hl 1 rfl) ?_
  refine lv_iconst (v := 2) hx hb dL_law_1928 (by decide) ?_
  refine lv_iadd hx hb dL_law_1929 ?_
  refine lc_sld K hS (j := 2) (by decide) (by unfold vp_in; decide) dL_law_1930 ?_
  refine lv_aload_n hx hb dL_law_1931 rfl (lv_at hl 6 rfl) ?_
  refine lv_iload hx hb dL_law_1932 (lv_at hl 1 rfl) ?_
  refine lv_iconst (v := 3) hx hb dL_law_1934 (by decide) ?_
  refine lv_iadd hx hb dL_law_1935 ?_
  refine lc_sld K hS (j := 3) (by decide) (by unfold vp_in; decide) dL_law_1936 ?_
  refine lv_aload_n hx hb dL_law_1937 rfl (lv_at hl 6 rfl) ?_
  refine lv_iload hx hb dL_law_1938 (lv_at hl 1 rfl) ?_
  refine lv_iconst (v := 4) hx hb dL_law_1940 (by decide) ?_
  refine lv_iadd hx hb dL_law_1941 ?_
  refine lc_sld K hS (j := 4) (by decide) (by unfold vp_in; decide) dL_law_1942 ?_
  refine lc_ci (C := RX11) (As := [.int (((xs 1)).toUInt32 % 65536).toInt32, .int (xs 2), .int (xs 3), .int (xs 4)]) (rest := []) K hP hPo hap1 hS (gc_X11_bind l G ((xs 1).toUInt32 % 65536).toInt32 (xs 2) (xs 3) (xs 4) o.2 o2 h11) gk_X11_bind gv_1664 ⟨gv_1665, gv_1666⟩ (va_recv hT.2.1 hP (ci := 13) (q0 := 33) rfl rfl) rfl rfl (Nat.le_of_ble_eq_true rfl) hl.1 ⟨rfl, rfl⟩ ⟨Nat.le_of_ble_eq_true rfl, Nat.le_of_ble_eq_true rfl⟩ ⟨Nat.le_of_ble_eq_true rfl, Nat.le_of_ble_eq_true rfl⟩ dL_law_1943 (fun H hP hPo hS => ?_)
  refine lv_istore (lv' := [(7, .int o2.1), (6, .int r), (5, .int 0), (4, .ref hd), (3, .ref ho), (2, .ref (G.2.1 33)), (1, .ref (G.2.1 0)), (0, .ref b)]) hx hb dL_law_1946 hl (by decide) rfl (fun ls hl => ?_)
  refine lv_aload_n hx hb dL_law_1948 rfl (lv_at hl 5 rfl) ?_
  refine lc_ci (C := RX11) (As := []) (rest := []) K hP hPo hap1 hS (gc_X11_thrown l G o2.2 _ rfl) gk_X11_thrown gv_1191 ⟨gv_1192, gv_1193⟩ (va_recv hT.2.1 hP (ci := 13) (q0 := 33) rfl rfl) rfl rfl (Nat.le_of_ble_eq_true rfl) hl.1 ⟨rfl, rfl⟩ ⟨Nat.le_of_ble_eq_true rfl, Nat.le_of_ble_eq_true rfl⟩ ⟨Nat.le_of_ble_eq_true rfl, Nat.le_of_ble_eq_true rfl⟩ dL_law_1949 (fun H hP hPo hS => ?_)
  refine lv_iload hx hb dL_law_1952 (lv_at hl 1 rfl) ?_
  refine lv_icmp_eq (tgt := 1959) hx hb dL_law_1954 (by decide) (fun _ => ?_) (fun z => absurd ht z)
  refine lv_iload hx hb dL_law_1959 (lv_at hl 1 rfl) ?_
  refine lv_if_ne (tgt := 1976) hx hb dL_law_1961 (by decide) (fun _ => ?_) (fun hr0 => ?_)
  · refine lv_goto (tgt := 2737) hx hb dL_law_1976 (by decide) ?_
    exact lc_end K rfl hS (lv_sub hl [2, 7] rfl) (Nat.le_of_ble_eq_true rfl) (Nat.le_of_ble_eq_true rfl)
  · have hv := hv hr0
    refine lv_aload_n hx hb dL_law_1964 rfl (lv_at hl 4 rfl) ?_
    refine lv_iconst (v := 0) hx hb dL_law_1965 (by decide) ?_
    refine va_lald (D := G.1) hx hb hKo2 hPo 0 0 (n := 1) (f := f2) rfl rfl (by unfold vp_in; decide) dL_law_1966 ?_
    refine lv_iload hx hb dL_law_1967 (lv_at hl 0 rfl) ?_
    refine lv_i2l hx hb dL_law_1969 rfl ?_
    refine W.lcmp hx hb dL_law_1970 ?_
    refine lv_if_eq (tgt := 1976) hx hb dL_law_1971 (by decide) (fun _ => ?_) (fun z => absurd (by rw [show f2 (0 : Int32).toNatClampNeg = f2 0 from rfl, hv]; exact lc_cmp _) z)
    refine lv_goto (tgt := 2737) hx hb dL_law_1976 (by decide) ?_
    exact lc_end K rfl hS (lv_sub hl [2, 7] rfl) (Nat.le_of_ble_eq_true rfl) (Nat.le_of_ble_eq_true rfl)
set_option maxHeartbeats 4000000 in
set_option maxRecDepth 100000 in
theorem lc_29_free (l : Launch) (hfl : l.stackTraces = false) {p : Program} {e : Env} {s : State} {m : MethodId} {below : List Frame} {meth : Method} {c : Code} {H : Heap} {b : Nat} {xs : Nat → Int32} {G : gw_G} {cL cD : ClassId} {ho hd : Nat} {ls : Array Slot} (K : lc_C p s m meth c b 5 xs G cL cD ho hd) (hP : gw_P G lo_z H) (hPo : va_P G.1 vwCl [(ho, .inl (cL, 1, .inr (.inl (fun _ => 0))))] H) (hS : va_S (fun q => s.heap.size ≤ q) s.heap H []) (hl : lv_has ls 9 [(5, .int 0), (4, .ref hd), (3, .ref ho), (2, .ref (G.2.1 33)), (1, .ref (G.2.1 0)), (0, .ref b)]) (r : Int32) (f2 : Nat → Int64) (o : (Int32 ⊕ String) × gw_S) (h8 : f_X8_free (xs 1) lo_z = some o) (hw : w_free (fun _ => 0) o.1 = some (r, f2)) (o2 : Int32 × gw_S) (h11 : f_X11_free (xs 1) o.2 = some o2) (ht : o2.2 33 4 = r) (hv : r = 0 → f2 0 = o2.1.toInt64) : W p l e room_1 s m #[Value.ref b] below meth c H [] 40 1183 (lw_Z below #[Value.ref b] s) (F0 m 1979 ls []) := by
  obtain ⟨X, -, -, -, -, hKo2, -, hap1, hap2, -, -, hg1, hg2⟩ := id K
  obtain ⟨hx, hb, -, hown, hts, hT, -⟩ := id X
  refine lv_aload_n hx hb dL_law_1979 rfl (lv_at hl 4 rfl) ?_
  refine lv_aload_n hx hb dL_law_1980 rfl (lv_at hl 5 rfl) ?_
  refine lv_iload hx hb dL_law_1981 (lv_at hl 0 rfl) ?_
  refine lv_iconst (v := 1) hx hb dL_law_1983 (by decide) ?_
  refine lv_iadd hx hb dL_law_1984 ?_
  refine lc_sld K hS (j := 1) (by decide) (by unfold vp_in; decide) dL_law_1985 ?_
  refine lv_aload_n hx hb dL_law_1986 rfl (lv_at hl 2 rfl) ?_
  refine lc_call (n := 3) (hq := ho) (x := .inl (cL, 1, .inr (.inl (fun _ => 0)))) (As := [.ref (G.2.1 0), .int (xs 1), .ref ho]) (rest := []) K hP hPo hS (hKo2.sub [0] rfl) hap1 hg1 (gl_free l hfl G (xs 1) cL ho (fun _ => 0) f2 r lo_z o h8 hw) ⟨gv_1029, gv_0, by decide +kernel, by decide +kernel⟩ gv_1027 gv_1028 rfl rfl (Nat.le_of_ble_eq_true rfl) hl.1 ⟨rfl, rfl⟩ ⟨Nat.le_of_ble_eq_true rfl, Nat.le_of_ble_eq_true rfl⟩ ⟨Nat.le_of_ble_eq_true rfl, Nat.le_of_ble_eq_true rfl⟩ dL_law_1987 (fun H hP hPo _ hS => ?_)
  refine lv_istore (lv' := [(6, .int r), (5, .int 0), (4, .ref hd), (3, .ref ho), (2, .ref (G.2.1 33)), (1, .ref (G.2.1 0)), (0, .ref b)]) hx hb dL_law_1990 hl (by decide) rfl (fun ls hl => ?_)
  refine lv_aload_n hx hb dL_law_1992 rfl (lv_at hl 4 rfl) ?_
  refine lv_aload_n hx hb dL_law_1993 rfl (lv_at hl 6 rfl) ?_
  refine lv_iload hx hb dL_law_1994 (lv_at hl 1 rfl) ?_
  refine lv_iconst (v := 1) hx hb dL_law_1996 (by decide) ?_
  refine lv_iadd hx hb dL_law_1997 ?_
  refine lc_sld K hS (j := 1) (by decide) (by unfold vp_in; decide) dL_law_1998 ?_
  refine lc_ci (C := RX11) (As := [.int (xs 1)]) (rest := []) K hP hPo hap1 hS (gc_X11_free l G (xs 1) o.2 o2 h11) gk_X11_free gv_1668 ⟨gv_1669, gv_1670⟩ (va_recv hT.2.1 hP (ci := 13) (q0 := 33) rfl rfl) rfl rfl (Nat.le_of_ble_eq_true rfl) hl.1 ⟨rfl, rfl⟩ ⟨Nat.le_of_ble_eq_true rfl, Nat.le_of_ble_eq_true rfl⟩ ⟨Nat.le_of_ble_eq_true rfl, Nat.le_of_ble_eq_true rfl⟩ dL_law_1999 (fun H hP hPo hS => ?_)
  refine lv_istore (lv' := [(7, .int o2.1), (6, .int r), (5, .int 0), (4, .ref hd), (3, .ref ho), (2, .ref (G.2.1 33)), (1, .ref (G.2.1 0)), (0, .ref b)]) hx hb dL_law_2002 hl (by decide) rfl (fun ls hl => ?_)
  refine lv_aload_n hx hb dL_law_2004 rfl (lv_at hl 5 rfl) ?_
  refine lc_ci (C := RX11) (As := []) (rest := []) K hP hPo hap1 hS (gc_X11_thrown l G o2.2 _ rfl) gk_X11_thrown gv_1191 ⟨gv_1192, gv_1193⟩ (va_recv hT.2.1 hP (ci := 13) (q0 := 33) rfl rfl) rfl rfl (Nat.le_of_ble_eq_true rfl) hl.1 ⟨rfl, rfl⟩ ⟨Nat.le_of_ble_eq_true rfl, Nat.le_of_ble_eq_true rfl⟩ ⟨Nat.le_of_ble_eq_true rfl, Nat.le_of_ble_eq_true rfl⟩ dL_law_2005 (fun H hP hPo hS => ?_)
  refine lv_iload hx hb dL_law_2008 (lv_at hl 1 rfl) ?_
  refine lv_icmp_eq (tgt := 2015) hx hb dL_law_2010 (by decide) (fun _ => ?_) (fun z => absurd ht z)
  refine lv_iload hx hb dL_law_2015 (lv_at hl 1 rfl) ?_
  refine lv_if_ne (tgt := 2032) hx hb dL_law_2017 (by decide) (fun _ => ?_) (fun hr0 => ?_)
  · refine lv_goto (tgt := 2737) hx hb dL_law_2032 (by decide) ?_
    exact lc_end K rfl hS (lv_sub hl [2, 7] rfl) (Nat.le_of_ble_eq_true rfl) (Nat.le_of_ble_eq_true rfl)
  · have hv := hv hr0
    refine lv_aload_n hx hb dL_law_2020 rfl (lv_at hl 4 rfl) ?_
    refine lv_iconst (v := 0) hx hb dL_law_2021 (by decide) ?_
    refine va_lald (D := G.1) hx hb hKo2 hPo 0 0 (n := 1) (f := f2) rfl rfl (by unfold vp_in; decide) dL_law_2022 ?_
    refine lv_iload hx hb dL_law_2023 (lv_at hl 0 rfl) ?_
    refine lv_i2l hx hb dL_law_2025 rfl ?_
    refine W.lcmp hx hb dL_law_2026 ?_
    refine lv_if_eq (tgt := 2032) hx hb dL_law_2027 (by decide) (fun _ => ?_) (fun z => absurd (by rw [show f2 (0 : Int32).toNatClampNeg = f2 0 from rfl, hv]; exact lc_cmp _) z)
    refine lv_goto (tgt := 2737) hx hb dL_law_2032 (by decide) ?_
    exact lc_end K rfl hS (lv_sub hl [2, 7] rfl) (Nat.le_of_ble_eq_true rfl) (Nat.le_of_ble_eq_true rfl)
set_option maxHeartbeats 4000000 in
set_option maxRecDepth 100000 in
theorem lc_30_value (l : Launch) (hfl : l.stackTraces = false) {p : Program} {e : Env} {s : State} {m : MethodId} {below : List Frame} {meth : Method} {c : Code} {H : Heap} {b : Nat} {xs : Nat → Int32} {G : gw_G} {cL cD : ClassId} {ho hd : Nat} {ls : Array Slot} (K : lc_C p s m meth c b 5 xs G cL cD ho hd) (hP : gw_P G lo_z H) (hPo : va_P G.1 vwCl [(ho, .inl (cL, 1, .inr (.inl (fun _ => 0))))] H) (hS : va_S (fun q => s.heap.size ≤ q) s.heap H []) (hl : lv_has ls 9 [(5, .int 0), (4, .ref hd), (3, .ref ho), (2, .ref (G.2.1 33)), (1, .ref (G.2.1 0)), (0, .ref b)]) (r : Int32) (f2 : Nat → Int64) (o : (Int32 ⊕ String) × gw_S) (h8 : f_X8_value (xs 1) lo_z = some o) (hw : w_value (fun _ => 0) o.1 = some (r, f2)) (o2 : Int32 × gw_S) (h11 : f_X11_value (xs 1) o.2 = some o2) (ht : o2.2 33 4 = r) (hv : r = 0 → f2 0 = o2.1.toInt64) : W p l e room_1 s m #[Value.ref b] below meth c H [] 40 1183 (lw_Z below #[Value.ref b] s) (F0 m 2035 ls []) := by
  obtain ⟨X, -, -, -, -, hKo2, -, hap1, hap2, -, -, hg1, hg2⟩ := id K
  obtain ⟨hx, hb, -, hown, hts, hT, -⟩ := id X
  refine lv_aload_n hx hb dL_law_2035 rfl (lv_at hl 4 rfl) ?_
  refine lv_aload_n hx hb dL_law_2036 rfl (lv_at hl 5 rfl) ?_
  refine lv_iload hx hb dL_law_2037 (lv_at hl 0 rfl) ?_
  refine lv_iconst (v := 1) hx hb dL_law_2039 (by decide) ?_
  refine lv_iadd hx hb dL_law_2040 ?_
  refine lc_sld K hS (j := 1) (by decide) (by unfold vp_in; decide) dL_law_2041 ?_
  refine lv_aload_n hx hb dL_law_2042 rfl (lv_at hl 2 rfl) ?_
  refine lc_call (n := 3) (hq := ho) (x := .inl (cL, 1, .inr (.inl (fun _ => 0)))) (As := [.ref (G.2.1 0), .int (xs 1), .ref ho]) (rest := []) K hP hPo hS (hKo2.sub [0] rfl) hap1 hg1 (gl_value l hfl G (xs 1) cL ho (fun _ => 0) f2 r lo_z o h8 hw) ⟨gv_1036, gv_0, by decide +kernel, by decide +kernel⟩ gv_1034 gv_1035 rfl rfl (Nat.le_of_ble_eq_true rfl) hl.1 ⟨rfl, rfl⟩ ⟨Nat.le_of_ble_eq_true rfl, Nat.le_of_ble_eq_true rfl⟩ ⟨Nat.le_of_ble_eq_true rfl, Nat.le_of_ble_eq_true rfl⟩ dL_law_2043 (fun H hP hPo _ hS => ?_)
  refine lv_istore (lv' := [(6, .int r), (5, .int 0), (4, .ref hd), (3, .ref ho), (2, .ref (G.2.1 33)), (1, .ref (G.2.1 0)), (0, .ref b)]) hx hb dL_law_2046 hl (by decide) rfl (fun ls hl => ?_)
  refine lv_aload_n hx hb dL_law_2048 rfl (lv_at hl 4 rfl) ?_
  refine lv_aload_n hx hb dL_law_2049 rfl (lv_at hl 6 rfl) ?_
  refine lv_iload hx hb dL_law_2050 (lv_at hl 1 rfl) ?_
  refine lv_iconst (v := 1) hx hb dL_law_2052 (by decide) ?_
  refine lv_iadd hx hb dL_law_2053 ?_
  refine lc_sld K hS (j := 1) (by decide) (by unfold vp_in; decide) dL_law_2054 ?_
  refine lc_ci (C := RX11) (As := [.int (xs 1)]) (rest := []) K hP hPo hap1 hS (gc_X11_value l G (xs 1) o.2 o2 h11) gk_X11_value gv_1679 ⟨gv_1680, gv_1681⟩ (va_recv hT.2.1 hP (ci := 13) (q0 := 33) rfl rfl) rfl rfl (Nat.le_of_ble_eq_true rfl) hl.1 ⟨rfl, rfl⟩ ⟨Nat.le_of_ble_eq_true rfl, Nat.le_of_ble_eq_true rfl⟩ ⟨Nat.le_of_ble_eq_true rfl, Nat.le_of_ble_eq_true rfl⟩ dL_law_2055 (fun H hP hPo hS => ?_)
  refine lv_istore (lv' := [(7, .int o2.1), (6, .int r), (5, .int 0), (4, .ref hd), (3, .ref ho), (2, .ref (G.2.1 33)), (1, .ref (G.2.1 0)), (0, .ref b)]) hx hb dL_law_2058 hl (by decide) rfl (fun ls hl => ?_)
  refine lv_aload_n hx hb dL_law_2060 rfl (lv_at hl 5 rfl) ?_
  refine lc_ci (C := RX11) (As := []) (rest := []) K hP hPo hap1 hS (gc_X11_thrown l G o2.2 _ rfl) gk_X11_thrown gv_1191 ⟨gv_1192, gv_1193⟩ (va_recv hT.2.1 hP (ci := 13) (q0 := 33) rfl rfl) rfl rfl (Nat.le_of_ble_eq_true rfl) hl.1 ⟨rfl, rfl⟩ ⟨Nat.le_of_ble_eq_true rfl, Nat.le_of_ble_eq_true rfl⟩ ⟨Nat.le_of_ble_eq_true rfl, Nat.le_of_ble_eq_true rfl⟩ dL_law_2061 (fun H hP hPo hS => ?_)
  refine lv_iload hx hb dL_law_2064 (lv_at hl 1 rfl) ?_
  refine lv_icmp_eq (tgt := 2071) hx hb dL_law_2066 (by decide) (fun _ => ?_) (fun z => absurd ht z)
  refine lv_iload hx hb dL_law_2071 (lv_at hl 1 rfl) ?_
  refine lv_if_ne (tgt := 2088) hx hb dL_law_2073 (by decide) (fun _ => ?_) (fun hr0 => ?_)
  · refine lv_goto (tgt := 2737) hx hb dL_law_2088 (by decide) ?_
    exact lc_end K rfl hS (lv_sub hl [2, 7] rfl) (Nat.le_of_ble_eq_true rfl) (Nat.le_of_ble_eq_true rfl)
  · have hv := hv hr0
    refine lv_aload_n hx hb dL_law_2076 rfl (lv_at hl 4 rfl) ?_
    refine lv_iconst (v := 0) hx hb dL_law_2077 (by decide) ?_
    refine va_lald (D := G.1) hx hb hKo2 hPo 0 0 (n := 1) (f := f2) rfl rfl (by unfold vp_in; decide) dL_law_2078 ?_
    refine lv_iload hx hb dL_law_2079 (lv_at hl 0 rfl) ?_
    refine lv_i2l hx hb dL_law_2081 rfl ?_
    refine W.lcmp hx hb dL_law_2082 ?_
    refine lv_if_eq (tgt := 2088) hx hb dL_law_2083 (by decide) (fun _ => ?_) (fun z => absurd (by rw [show f2 (0 : Int32).toNatClampNeg = f2 0 from rfl, hv]; exact lc_cmp _) z)
    refine lv_goto (tgt := 2737) hx hb dL_law_2088 (by decide) ?_
    exact lc_end K rfl hS (lv_sub hl [2, 7] rfl) (Nat.le_of_ble_eq_true rfl) (Nat.le_of_ble_eq_true rfl)
set_option maxHeartbeats 4000000 in
set_option maxRecDepth 100000 in
theorem lc_31_forces (l : Launch) (hfl : l.stackTraces = false) {p : Program} {e : Env} {s : State} {m : MethodId} {below : List Frame} {meth : Method} {c : Code} {H : Heap} {b : Nat} {xs : Nat → Int32} {G : gw_G} {cL cD : ClassId} {ho hd : Nat} {ls : Array Slot} (K : lc_C p s m meth c b 5 xs G cL cD ho hd) (hP : gw_P G lo_z H) (hPo : va_P G.1 vwCl [(ho, .inl (cL, 1, .inr (.inl (fun _ => 0))))] H) (hS : va_S (fun q => s.heap.size ≤ q) s.heap H []) (hl : lv_has ls 9 [(5, .int 0), (4, .ref hd), (3, .ref ho), (2, .ref (G.2.1 33)), (1, .ref (G.2.1 0)), (0, .ref b)]) (r : Int32) (f2 : Nat → Int64) (o : (Int32 ⊕ String) × gw_S) (h8 : f_X8_forces (xs 1) (xs 2) lo_z = some o) (hw : w_forces (fun _ => 0) o.1 = some (r, f2)) (o2 : Int32 × gw_S) (h11 : f_X11_forces (xs 1) (xs 2) o.2 = some o2) (ht : o2.2 33 4 = r) (hv : r = 0 → f2 0 = (if o2.1 = 0 then (0 : Int64) else (1 : Int64))) : W p l e room_1 s m #[Value.ref b] below meth c H [] 40 1183 (lw_Z below #[Value.ref b] s) (F0 m 2091 ls []) := by
  obtain ⟨X, -, -, -, -, hKo2, -, hap1, hap2, -, -, hg1, hg2⟩ := id K
  obtain ⟨hx, hb, -, hown, hts, hT, -⟩ := id X
  refine lv_aload_n hx hb dL_law_2091 rfl (lv_at hl 4 rfl) ?_
  refine lv_aload_n hx hb dL_law_2092 rfl (lv_at hl 5 rfl) ?_
  refine lv_iload hx hb dL_law_2093 (lv_at hl 0 rfl) ?_
  refine lv_iconst (v := 1) hx hb dL_law_2095 (by decide) ?_
  refine lv_iadd hx hb dL_law_2096 ?_
  refine lc_sld K hS (j := 1) (by decide) (by unfold vp_in; decide) dL_law_2097 ?_
  refine lv_aload_n hx hb dL_law_2098 rfl (lv_at hl 5 rfl) ?_
  refine lv_iload hx hb dL_law_2099 (lv_at hl 0 rfl) ?_
  refine lv_iconst (v := 2) hx hb dL_law_2101 (by decide) ?_
  refine lv_iadd hx hb dL_law_2102 ?_
  refine lc_sld K hS (j := 2) (by decide) (by unfold vp_in; decide) dL_law_2103 ?_
  refine lv_aload_n hx hb dL_law_2104 rfl (lv_at hl 2 rfl) ?_
  refine lc_call (n := 4) (hq := ho) (x := .inl (cL, 1, .inr (.inl (fun _ => 0)))) (As := [.ref (G.2.1 0), .int (xs 1), .int (xs 2), .ref ho]) (rest := []) K hP hPo hS (hKo2.sub [0] rfl) hap1 hg1 (gl_forces l hfl G (xs 1) (xs 2) cL ho (fun _ => 0) f2 r lo_z o h8 hw) ⟨gv_1048, gv_0, by decide +kernel, by decide +kernel⟩ gv_1046 gv_1047 rfl rfl (Nat.le_of_ble_eq_true rfl) hl.1 ⟨rfl, rfl⟩ ⟨Nat.le_of_ble_eq_true rfl, Nat.le_of_ble_eq_true rfl⟩ ⟨Nat.le_of_ble_eq_true rfl, Nat.le_of_ble_eq_true rfl⟩ dL_law_2105 (fun H hP hPo _ hS => ?_)
  refine lv_istore (lv' := [(6, .int r), (5, .int 0), (4, .ref hd), (3, .ref ho), (2, .ref (G.2.1 33)), (1, .ref (G.2.1 0)), (0, .ref b)]) hx hb dL_law_2108 hl (by decide) rfl (fun ls hl => ?_)
  refine lv_aload_n hx hb dL_law_2110 rfl (lv_at hl 4 rfl) ?_
  refine lv_aload_n hx hb dL_law_2111 rfl (lv_at hl 6 rfl) ?_
  refine lv_iload hx hb dL_law_2112 (lv_at hl 1 rfl) ?_
  refine lv_iconst (v := 1) hx hb dL_law_2114 (by decide) ?_
  refine lv_iadd hx hb dL_law_2115 ?_
  refine lc_sld K hS (j := 1) (by decide) (by unfold vp_in; decide) dL_law_2116 ?_
  refine lv_aload_n hx hb dL_law_2117 rfl (lv_at hl 6 rfl) ?_
  refine lv_iload hx hb dL_law_2118 (lv_at hl 1 rfl) ?_
  refine lv_iconst (v := 2) hx hb dL_law_2120 (by decide) ?_
  refine lv_iadd hx hb dL_law_2121 ?_
  refine lc_sld K hS (j := 2) (by decide) (by unfold vp_in; decide) dL_law_2122 ?_
  refine lc_cz (C := RX11) (As := [.int (xs 1), .int (xs 2)]) (rest := []) K hP hPo hap1 hS (gc_X11_forces l G (xs 1) (xs 2) o.2 o2 h11) gk_X11_forces gv_1701 ⟨gv_1702, gv_1703⟩ (va_recv hT.2.1 hP (ci := 13) (q0 := 33) rfl rfl) rfl rfl (Nat.le_of_ble_eq_true rfl) hl.1 ⟨rfl, rfl⟩ ⟨Nat.le_of_ble_eq_true rfl, Nat.le_of_ble_eq_true rfl⟩ ⟨Nat.le_of_ble_eq_true rfl, Nat.le_of_ble_eq_true rfl⟩ dL_law_2123 (fun H hP hPo hS => ?_)
  refine lv_istore (lv' := [(7, .int o2.1), (6, .int r), (5, .int 0), (4, .ref hd), (3, .ref ho), (2, .ref (G.2.1 33)), (1, .ref (G.2.1 0)), (0, .ref b)]) hx hb dL_law_2126 hl (by decide) rfl (fun ls hl => ?_)
  refine lv_aload_n hx hb dL_law_2128 rfl (lv_at hl 5 rfl) ?_
  refine lc_ci (C := RX11) (As := []) (rest := []) K hP hPo hap1 hS (gc_X11_thrown l G o2.2 _ rfl) gk_X11_thrown gv_1191 ⟨gv_1192, gv_1193⟩ (va_recv hT.2.1 hP (ci := 13) (q0 := 33) rfl rfl) rfl rfl (Nat.le_of_ble_eq_true rfl) hl.1 ⟨rfl, rfl⟩ ⟨Nat.le_of_ble_eq_true rfl, Nat.le_of_ble_eq_true rfl⟩ ⟨Nat.le_of_ble_eq_true rfl, Nat.le_of_ble_eq_true rfl⟩ dL_law_2129 (fun H hP hPo hS => ?_)
  refine lv_iload hx hb dL_law_2132 (lv_at hl 1 rfl) ?_
  refine lv_icmp_eq (tgt := 2139) hx hb dL_law_2134 (by decide) (fun _ => ?_) (fun z => absurd ht z)
  refine lv_iload hx hb dL_law_2139 (lv_at hl 1 rfl) ?_
  refine lv_if_ne (tgt := 2163) hx hb dL_law_2141 (by decide) (fun _ => ?_) (fun hr0 => ?_)
  · refine lv_goto (tgt := 2737) hx hb dL_law_2163 (by decide) ?_
    exact lc_end K rfl hS (lv_sub hl [2, 7] rfl) (Nat.le_of_ble_eq_true rfl) (Nat.le_of_ble_eq_true rfl)
  · have hv := hv hr0
    refine lv_aload_n hx hb dL_law_2144 rfl (lv_at hl 4 rfl) ?_
    refine lv_iconst (v := 0) hx hb dL_law_2145 (by decide) ?_
    refine va_lald (D := G.1) hx hb hKo2 hPo 0 0 (n := 1) (f := f2) rfl rfl (by unfold vp_in; decide) dL_law_2146 ?_
    refine lv_iload hx hb dL_law_2147 (lv_at hl 0 rfl) ?_
    refine lv_if_eq (tgt := 2156) hx hb dL_law_2149 (by decide) (fun z0 => ?_) (fun z0 => ?_)
    · have hv := hv.trans (if_pos z0)
      refine lv_lconst (v := 0) hx hb dL_law_2156 (by decide) ?_
      refine W.lcmp hx hb dL_law_2157 ?_
      refine lv_if_eq (tgt := 2163) hx hb dL_law_2158 (by decide) (fun _ => ?_) (fun z => absurd (by rw [show f2 (0 : Int32).toNatClampNeg = f2 0 from rfl, hv]; exact lc_cmp _) z)
      refine lv_goto (tgt := 2737) hx hb dL_law_2163 (by decide) ?_
      exact lc_end K rfl hS (lv_sub hl [2, 7] rfl) (Nat.le_of_ble_eq_true rfl) (Nat.le_of_ble_eq_true rfl)
    · have hv := hv.trans (if_neg z0)
      refine lv_lconst (v := 1) hx hb dL_law_2152 (by decide) ?_
      refine lv_goto (tgt := 2157) hx hb dL_law_2153 (by decide) ?_
      refine W.lcmp hx hb dL_law_2157 ?_
      refine lv_if_eq (tgt := 2163) hx hb dL_law_2158 (by decide) (fun _ => ?_) (fun z => absurd (by rw [show f2 (0 : Int32).toNatClampNeg = f2 0 from rfl, hv]; exact lc_cmp _) z)
      refine lv_goto (tgt := 2737) hx hb dL_law_2163 (by decide) ?_
      exact lc_end K rfl hS (lv_sub hl [2, 7] rfl) (Nat.le_of_ble_eq_true rfl) (Nat.le_of_ble_eq_true rfl)
set_option maxHeartbeats 4000000 in
set_option maxRecDepth 100000 in
theorem lc_32_weakly (l : Launch) (hfl : l.stackTraces = false) {p : Program} {e : Env} {s : State} {m : MethodId} {below : List Frame} {meth : Method} {c : Code} {H : Heap} {b : Nat} {xs : Nat → Int32} {G : gw_G} {cL cD : ClassId} {ho hd : Nat} {ls : Array Slot} (K : lc_C p s m meth c b 5 xs G cL cD ho hd) (hP : gw_P G lo_z H) (hPo : va_P G.1 vwCl [(ho, .inl (cL, 1, .inr (.inl (fun _ => 0))))] H) (hS : va_S (fun q => s.heap.size ≤ q) s.heap H []) (hl : lv_has ls 9 [(5, .int 0), (4, .ref hd), (3, .ref ho), (2, .ref (G.2.1 33)), (1, .ref (G.2.1 0)), (0, .ref b)]) (r : Int32) (f2 : Nat → Int64) (o : (Int32 ⊕ String) × gw_S) (h8 : f_X8_weakly (xs 1) (xs 2) lo_z = some o) (hw : w_weakly (fun _ => 0) o.1 = some (r, f2)) (o2 : Int32 × gw_S) (h11 : f_X11_weakly (xs 1) (xs 2) o.2 = some o2) (ht : o2.2 33 4 = r) (hv : r = 0 → f2 0 = (if o2.1 = 0 then (0 : Int64) else (1 : Int64))) : W p l e room_1 s m #[Value.ref b] below meth c H [] 40 1183 (lw_Z below #[Value.ref b] s) (F0 m 2166 ls []) := by
  obtain ⟨X, -, -, -, -, hKo2, -, hap1, hap2, -, -, hg1, hg2⟩ := id K
  obtain ⟨hx, hb, -, hown, hts, hT, -⟩ := id X
  refine lv_aload_n hx hb dL_law_2166 rfl (lv_at hl 4 rfl) ?_
  refine lv_aload_n hx hb dL_law_2167 rfl (lv_at hl 5 rfl) ?_
  refine lv_iload hx hb dL_law_2168 (lv_at hl 0 rfl) ?_
  refine lv_iconst (v := 1) hx hb dL_law_2170 (by decide) ?_
  refine lv_iadd hx hb dL_law_2171 ?_
  refine lc_sld K hS (j := 1) (by decide) (by unfold vp_in; decide) dL_law_2172 ?_
  refine lv_aload_n hx hb dL_law_2173 rfl (lv_at hl 5 rfl) ?_
  refine lv_iload hx hb dL_law_2174 (lv_at hl 0 rfl) ?_
  refine lv_iconst (v := 2) hx hb dL_law_2176 (by decide) ?_
  refine lv_iadd hx hb dL_law_2177 ?_
  refine lc_sld K hS (j := 2) (by decide) (by unfold vp_in; decide) dL_law_2178 ?_
  refine lv_aload_n hx hb dL_law_2179 rfl (lv_at hl 2 rfl) ?_
  refine lc_call (n := 4) (hq := ho) (x := .inl (cL, 1, .inr (.inl (fun _ => 0)))) (As := [.ref (G.2.1 0), .int (xs 1), .int (xs 2), .ref ho]) (rest := []) K hP hPo hS (hKo2.sub [0] rfl) hap1 hg1 (gl_weakly l hfl G (xs 1) (xs 2) cL ho (fun _ => 0) f2 r lo_z o h8 hw) ⟨gv_1055, gv_0, by decide +kernel, by decide +kernel⟩ gv_1053 gv_1054 rfl rfl (Nat.le_of_ble_eq_true rfl) hl.1 ⟨rfl, rfl⟩ ⟨Nat.le_of_ble_eq_true rfl, Nat.le_of_ble_eq_true rfl⟩ ⟨Nat.le_of_ble_eq_true rfl, Nat.le_of_ble_eq_true rfl⟩ dL_law_2180 (fun H hP hPo _ hS => ?_)
  refine lv_istore (lv' := [(6, .int r), (5, .int 0), (4, .ref hd), (3, .ref ho), (2, .ref (G.2.1 33)), (1, .ref (G.2.1 0)), (0, .ref b)]) hx hb dL_law_2183 hl (by decide) rfl (fun ls hl => ?_)
  refine lv_aload_n hx hb dL_law_2185 rfl (lv_at hl 4 rfl) ?_
  refine lv_aload_n hx hb dL_law_2186 rfl (lv_at hl 6 rfl) ?_
  refine lv_iload hx hb dL_law_2187 (lv_at hl 1 rfl) ?_
  refine lv_iconst (v := 1) hx hb dL_law_2189 (by decide) ?_
  refine lv_iadd hx hb dL_law_2190 ?_
  refine lc_sld K hS (j := 1) (by decide) (by unfold vp_in; decide) dL_law_2191 ?_
  refine lv_aload_n hx hb dL_law_2192 rfl (lv_at hl 6 rfl) ?_
  refine lv_iload hx hb dL_law_2193 (lv_at hl 1 rfl) ?_
  refine lv_iconst (v := 2) hx hb dL_law_2195 (by decide) ?_
  refine lv_iadd hx hb dL_law_2196 ?_
  refine lc_sld K hS (j := 2) (by decide) (by unfold vp_in; decide) dL_law_2197 ?_
  refine lc_cz (C := RX11) (As := [.int (xs 1), .int (xs 2)]) (rest := []) K hP hPo hap1 hS (gc_X11_weakly l G (xs 1) (xs 2) o.2 o2 h11) gk_X11_weakly gv_1705 ⟨gv_1706, gv_1707⟩ (va_recv hT.2.1 hP (ci := 13) (q0 := 33) rfl rfl) rfl rfl (Nat.le_of_ble_eq_true rfl) hl.1 ⟨rfl, rfl⟩ ⟨Nat.le_of_ble_eq_true rfl, Nat.le_of_ble_eq_true rfl⟩ ⟨Nat.le_of_ble_eq_true rfl, Nat.le_of_ble_eq_true rfl⟩ dL_law_2198 (fun H hP hPo hS => ?_)
  refine lv_istore (lv' := [(7, .int o2.1), (6, .int r), (5, .int 0), (4, .ref hd), (3, .ref ho), (2, .ref (G.2.1 33)), (1, .ref (G.2.1 0)), (0, .ref b)]) hx hb dL_law_2201 hl (by decide) rfl (fun ls hl => ?_)
  refine lv_aload_n hx hb dL_law_2203 rfl (lv_at hl 5 rfl) ?_
  refine lc_ci (C := RX11) (As := []) (rest := []) K hP hPo hap1 hS (gc_X11_thrown l G o2.2 _ rfl) gk_X11_thrown gv_1191 ⟨gv_1192, gv_1193⟩ (va_recv hT.2.1 hP (ci := 13) (q0 := 33) rfl rfl) rfl rfl (Nat.le_of_ble_eq_true rfl) hl.1 ⟨rfl, rfl⟩ ⟨Nat.le_of_ble_eq_true rfl, Nat.le_of_ble_eq_true rfl⟩ ⟨Nat.le_of_ble_eq_true rfl, Nat.le_of_ble_eq_true rfl⟩ dL_law_2204 (fun H hP hPo hS => ?_)
  refine lv_iload hx hb dL_law_2207 (lv_at hl 1 rfl) ?_
  refine lv_icmp_eq (tgt := 2214) hx hb dL_law_2209 (by decide) (fun _ => ?_) (fun z => absurd ht z)
  refine lv_iload hx hb dL_law_2214 (lv_at hl 1 rfl) ?_
  refine lv_if_ne (tgt := 2238) hx hb dL_law_2216 (by decide) (fun _ => ?_) (fun hr0 => ?_)
  · refine lv_goto (tgt := 2737) hx hb dL_law_2238 (by decide) ?_
    exact lc_end K rfl hS (lv_sub hl [2, 7] rfl) (Nat.le_of_ble_eq_true rfl) (Nat.le_of_ble_eq_true rfl)
  · have hv := hv hr0
    refine lv_aload_n hx hb dL_law_2219 rfl (lv_at hl 4 rfl) ?_
    refine lv_iconst (v := 0) hx hb dL_law_2220 (by decide) ?_
    refine va_lald (D := G.1) hx hb hKo2 hPo 0 0 (n := 1) (f := f2) rfl rfl (by unfold vp_in; decide) dL_law_2221 ?_
    refine lv_iload hx hb dL_law_2222 (lv_at hl 0 rfl) ?_
    refine lv_if_eq (tgt := 2231) hx hb dL_law_2224 (by decide) (fun z0 => ?_) (fun z0 => ?_)
    · have hv := hv.trans (if_pos z0)
      refine lv_lconst (v := 0) hx hb dL_law_2231 (by decide) ?_
      refine W.lcmp hx hb dL_law_2232 ?_
      refine lv_if_eq (tgt := 2238) hx hb dL_law_2233 (by decide) (fun _ => ?_) (fun z => absurd (by rw [show f2 (0 : Int32).toNatClampNeg = f2 0 from rfl, hv]; exact lc_cmp _) z)
      refine lv_goto (tgt := 2737) hx hb dL_law_2238 (by decide) ?_
      exact lc_end K rfl hS (lv_sub hl [2, 7] rfl) (Nat.le_of_ble_eq_true rfl) (Nat.le_of_ble_eq_true rfl)
    · have hv := hv.trans (if_neg z0)
      refine lv_lconst (v := 1) hx hb dL_law_2227 (by decide) ?_
      refine lv_goto (tgt := 2232) hx hb dL_law_2228 (by decide) ?_
      refine W.lcmp hx hb dL_law_2232 ?_
      refine lv_if_eq (tgt := 2238) hx hb dL_law_2233 (by decide) (fun _ => ?_) (fun z => absurd (by rw [show f2 (0 : Int32).toNatClampNeg = f2 0 from rfl, hv]; exact lc_cmp _) z)
      refine lv_goto (tgt := 2737) hx hb dL_law_2238 (by decide) ?_
      exact lc_end K rfl hS (lv_sub hl [2, 7] rfl) (Nat.le_of_ble_eq_true rfl) (Nat.le_of_ble_eq_true rfl)
set_option maxHeartbeats 4000000 in
set_option maxRecDepth 100000 in
theorem lc_33_holds (l : Launch) (hfl : l.stackTraces = false) {p : Program} {e : Env} {s : State} {m : MethodId} {below : List Frame} {meth : Method} {c : Code} {H : Heap} {b : Nat} {xs : Nat → Int32} {G : gw_G} {cL cD : ClassId} {ho hd : Nat} {ls : Array Slot} (K : lc_C p s m meth c b 5 xs G cL cD ho hd) (hP : gw_P G lo_z H) (hPo : va_P G.1 vwCl [(ho, .inl (cL, 1, .inr (.inl (fun _ => 0))))] H) (hS : va_S (fun q => s.heap.size ≤ q) s.heap H []) (hl : lv_has ls 9 [(5, .int 0), (4, .ref hd), (3, .ref ho), (2, .ref (G.2.1 33)), (1, .ref (G.2.1 0)), (0, .ref b)]) (r : Int32) (f2 : Nat → Int64) (o : (Int32 ⊕ String) × gw_S) (h8 : f_X8_holds (xs 1) (xs 2) lo_z = some o) (hw : w_holds (fun _ => 0) o.1 = some (r, f2)) (o2 : Int32 × gw_S) (h11 : f_X11_holds (xs 1) (xs 2) o.2 = some o2) (ht : o2.2 33 4 = r) (hv : r = 0 → f2 0 = (if o2.1 = 0 then (0 : Int64) else (1 : Int64))) : W p l e room_1 s m #[Value.ref b] below meth c H [] 40 1183 (lw_Z below #[Value.ref b] s) (F0 m 2241 ls []) := by
  obtain ⟨X, -, -, -, -, hKo2, -, hap1, hap2, -, -, hg1, hg2⟩ := id K
  obtain ⟨hx, hb, -, hown, hts, hT, -⟩ := id X
  refine lv_aload_n hx hb dL_law_2241 rfl (lv_at hl 4 rfl) ?_
  refine lv_aload_n hx hb dL_law_2242 rfl (lv_at hl 5 rfl) ?_
  refine lv_iload hx hb dL_law_2243 (lv_at hl 0 rfl) ?_
  refine lv_iconst (v := 1) hx hb dL_law_2245 (by decide) ?_
  refine lv_iadd hx hb dL_law_2246 ?_
  refine lc_sld K hS (j := 1) (by decide) (by unfold vp_in; decide) dL_law_2247 ?_
  refine lv_aload_n hx hb dL_law_2248 rfl (lv_at hl 5 rfl) ?_
  refine lv_iload hx hb dL_law_2249 (lv_at hl 0 rfl) ?_
  refine lv_iconst (v := 2) hx hb dL_law_2251 (by decide) ?_
  refine lv_iadd hx hb dL_law_2252 ?_
  refine lc_sld K hS (j := 2) (by decide) (by unfold vp_in; decide) dL_law_2253 ?_
  refine lv_aload_n hx hb dL_law_2254 rfl (lv_at hl 2 rfl) ?_
  refine lc_call (n := 4) (hq := ho) (x := .inl (cL, 1, .inr (.inl (fun _ => 0)))) (As := [.ref (G.2.1 0), .int (xs 1), .int (xs 2), .ref ho]) (rest := []) K hP hPo hS (hKo2.sub [0] rfl) hap1 hg1 (gl_holds l hfl G (xs 1) (xs 2) cL ho (fun _ => 0) f2 r lo_z o h8 hw) ⟨gv_1062, gv_0, by decide +kernel, by decide +kernel⟩ gv_1060 gv_1061 rfl rfl (Nat.le_of_ble_eq_true rfl) hl.1 ⟨rfl, rfl⟩ ⟨Nat.le_of_ble_eq_true rfl, Nat.le_of_ble_eq_true rfl⟩ ⟨Nat.le_of_ble_eq_true rfl, Nat.le_of_ble_eq_true rfl⟩ dL_law_2255 (fun H hP hPo _ hS => ?_)
  refine lv_istore (lv' := [(6, .int r), (5, .int 0), (4, .ref hd), (3, .ref ho), (2, .ref (G.2.1 33)), (1, .ref (G.2.1 0)), (0, .ref b)]) hx hb dL_law_2258 hl (by decide) rfl (fun ls hl => ?_)
  refine lv_aload_n hx hb dL_law_2260 rfl (lv_at hl 4 rfl) ?_
  refine lv_aload_n hx hb dL_law_2261 rfl (lv_at hl 6 rfl) ?_
  refine lv_iload hx hb dL_law_2262 (lv_at hl 1 rfl) ?_
  refine lv_iconst (v := 1) hx hb dL_law_2264 (by decide) ?_
  refine lv_iadd hx hb dL_law_2265 ?_
  refine lc_sld K hS (j := 1) (by decide) (by unfold vp_in; decide) dL_law_2266 ?_
  refine lv_aload_n hx hb dL_law_2267 rfl (lv_at hl 6 rfl) ?_
  refine lv_iload hx hb dL_law_2268 (lv_at hl 1 rfl) ?_
  refine lv_iconst (v := 2) hx hb dL_law_2270 (by decide) ?_
  refine lv_iadd hx hb dL_law_2271 ?_
  refine lc_sld K hS (j := 2) (by decide) (by unfold vp_in; decide) dL_law_2272 ?_
  refine lc_cz (C := RX11) (As := [.int (xs 1), .int (xs 2)]) (rest := []) K hP hPo hap1 hS (gc_X11_holds l G (xs 1) (xs 2) o.2 o2 h11) gk_X11_holds gv_1727 ⟨gv_1728, gv_1729⟩ (va_recv hT.2.1 hP (ci := 13) (q0 := 33) rfl rfl) rfl rfl (Nat.le_of_ble_eq_true rfl) hl.1 ⟨rfl, rfl⟩ ⟨Nat.le_of_ble_eq_true rfl, Nat.le_of_ble_eq_true rfl⟩ ⟨Nat.le_of_ble_eq_true rfl, Nat.le_of_ble_eq_true rfl⟩ dL_law_2273 (fun H hP hPo hS => ?_)
  refine lv_istore (lv' := [(7, .int o2.1), (6, .int r), (5, .int 0), (4, .ref hd), (3, .ref ho), (2, .ref (G.2.1 33)), (1, .ref (G.2.1 0)), (0, .ref b)]) hx hb dL_law_2276 hl (by decide) rfl (fun ls hl => ?_)
  refine lv_aload_n hx hb dL_law_2278 rfl (lv_at hl 5 rfl) ?_
  refine lc_ci (C := RX11) (As := []) (rest := []) K hP hPo hap1 hS (gc_X11_thrown l G o2.2 _ rfl) gk_X11_thrown gv_1191 ⟨gv_1192, gv_1193⟩ (va_recv hT.2.1 hP (ci := 13) (q0 := 33) rfl rfl) rfl rfl (Nat.le_of_ble_eq_true rfl) hl.1 ⟨rfl, rfl⟩ ⟨Nat.le_of_ble_eq_true rfl, Nat.le_of_ble_eq_true rfl⟩ ⟨Nat.le_of_ble_eq_true rfl, Nat.le_of_ble_eq_true rfl⟩ dL_law_2279 (fun H hP hPo hS => ?_)
  refine lv_iload hx hb dL_law_2282 (lv_at hl 1 rfl) ?_
  refine lv_icmp_eq (tgt := 2289) hx hb dL_law_2284 (by decide) (fun _ => ?_) (fun z => absurd ht z)
  refine lv_iload hx hb dL_law_2289 (lv_at hl 1 rfl) ?_
  refine lv_if_ne (tgt := 2313) hx hb dL_law_2291 (by decide) (fun _ => ?_) (fun hr0 => ?_)
  · refine lv_goto (tgt := 2737) hx hb dL_law_2313 (by decide) ?_
    exact lc_end K rfl hS (lv_sub hl [2, 7] rfl) (Nat.le_of_ble_eq_true rfl) (Nat.le_of_ble_eq_true rfl)
  · have hv := hv hr0
    refine lv_aload_n hx hb dL_law_2294 rfl (lv_at hl 4 rfl) ?_
    refine lv_iconst (v := 0) hx hb dL_law_2295 (by decide) ?_
    refine va_lald (D := G.1) hx hb hKo2 hPo 0 0 (n := 1) (f := f2) rfl rfl (by unfold vp_in; decide) dL_law_2296 ?_
    refine lv_iload hx hb dL_law_2297 (lv_at hl 0 rfl) ?_
    refine lv_if_eq (tgt := 2306) hx hb dL_law_2299 (by decide) (fun z0 => ?_) (fun z0 => ?_)
    · have hv := hv.trans (if_pos z0)
      refine lv_lconst (v := 0) hx hb dL_law_2306 (by decide) ?_
      refine W.lcmp hx hb dL_law_2307 ?_
      refine lv_if_eq (tgt := 2313) hx hb dL_law_2308 (by decide) (fun _ => ?_) (fun z => absurd (by rw [show f2 (0 : Int32).toNatClampNeg = f2 0 from rfl, hv]; exact lc_cmp _) z)
      refine lv_goto (tgt := 2737) hx hb dL_law_2313 (by decide) ?_
      exact lc_end K rfl hS (lv_sub hl [2, 7] rfl) (Nat.le_of_ble_eq_true rfl) (Nat.le_of_ble_eq_true rfl)
    · have hv := hv.trans (if_neg z0)
      refine lv_lconst (v := 1) hx hb dL_law_2302 (by decide) ?_
      refine lv_goto (tgt := 2307) hx hb dL_law_2303 (by decide) ?_
      refine W.lcmp hx hb dL_law_2307 ?_
      refine lv_if_eq (tgt := 2313) hx hb dL_law_2308 (by decide) (fun _ => ?_) (fun z => absurd (by rw [show f2 (0 : Int32).toNatClampNeg = f2 0 from rfl, hv]; exact lc_cmp _) z)
      refine lv_goto (tgt := 2737) hx hb dL_law_2313 (by decide) ?_
      exact lc_end K rfl hS (lv_sub hl [2, 7] rfl) (Nat.le_of_ble_eq_true rfl) (Nat.le_of_ble_eq_true rfl)
