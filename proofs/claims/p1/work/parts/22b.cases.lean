theorem gv_767 : Cond.methodLink RL 192 yL_closure ∈ gw_L := gw_tab 767 (by decide +kernel) (by decide +kernel)
theorem gv_768 : Cond.static yL_closure ∈ gw_L := gw_tab 768 (by decide +kernel) (by decide +kernel)
theorem gv_769 : Cond.codeWith yL_closure cL_closure 4 (some .int) [(0, 9, 12, 34)] ∈ gw_L := gw_tab 769 (by decide +kernel) (by decide +kernel)
theorem gv_1484 : Cond.code yX11_closure cX11_closure 5 (some .int) ∈ gw_L := gw_tab 1484 (by decide +kernel) (by decide +kernel)
theorem gk_X11_closure : gw_K yX11_closure cX11_closure 5 (some .int) 1 := ⟨gv_1484, gv_10, by decide +kernel, by decide +kernel⟩
theorem gv_1481 : Cond.methodLink RL 194 yX11_closure ∈ gw_L := gw_tab 1481 (by decide +kernel) (by decide +kernel)
theorem gv_1482 : Cond.instanceMethod yX11_closure ∈ gw_L := gw_tab 1482 (by decide +kernel) (by decide +kernel)
theorem gv_1483 : Cond.selects RX11 yX11_closure yX11_closure ∈ gw_L := gw_tab 1483 (by decide +kernel) (by decide +kernel)
theorem gv_774 : Cond.methodLink RL 195 yL_filterOf ∈ gw_L := gw_tab 774 (by decide +kernel) (by decide +kernel)
theorem gv_775 : Cond.static yL_filterOf ∈ gw_L := gw_tab 775 (by decide +kernel) (by decide +kernel)
theorem gv_776 : Cond.codeWith yL_filterOf cL_filterOf 4 (some .int) [(0, 9, 12, 34)] ∈ gw_L := gw_tab 776 (by decide +kernel) (by decide +kernel)
theorem gv_1488 : Cond.code yX11_filterOf cX11_filterOf 4 (some .int) ∈ gw_L := gw_tab 1488 (by decide +kernel) (by decide +kernel)
theorem gk_X11_filterOf : gw_K yX11_filterOf cX11_filterOf 4 (some .int) 1 := ⟨gv_1488, gv_10, by decide +kernel, by decide +kernel⟩
theorem gv_1485 : Cond.methodLink RL 197 yX11_filterOf ∈ gw_L := gw_tab 1485 (by decide +kernel) (by decide +kernel)
theorem gv_1486 : Cond.instanceMethod yX11_filterOf ∈ gw_L := gw_tab 1486 (by decide +kernel) (by decide +kernel)
theorem gv_1487 : Cond.selects RX11 yX11_filterOf yX11_filterOf ∈ gw_L := gw_tab 1487 (by decide +kernel) (by decide +kernel)
theorem gv_814 : Cond.methodLink RL 201 yL_pair ∈ gw_L := gw_tab 814 (by decide +kernel) (by decide +kernel)
theorem gv_815 : Cond.static yL_pair ∈ gw_L := gw_tab 815 (by decide +kernel) (by decide +kernel)
theorem gv_816 : Cond.codeWith yL_pair cL_pair 6 (some .int) [(0, 12, 15, 19), (0, 12, 19, 34), (0, 12, 23, 21), (0, 12, 27, 13)] ∈ gw_L := gw_tab 816 (by decide +kernel) (by decide +kernel)
theorem gv_1517 : Cond.code yX11_pair cX11_pair 7 (some .int) ∈ gw_L := gw_tab 1517 (by decide +kernel) (by decide +kernel)
theorem gk_X11_pair : gw_K yX11_pair cX11_pair 7 (some .int) 3 := ⟨gv_1517, gv_10, by decide +kernel, by decide +kernel⟩
theorem gv_1514 : Cond.methodLink RL 204 yX11_pair ∈ gw_L := gw_tab 1514 (by decide +kernel) (by decide +kernel)
theorem gv_1515 : Cond.instanceMethod yX11_pair ∈ gw_L := gw_tab 1515 (by decide +kernel) (by decide +kernel)
theorem gv_1516 : Cond.selects RX11 yX11_pair yX11_pair ∈ gw_L := gw_tab 1516 (by decide +kernel) (by decide +kernel)
theorem gv_854 : Cond.methodLink RL 205 yL_unpair ∈ gw_L := gw_tab 854 (by decide +kernel) (by decide +kernel)
theorem gv_855 : Cond.static yL_unpair ∈ gw_L := gw_tab 855 (by decide +kernel) (by decide +kernel)
theorem gv_856 : Cond.codeWith yL_unpair cL_unpair 4 (some .int) [(0, 9, 12, 19), (0, 9, 15, 21)] ∈ gw_L := gw_tab 856 (by decide +kernel) (by decide +kernel)
theorem gv_1547 : Cond.code yX11_unpair cX11_unpair 3 (some .int) ∈ gw_L := gw_tab 1547 (by decide +kernel) (by decide +kernel)
theorem gk_X11_unpair : gw_K yX11_unpair cX11_unpair 3 (some .int) 1 := ⟨gv_1547, gv_10, by decide +kernel, by decide +kernel⟩
theorem gv_1544 : Cond.methodLink RL 207 yX11_unpair ∈ gw_L := gw_tab 1544 (by decide +kernel) (by decide +kernel)
theorem gv_1545 : Cond.instanceMethod yX11_unpair ∈ gw_L := gw_tab 1545 (by decide +kernel) (by decide +kernel)
theorem gv_1546 : Cond.selects RX11 yX11_unpair yX11_unpair ∈ gw_L := gw_tab 1546 (by decide +kernel) (by decide +kernel)
theorem gv_866 : Cond.methodLink RL 208 yL_rank ∈ gw_L := gw_tab 866 (by decide +kernel) (by decide +kernel)
theorem gv_867 : Cond.static yL_rank ∈ gw_L := gw_tab 867 (by decide +kernel) (by decide +kernel)
theorem gv_868 : Cond.codeWith yL_rank cL_rank 4 (some .int) [(0, 9, 12, 19)] ∈ gw_L := gw_tab 868 (by decide +kernel) (by decide +kernel)
theorem gv_1560 : Cond.code yX11_rank cX11_rank 2 (some .int) ∈ gw_L := gw_tab 1560 (by decide +kernel) (by decide +kernel)
theorem gk_X11_rank : gw_K yX11_rank cX11_rank 2 (some .int) 1 := ⟨gv_1560, gv_10, by decide +kernel, by decide +kernel⟩
theorem gv_1557 : Cond.methodLink RL 210 yX11_rank ∈ gw_L := gw_tab 1557 (by decide +kernel) (by decide +kernel)
theorem gv_1558 : Cond.instanceMethod yX11_rank ∈ gw_L := gw_tab 1558 (by decide +kernel) (by decide +kernel)
theorem gv_1559 : Cond.selects RX11 yX11_rank yX11_rank ∈ gw_L := gw_tab 1559 (by decide +kernel) (by decide +kernel)
theorem gv_873 : Cond.methodLink RL 211 yL_standard ∈ gw_L := gw_tab 873 (by decide +kernel) (by decide +kernel)
theorem gv_874 : Cond.static yL_standard ∈ gw_L := gw_tab 874 (by decide +kernel) (by decide +kernel)
theorem gv_875 : Cond.codeWith yL_standard cL_standard 4 (some .int) [(0, 9, 12, 34), (0, 9, 15, 21), (0, 9, 18, 13)] ∈ gw_L := gw_tab 875 (by decide +kernel) (by decide +kernel)
theorem gv_1564 : Cond.code yX11_standard cX11_standard 5 (some .int) ∈ gw_L := gw_tab 1564 (by decide +kernel) (by decide +kernel)
theorem gk_X11_standard : gw_K yX11_standard cX11_standard 5 (some .int) 1 := ⟨gv_1564, gv_10, by decide +kernel, by decide +kernel⟩
theorem gv_1561 : Cond.methodLink RL 213 yX11_standard ∈ gw_L := gw_tab 1561 (by decide +kernel) (by decide +kernel)
theorem gv_1562 : Cond.instanceMethod yX11_standard ∈ gw_L := gw_tab 1562 (by decide +kernel) (by decide +kernel)
theorem gv_1563 : Cond.selects RX11 yX11_standard yX11_standard ∈ gw_L := gw_tab 1563 (by decide +kernel) (by decide +kernel)
theorem gv_894 : Cond.methodLink RL 214 yL_becomes ∈ gw_L := gw_tab 894 (by decide +kernel) (by decide +kernel)
theorem gv_895 : Cond.static yL_becomes ∈ gw_L := gw_tab 895 (by decide +kernel) (by decide +kernel)
theorem gv_896 : Cond.codeWith yL_becomes cL_becomes 5 (some .int) [(0, 10, 13, 19), (0, 10, 17, 34)] ∈ gw_L := gw_tab 896 (by decide +kernel) (by decide +kernel)
theorem gv_1576 : Cond.code yX11_becomes cX11_becomes 3 (some .int) ∈ gw_L := gw_tab 1576 (by decide +kernel) (by decide +kernel)
theorem gk_X11_becomes : gw_K yX11_becomes cX11_becomes 3 (some .int) 2 := ⟨gv_1576, gv_10, by decide +kernel, by decide +kernel⟩
theorem gv_1573 : Cond.methodLink RL 216 yX11_becomes ∈ gw_L := gw_tab 1573 (by decide +kernel) (by decide +kernel)
theorem gv_1574 : Cond.instanceMethod yX11_becomes ∈ gw_L := gw_tab 1574 (by decide +kernel) (by decide +kernel)
theorem gv_1575 : Cond.selects RX11 yX11_becomes yX11_becomes ∈ gw_L := gw_tab 1575 (by decide +kernel) (by decide +kernel)
theorem gv_901 : Cond.methodLink RL 217 yL_valueIn ∈ gw_L := gw_tab 901 (by decide +kernel) (by decide +kernel)
theorem gv_902 : Cond.static yL_valueIn ∈ gw_L := gw_tab 902 (by decide +kernel) (by decide +kernel)
theorem gv_903 : Cond.codeWith yL_valueIn cL_valueIn 5 (some .int) [(0, 10, 13, 19)] ∈ gw_L := gw_tab 903 (by decide +kernel) (by decide +kernel)
theorem gv_1584 : Cond.code yX11_valueIn cX11_valueIn 3 (some .int) ∈ gw_L := gw_tab 1584 (by decide +kernel) (by decide +kernel)
theorem gk_X11_valueIn : gw_K yX11_valueIn cX11_valueIn 3 (some .int) 2 := ⟨gv_1584, gv_10, by decide +kernel, by decide +kernel⟩
theorem gv_1581 : Cond.methodLink RL 219 yX11_valueIn ∈ gw_L := gw_tab 1581 (by decide +kernel) (by decide +kernel)
theorem gv_1582 : Cond.instanceMethod yX11_valueIn ∈ gw_L := gw_tab 1582 (by decide +kernel) (by decide +kernel)
theorem gv_1583 : Cond.selects RX11 yX11_valueIn yX11_valueIn ∈ gw_L := gw_tab 1583 (by decide +kernel) (by decide +kernel)
theorem gv_915 : Cond.methodLink RL 220 yL_valueLike ∈ gw_L := gw_tab 915 (by decide +kernel) (by decide +kernel)
theorem gv_916 : Cond.static yL_valueLike ∈ gw_L := gw_tab 916 (by decide +kernel) (by decide +kernel)
theorem gv_917 : Cond.codeWith yL_valueLike cL_valueLike 5 (some .int) [(0, 10, 13, 19)] ∈ gw_L := gw_tab 917 (by decide +kernel) (by decide +kernel)
theorem gv_1592 : Cond.code yX11_valueLike cX11_valueLike 3 (some .int) ∈ gw_L := gw_tab 1592 (by decide +kernel) (by decide +kernel)
theorem gk_X11_valueLike : gw_K yX11_valueLike cX11_valueLike 3 (some .int) 2 := ⟨gv_1592, gv_10, by decide +kernel, by decide +kernel⟩
theorem gv_1589 : Cond.methodLink RL 222 yX11_valueLike ∈ gw_L := gw_tab 1589 (by decide +kernel) (by decide +kernel)
theorem gv_1590 : Cond.instanceMethod yX11_valueLike ∈ gw_L := gw_tab 1590 (by decide +kernel) (by decide +kernel)
theorem gv_1591 : Cond.selects RX11 yX11_valueLike yX11_valueLike ∈ gw_L := gw_tab 1591 (by decide +kernel) (by decide +kernel)
theorem gv_922 : Cond.methodLink RL 223 yL_forcesIn ∈ gw_L := gw_tab 922 (by decide +kernel) (by decide +kernel)
theorem gv_923 : Cond.static yL_forcesIn ∈ gw_L := gw_tab 923 (by decide +kernel) (by decide +kernel)
theorem gv_924 : Cond.codeWith yL_forcesIn cL_forcesIn 6 (some .int) [(0, 19, 22, 19)] ∈ gw_L := gw_tab 924 (by decide +kernel) (by decide +kernel)
theorem gv_1596 : Cond.code yX11_forcesIn cX11_forcesIn 4 (some .boolean) ∈ gw_L := gw_tab 1596 (by decide +kernel) (by decide +kernel)
theorem gk_X11_forcesIn : gw_K yX11_forcesIn cX11_forcesIn 4 (some .boolean) 3 := ⟨gv_1596, gv_10, by decide +kernel, by decide +kernel⟩
theorem gv_1593 : Cond.methodLink RL 225 yX11_forcesIn ∈ gw_L := gw_tab 1593 (by decide +kernel) (by decide +kernel)
theorem gv_1594 : Cond.instanceMethod yX11_forcesIn ∈ gw_L := gw_tab 1594 (by decide +kernel) (by decide +kernel)
theorem gv_1595 : Cond.selects RX11 yX11_forcesIn yX11_forcesIn ∈ gw_L := gw_tab 1595 (by decide +kernel) (by decide +kernel)
set_option maxHeartbeats 4000000 in
set_option maxRecDepth 100000 in
theorem lc_12_closure (l : Launch) (hfl : l.stackTraces = false) {p : Program} {e : Env} {s : State} {m : MethodId} {below : List Frame} {meth : Method} {c : Code} {H : Heap} {b : Nat} {xs : Nat → Int32} {G : gw_G} {cL cD : ClassId} {ho hd : Nat} {ls : Array Slot} (K : lc_C p s m meth c b 5 xs G cL cD ho hd) (hP : gw_P G lo_z H) (hPo : va_P G.1 vwCl [(ho, .inl (cL, 1, .inr (.inl (fun _ => 0))))] H) (hS : va_S (fun q => s.heap.size ≤ q) s.heap H []) (hl : lv_has ls 9 [(5, .int 0), (4, .ref hd), (3, .ref ho), (2, .ref (G.2.1 33)), (1, .ref (G.2.1 0)), (0, .ref b)]) (r : Int32) (f2 : Nat → Int64) (o : (Int32 ⊕ String) × gw_S) (h8 : f_X8_closure (xs 1) lo_z = some o) (hw : w_closure (fun _ => 0) o.1 = some (r, f2)) (o2 : Int32 × gw_S) (h11 : f_X11_closure (xs 1) o.2 = some o2) (ht : o2.2 33 4 = r) (hv : r = 0 → f2 0 = o2.1.toInt64) : W p l e room_1 s m #[Value.ref b] below meth c H [] 40 1183 (lw_Z below #[Value.ref b] s) (F0 m 791 ls []) := by
  obtain ⟨X, -, -, -, -, hKo2, -, hap1, hap2, -, -, hg1, hg2⟩ := id K
  obtain ⟨hx, hb, -, hown, hts, hT, -⟩ := id X
  refine lv_aload_n hx hb dL_law_791 rfl (lv_at hl 4 rfl) ?_
  refine lv_aload_n hx hb dL_law_792 rfl (lv_at hl 5 rfl) ?_
  refine lv_iload hx hb dL_law_793 (lv_at hl 0 rfl) ?_
  refine lv_iconst (v := 1) hx hb dL_law_795 (by decide) ?_
  refine lv_iadd hx hb dL_law_796 ?_
  refine lc_sld K hS (j := 1) (by decide) (by unfold vp_in; decide) dL_law_797 ?_
  refine lv_aload_n hx hb dL_law_798 rfl (lv_at hl 2 rfl) ?_
  refine lc_call (n := 3) (hq := ho) (x := .inl (cL, 1, .inr (.inl (fun _ => 0)))) (As := [.ref (G.2.1 0), .int (xs 1), .ref ho]) (rest := []) K hP hPo hS (hKo2.sub [0] rfl) hap1 hg1 (gl_closure l hfl G (xs 1) cL ho (fun _ => 0) f2 r lo_z o h8 hw) ⟨gv_769, gv_0, by decide +kernel, by decide +kernel⟩ gv_767 gv_768 rfl rfl (Nat.le_of_ble_eq_true rfl) hl.1 ⟨rfl, rfl⟩ ⟨Nat.le_of_ble_eq_true rfl, Nat.le_of_ble_eq_true rfl⟩ ⟨Nat.le_of_ble_eq_true rfl, Nat.le_of_ble_eq_true rfl⟩ dL_law_799 (fun H hP hPo _ hS => ?_)
  refine lv_istore (lv' := [(6, .int r), (5, .int 0), (4, .ref hd), (3, .ref ho), (2, .ref (G.2.1 33)), (1, .ref (G.2.1 0)), (0, .ref b)]) hx hb dL_law_802 hl (by decide) rfl (fun ls hl => ?_)
  refine lv_aload_n hx hb dL_law_804 rfl (lv_at hl 4 rfl) ?_
  refine lv_aload_n hx hb dL_law_805 rfl (lv_at hl 6 rfl) ?_
  refine lv_iload hx hb dL_law_806 (lv_at hl 1 rfl) ?_
  refine lv_iconst (v := 1) hx hb dL_law_808 (by decide) ?_
  refine lv_iadd hx hb dL_law_809 ?_
  refine lc_sld K hS (j := 1) (by decide) (by unfold vp_in; decide) dL_law_810 ?_
  refine lc_ci (C := RX11) (As := [.int (xs 1)]) (rest := []) K hP hPo hap1 hS (gc_X11_closure l G (xs 1) o.2 o2 h11) gk_X11_closure gv_1481 ⟨gv_1482, gv_1483⟩ (va_recv hT.2.1 hP (ci := 13) (q0 := 33) rfl rfl) rfl rfl (Nat.le_of_ble_eq_true rfl) hl.1 ⟨rfl, rfl⟩ ⟨Nat.le_of_ble_eq_true rfl, Nat.le_of_ble_eq_true rfl⟩ ⟨Nat.le_of_ble_eq_true rfl, Nat.le_of_ble_eq_true rfl⟩ dL_law_811 (fun H hP hPo hS => ?_)
  refine lv_istore (lv' := [(7, .int o2.1), (6, .int r), (5, .int 0), (4, .ref hd), (3, .ref ho), (2, .ref (G.2.1 33)), (1, .ref (G.2.1 0)), (0, .ref b)]) hx hb dL_law_814 hl (by decide) rfl (fun ls hl => ?_)
  refine lv_aload_n hx hb dL_law_816 rfl (lv_at hl 5 rfl) ?_
  refine lc_ci (C := RX11) (As := []) (rest := []) K hP hPo hap1 hS (gc_X11_thrown l G o2.2 _ rfl) gk_X11_thrown gv_1191 ⟨gv_1192, gv_1193⟩ (va_recv hT.2.1 hP (ci := 13) (q0 := 33) rfl rfl) rfl rfl (Nat.le_of_ble_eq_true rfl) hl.1 ⟨rfl, rfl⟩ ⟨Nat.le_of_ble_eq_true rfl, Nat.le_of_ble_eq_true rfl⟩ ⟨Nat.le_of_ble_eq_true rfl, Nat.le_of_ble_eq_true rfl⟩ dL_law_817 (fun H hP hPo hS => ?_)
  refine lv_iload hx hb dL_law_820 (lv_at hl 1 rfl) ?_
  refine lv_icmp_eq (tgt := 827) hx hb dL_law_822 (by decide) (fun _ => ?_) (fun z => absurd ht z)
  refine lv_iload hx hb dL_law_827 (lv_at hl 1 rfl) ?_
  refine lv_if_ne (tgt := 844) hx hb dL_law_829 (by decide) (fun _ => ?_) (fun hr0 => ?_)
  · refine lv_goto (tgt := 2737) hx hb dL_law_844 (by decide) ?_
    exact lc_end K rfl hS (lv_sub hl [2, 7] rfl) (Nat.le_of_ble_eq_true rfl) (Nat.le_of_ble_eq_true rfl)
  · have hv := hv hr0
    refine lv_aload_n hx hb dL_law_832 rfl (lv_at hl 4 rfl) ?_
    refine lv_iconst (v := 0) hx hb dL_law_833 (by decide) ?_
    refine va_lald (D := G.1) hx hb hKo2 hPo 0 0 (n := 1) (f := f2) rfl rfl (by unfold vp_in; decide) dL_law_834 ?_
    refine lv_iload hx hb dL_law_835 (lv_at hl 0 rfl) ?_
    refine lv_i2l hx hb dL_law_837 rfl ?_
    refine W.lcmp hx hb dL_law_838 ?_
    refine lv_if_eq (tgt := 844) hx hb dL_law_839 (by decide) (fun _ => ?_) (fun z => absurd (by rw [show f2 (0 : Int32).toNatClampNeg = f2 0 from rfl, hv]; exact lc_cmp _) z)
    refine lv_goto (tgt := 2737) hx hb dL_law_844 (by decide) ?_
    exact lc_end K rfl hS (lv_sub hl [2, 7] rfl) (Nat.le_of_ble_eq_true rfl) (Nat.le_of_ble_eq_true rfl)
set_option maxHeartbeats 4000000 in
set_option maxRecDepth 100000 in
theorem lc_13_filterOf (l : Launch) (hfl : l.stackTraces = false) {p : Program} {e : Env} {s : State} {m : MethodId} {below : List Frame} {meth : Method} {c : Code} {H : Heap} {b : Nat} {xs : Nat → Int32} {G : gw_G} {cL cD : ClassId} {ho hd : Nat} {ls : Array Slot} (K : lc_C p s m meth c b 5 xs G cL cD ho hd) (hP : gw_P G lo_z H) (hPo : va_P G.1 vwCl [(ho, .inl (cL, 1, .inr (.inl (fun _ => 0))))] H) (hS : va_S (fun q => s.heap.size ≤ q) s.heap H []) (hl : lv_has ls 9 [(5, .int 0), (4, .ref hd), (3, .ref ho), (2, .ref (G.2.1 33)), (1, .ref (G.2.1 0)), (0, .ref b)]) (r : Int32) (f2 : Nat → Int64) (o : (Int32 ⊕ String) × gw_S) (h8 : f_X8_filterOf (xs 1) lo_z = some o) (hw : w_filterOf (fun _ => 0) o.1 = some (r, f2)) (o2 : Int32 × gw_S) (h11 : f_X11_filterOf (xs 1) o.2 = some o2) (ht : o2.2 33 4 = r) (hv : r = 0 → f2 0 = o2.1.toInt64) : W p l e room_1 s m #[Value.ref b] below meth c H [] 40 1183 (lw_Z below #[Value.ref b] s) (F0 m 847 ls []) := by
  obtain ⟨X, -, -, -, -, hKo2, -, hap1, hap2, -, -, hg1, hg2⟩ := id K
  obtain ⟨hx, hb, -, hown, hts, hT, -⟩ := id X
  refine lv_aload_n hx hb dL_law_847 rfl (lv_at hl 4 rfl) ?_
  refine lv_aload_n hx hb dL_law_848 rfl (lv_at hl 5 rfl) ?_
  refine lv_iload hx hb dL_law_849 (lv_at hl 0 rfl) ?_
  refine lv_iconst (v := 1) hx hb dL_law_851 (by decide) ?_
  refine lv_iadd hx hb dL_law_852 ?_
  refine lc_sld K hS (j := 1) (by decide) (by unfold vp_in; decide) dL_law_853 ?_
  refine lv_aload_n hx hb dL_law_854 rfl (lv_at hl 2 rfl) ?_
  refine lc_call (n := 3) (hq := ho) (x := .inl (cL, 1, .inr (.inl (fun _ => 0)))) (As := [.ref (G.2.1 0), .int (xs 1), .ref ho]) (rest := []) K hP hPo hS (hKo2.sub [0] rfl) hap1 hg1 (gl_filterOf l hfl G (xs 1) cL ho (fun _ => 0) f2 r lo_z o h8 hw) ⟨gv_776, gv_0, by decide +kernel, by decide +kernel⟩ gv_774 gv_775 rfl rfl (Nat.le_of_ble_eq_true rfl) hl.1 ⟨rfl, rfl⟩ ⟨Nat.le_of_ble_eq_true rfl, Nat.le_of_ble_eq_true rfl⟩ ⟨Nat.le_of_ble_eq_true rfl, Nat.le_of_ble_eq_true rfl⟩ dL_law_855 (fun H hP hPo _ hS => ?_)
  refine lv_istore (lv' := [(6, .int r), (5, .int 0), (4, .ref hd), (3, .ref ho), (2, .ref (G.2.1 33)), (1, .ref (G.2.1 0)), (0, .ref b)]) hx hb dL_law_858 hl (by decide) rfl (fun ls hl => ?_)
  refine lv_aload_n hx hb dL_law_860 rfl (lv_at hl 4 rfl) ?_
  refine lv_aload_n hx hb dL_law_861 rfl (lv_at hl 6 rfl) ?_
  refine lv_iload hx hb dL_law_862 (lv_at hl 1 rfl) ?_
  refine lv_iconst (v := 1) hx hb dL_law_864 (by decide) ?_
  refine lv_iadd hx hb dL_law_865 ?_
  refine lc_sld K hS (j := 1) (by decide) (by unfold vp_in; decide) dL_law_866 ?_
  refine lc_ci (C := RX11) (As := [.int (xs 1)]) (rest := []) K hP hPo hap1 hS (gc_X11_filterOf l G (xs 1) o.2 o2 h11) gk_X11_filterOf gv_1485 ⟨gv_1486, gv_1487⟩ (va_recv hT.2.1 hP (ci := 13) (q0 := 33) rfl rfl) rfl rfl (Nat.le_of_ble_eq_true rfl) hl.1 ⟨rfl, rfl⟩ ⟨Nat.le_of_ble_eq_true rfl, Nat.le_of_ble_eq_true rfl⟩ ⟨Nat.le_of_ble_eq_true rfl, Nat.le_of_ble_eq_true rfl⟩ dL_law_867 (fun H hP hPo hS => ?_)
  refine lv_istore (lv' := [(7, .int o2.1), (6, .int r), (5, .int 0), (4, .ref hd), (3, .ref ho), (2, .ref (G.2.1 33)), (1, .ref (G.2.1 0)), (0, .ref b)]) hx hb dL_law_870 hl (by decide) rfl (fun ls hl => ?_)
  refine lv_aload_n hx hb dL_law_872 rfl (lv_at hl 5 rfl) ?_
  refine lc_ci (C := RX11) (As := []) (rest := []) K hP hPo hap1 hS (gc_X11_thrown l G o2.2 _ rfl) gk_X11_thrown gv_1191 ⟨gv_1192, gv_1193⟩ (va_recv hT.2.1 hP (ci := 13) (q0 := 33) rfl rfl) rfl rfl (Nat.le_of_ble_eq_true rfl) hl.1 ⟨rfl, rfl⟩ ⟨Nat.le_of_ble_eq_true rfl, Nat.le_of_ble_eq_true rfl⟩ ⟨Nat.le_of_ble_eq_true rfl, Nat.le_of_ble_eq_true rfl⟩ dL_law_873 (fun H hP hPo hS => ?_)
  refine lv_iload hx hb dL_law_876 (lv_at hl 1 rfl) ?_
  refine lv_icmp_eq (tgt := 883) hx hb dL_law_878 (by decide) (fun _ => ?_) (fun z => absurd ht z)
  refine lv_iload hx hb dL_law_883 (lv_at hl 1 rfl) ?_
  refine lv_if_ne (tgt := 900) hx hb dL_law_885 (by decide) (fun _ => ?_) (fun hr0 => ?_)
  · refine lv_goto (tgt := 2737) hx hb dL_law_900 (by decide) ?_
    exact lc_end K rfl hS (lv_sub hl [2, 7] rfl) (Nat.le_of_ble_eq_true rfl) (Nat.le_of_ble_eq_true rfl)
  · have hv := hv hr0
    refine lv_aload_n hx hb dL_law_888 rfl (lv_at hl 4 rfl) ?_
    refine lv_iconst (v := 0) hx hb dL_law_889 (by decide) ?_
    refine va_lald (D := G.1) hx hb hKo2 hPo 0 0 (n := 1) (f := f2) rfl rfl (by unfold vp_in; decide) dL_law_890 ?_
    refine lv_iload hx hb dL_law_891 (lv_at hl 0 rfl) ?_
    refine lv_i2l hx hb dL_law_893 rfl ?_
    refine W.lcmp hx hb dL_law_894 ?_
    refine lv_if_eq (tgt := 900) hx hb dL_law_895 (by decide) (fun _ => ?_) (fun z => absurd (by rw [show f2 (0 : Int32).toNatClampNeg = f2 0 from rfl, hv]; exact lc_cmp _) z)
    refine lv_goto (tgt := 2737) hx hb dL_law_900 (by decide) ?_
    exact lc_end K rfl hS (lv_sub hl [2, 7] rfl) (Nat.le_of_ble_eq_true rfl) (Nat.le_of_ble_eq_true rfl)
set_option maxHeartbeats 4000000 in
set_option maxRecDepth 100000 in
theorem lc_15_pair (l : Launch) (hfl : l.stackTraces = false) {p : Program} {e : Env} {s : State} {m : MethodId} {below : List Frame} {meth : Method} {c : Code} {H : Heap} {b : Nat} {xs : Nat → Int32} {G : gw_G} {cL cD : ClassId} {ho hd : Nat} {ls : Array Slot} (K : lc_C p s m meth c b 5 xs G cL cD ho hd) (hP : gw_P G lo_z H) (hPo : va_P G.1 vwCl [(ho, .inl (cL, 1, .inr (.inl (fun _ => 0))))] H) (hS : va_S (fun q => s.heap.size ≤ q) s.heap H []) (hl : lv_has ls 9 [(5, .int 0), (4, .ref hd), (3, .ref ho), (2, .ref (G.2.1 33)), (1, .ref (G.2.1 0)), (0, .ref b)]) (r : Int32) (f2 : Nat → Int64) (o : (Int32 ⊕ String) × gw_S) (h8 : f_X8_pair (xs 1) (xs 2) (xs 3) lo_z = some o) (hw : w_pair (fun _ => 0) o.1 = some (r, f2)) (o2 : Int32 × gw_S) (h11 : f_X11_pair (xs 1) (xs 2) (xs 3) o.2 = some o2) (ht : o2.2 33 4 = r) (hv : r = 0 → f2 0 = o2.1.toInt64) : W p l e room_1 s m #[Value.ref b] below meth c H [] 40 1183 (lw_Z below #[Value.ref b] s) (F0 m 947 ls []) := by
  obtain ⟨X, -, -, -, -, hKo2, -, hap1, hap2, -, -, hg1, hg2⟩ := id K
  obtain ⟨hx, hb, -, hown, hts, hT, -⟩ := id X
  refine lv_aload_n hx hb dL_law_947 rfl (lv_at hl 4 rfl) ?_
  refine lv_aload_n hx hb dL_law_948 rfl (lv_at hl 5 rfl) ?_
  refine lv_iload hx hb dL_law_949 (lv_at hl 0 rfl) ?_
  refine lv_iconst (v := 1) hx hb dL_law_951 (by decide) ?_
  refine lv_iadd hx hb dL_law_952 ?_
  refine lc_sld K hS (j := 1) (by decide) (by unfold vp_in; decide) dL_law_953 ?_
  refine lv_aload_n hx hb dL_law_954 rfl (lv_at hl 5 rfl) ?_
  refine lv_iload hx hb dL_law_955 (lv_at hl 0 rfl) ?_
  refine lv_iconst (v := 2) hx hb dL_law_957 (by decide) ?_
  refine lv_iadd hx hb dL_law_958 ?_
  refine lc_sld K hS (j := 2) (by decide) (by unfold vp_in; decide) dL_law_959 ?_
  refine lv_aload_n hx hb dL_law_960 rfl (lv_at hl 5 rfl) ?_
  refine lv_iload hx hb dL_law_961 (lv_at hl 0 rfl) ?_
  refine lv_iconst (v := 3) hx hb dL_law_963 (by decide) ?_
  refine lv_iadd hx hb dL_law_964 ?_
  refine lc_sld K hS (j := 3) (by decide) (by unfold vp_in; decide) dL_law_965 ?_
  refine lv_aload_n hx hb dL_law_966 rfl (lv_at hl 2 rfl) ?_
  refine lc_call (n := 5) (hq := ho) (x := .inl (cL, 1, .inr (.inl (fun _ => 0)))) (As := [.ref (G.2.1 0), .int (xs 1), .int (xs 2), .int (xs 3), .ref ho]) (rest := []) K hP hPo hS (hKo2.sub [0] rfl) hap1 hg1 (gl_pair l hfl G (xs 1) (xs 2) (xs 3) cL ho (fun _ => 0) f2 r lo_z o h8 hw) ⟨gv_816, gv_0, by decide +kernel, by decide +kernel⟩ gv_814 gv_815 rfl rfl (Nat.le_of_ble_eq_true rfl) hl.1 ⟨rfl, rfl⟩ ⟨Nat.le_of_ble_eq_true rfl, Nat.le_of_ble_eq_true rfl⟩ ⟨Nat.le_of_ble_eq_true rfl, Nat.le_of_ble_eq_true rfl⟩ dL_law_967 (fun H hP hPo _ hS => ?_)
  refine lv_istore (lv' := [(6, .int r), (5, .int 0), (4, .ref hd), (3, .ref ho), (2, .ref (G.2.1 33)), (1, .ref (G.2.1 0)), (0, .ref b)]) hx hb dL_law_970 hl (by decide) rfl (fun ls hl => ?_)
  refine lv_aload_n hx hb dL_law_972 rfl (lv_at hl 4 rfl) ?_
  refine lv_aload_n hx hb dL_law_973 rfl (lv_at hl 6 rfl) ?_
  refine lv_iload hx hb dL_law_974 (lv_at hl 1 rfl) ?_
  refine lv_iconst (v := 1) hx hb dL_law_976 (by decide) ?_
  refine lv_iadd hx hb dL_law_977 ?_
  refine lc_sld K hS (j := 1) (by decide) (by unfold vp_in; decide) dL_law_978 ?_
  refine lv_aload_n hx hb dL_law_979 rfl (lv_at hl 6 rfl) ?_
  refine lv_iload hx hb dL_law_980 (lv_at hl 1 rfl) ?_
  refine lv_iconst (v := 2) hx hb dL_law_982 (by decide) ?_
  refine lv_iadd hx hb dL_law_983 ?_
  refine lc_sld K hS (j := 2) (by decide) (by unfold vp_in; decide) dL_law_984 ?_
  refine lv_aload_n hx hb dL_law_985 rfl (lv_at hl 6 rfl) ?_
  refine lv_iload hx hb dL_law_986 (lv_at hl 1 rfl) ?_
  refine lv_iconst (v := 3) hx hb dL_law_988 (by decide) ?_
  refine lv_iadd hx hb dL_law_989 ?_
  refine lc_sld K hS (j := 3) (by decide) (by unfold vp_in; decide) dL_law_990 ?_
  refine lc_ci (C := RX11) (As := [.int (xs 1), .int (xs 2), .int (xs 3)]) (rest := []) K hP hPo hap1 hS (gc_X11_pair l G (xs 1) (xs 2) (xs 3) o.2 o2 h11) gk_X11_pair gv_1514 ⟨gv_1515, gv_1516⟩ (va_recv hT.2.1 hP (ci := 13) (q0 := 33) rfl rfl) rfl rfl (Nat.le_of_ble_eq_true rfl) hl.1 ⟨rfl, rfl⟩ ⟨Nat.le_of_ble_eq_true rfl, Nat.le_of_ble_eq_true rfl⟩ ⟨Nat.le_of_ble_eq_true rfl, Nat.le_of_ble_eq_true rfl⟩ dL_law_991 (fun H hP hPo hS => ?_)
  refine lv_istore (lv' := [(7, .int o2.1), (6, .int r), (5, .int 0), (4, .ref hd), (3, .ref ho), (2, .ref (G.2.1 33)), (1, .ref (G.2.1 0)), (0, .ref b)]) hx hb dL_law_994 hl (by decide) rfl (fun ls hl => ?_)
  refine lv_aload_n hx hb dL_law_996 rfl (lv_at hl 5 rfl) ?_
  refine lc_ci (C := RX11) (As := []) (rest := []) K hP hPo hap1 hS (gc_X11_thrown l G o2.2 _ rfl) gk_X11_thrown gv_1191 ⟨gv_1192, gv_1193⟩ (va_recv hT.2.1 hP (ci := 13) (q0 := 33) rfl rfl) rfl rfl (Nat.le_of_ble_eq_true rfl) hl.1 ⟨rfl, rfl⟩ ⟨Nat.le_of_ble_eq_true rfl, Nat.le_of_ble_eq_true rfl⟩ ⟨Nat.le_of_ble_eq_true rfl, Nat.le_of_ble_eq_true rfl⟩ dL_law_997 (fun H hP hPo hS => ?_)
  refine lv_iload hx hb dL_law_1000 (lv_at hl 1 rfl) ?_
  refine lv_icmp_eq (tgt := 1007) hx hb dL_law_1002 (by decide) (fun _ => ?_) (fun z => absurd ht z)
  refine lv_iload hx hb dL_law_1007 (lv_at hl 1 rfl) ?_
  refine lv_if_ne (tgt := 1024) hx hb dL_law_1009 (by decide) (fun _ => ?_) (fun hr0 => ?_)
  · refine lv_goto (tgt := 2737) hx hb dL_law_1024 (by decide) ?_
    exact lc_end K rfl hS (lv_sub hl [2, 7] rfl) (Nat.le_of_ble_eq_true rfl) (Nat.le_of_ble_eq_true rfl)
  · have hv := hv hr0
    refine lv_aload_n hx hb dL_law_1012 rfl (lv_at hl 4 rfl) ?_
    refine lv_iconst (v := 0) hx hb dL_law_1013 (by decide) ?_
    refine va_lald (D := G.1) hx hb hKo2 hPo 0 0 (n := 1) (f := f2) rfl rfl (by unfold vp_in; decide) dL_law_1014 ?_
    refine lv_iload hx hb dL_law_1015 (lv_at hl 0 rfl) ?_
    refine lv_i2l hx hb dL_law_1017 rfl ?_
    refine W.lcmp hx hb dL_law_1018 ?_
    refine lv_if_eq (tgt := 1024) hx hb dL_law_1019 (by decide) (fun _ => ?_) (fun z => absurd (by rw [show f2 (0 : Int32).toNatClampNeg = f2 0 from rfl, hv]; exact lc_cmp _) z)
    refine lv_goto (tgt := 2737) hx hb dL_law_1024 (by decide) ?_
    exact lc_end K rfl hS (lv_sub hl [2, 7] rfl) (Nat.le_of_ble_eq_true rfl) (Nat.le_of_ble_eq_true rfl)
set_option maxHeartbeats 4000000 in
set_option maxRecDepth 100000 in
theorem lc_16_unpair (l : Launch) (hfl : l.stackTraces = false) {p : Program} {e : Env} {s : State} {m : MethodId} {below : List Frame} {meth : Method} {c : Code} {H : Heap} {b : Nat} {xs : Nat → Int32} {G : gw_G} {cL cD : ClassId} {ho hd : Nat} {ls : Array Slot} (K : lc_C p s m meth c b 5 xs G cL cD ho hd) (hP : gw_P G lo_z H) (hPo : va_P G.1 vwCl [(ho, .inl (cL, 1, .inr (.inl (fun _ => 0))))] H) (hS : va_S (fun q => s.heap.size ≤ q) s.heap H []) (hl : lv_has ls 9 [(5, .int 0), (4, .ref hd), (3, .ref ho), (2, .ref (G.2.1 33)), (1, .ref (G.2.1 0)), (0, .ref b)]) (r : Int32) (f2 : Nat → Int64) (o : (Int32 ⊕ String) × gw_S) (h8 : f_X8_unpair (xs 1) lo_z = some o) (hw : w_unpair (fun _ => 0) o.1 = some (r, f2)) (o2 : Int32 × gw_S) (h11 : f_X11_unpair (xs 1) o.2 = some o2) (ht : o2.2 33 4 = r) (hv : r = 0 → f2 0 = o2.1.toInt64) : W p l e room_1 s m #[Value.ref b] below meth c H [] 40 1183 (lw_Z below #[Value.ref b] s) (F0 m 1027 ls []) := by
  obtain ⟨X, -, -, -, -, hKo2, -, hap1, hap2, -, -, hg1, hg2⟩ := id K
  obtain ⟨hx, hb, -, hown, hts, hT, -⟩ := id X
  refine lv_aload_n hx hb dL_law_1027 rfl (lv_at hl 4 rfl) ?_
  refine lv_aload_n hx hb dL_law_1028 rfl (lv_at hl 5 rfl) ?_
  refine lv_iload hx hb dL_law_1029 (lv_at hl 0 rfl) ?_
  refine lv_iconst (v := 1) hx hb dL_law_1031 (by decide) ?_
  refine lv_iadd hx hb dL_law_1032 ?_
  refine lc_sld K hS (j := 1) (by decide) (by unfold vp_in; decide) dL_law_1033 ?_
  refine lv_aload_n hx hb dL_law_1034 rfl (lv_at hl 2 rfl) ?_
  refine lc_call (n := 3) (hq := ho) (x := .inl (cL, 1, .inr (.inl (fun _ => 0)))) (As := [.ref (G.2.1 0), .int (xs 1), .ref ho]) (rest := []) K hP hPo hS (hKo2.sub [0] rfl) hap1 hg1 (gl_unpair l hfl G (xs 1) cL ho (fun _ => 0) f2 r lo_z o h8 hw) ⟨gv_856, gv_0, by decide +kernel, by decide +kernel⟩ gv_854 gv_855 rfl rfl (Nat.le_of_ble_eq_true rfl) hl.1 ⟨rfl, rfl⟩ ⟨Nat.le_of_ble_eq_true rfl, Nat.le_of_ble_eq_true rfl⟩ ⟨Nat.le_of_ble_eq_true rfl, Nat.le_of_ble_eq_true rfl⟩ dL_law_1035 (fun H hP hPo _ hS => ?_)
  refine lv_istore (lv' := [(6, .int r), (5, .int 0), (4, .ref hd), (3, .ref ho), (2, .ref (G.2.1 33)), (1, .ref (G.2.1 0)), (0, .ref b)]) hx hb dL_law_1038 hl (by decide) rfl (fun ls hl => ?_)
  refine lv_aload_n hx hb dL_law_1040 rfl (lv_at hl 4 rfl) ?_
  refine lv_aload_n hx hb dL_law_1041 rfl (lv_at hl 6 rfl) ?_
  refine lv_iload hx hb dL_law_1042 (lv_at hl 1 rfl) ?_
  refine lv_iconst (v := 1) hx hb dL_law_1044 (by decide) ?_
  refine lv_iadd hx hb dL_law_1045 ?_
  refine lc_sld K hS (j := 1) (by decide) (by unfold vp_in; decide) dL_law_1046 ?_
  refine lc_ci (C := RX11) (As := [.int (xs 1)]) (rest := []) K hP hPo hap1 hS (gc_X11_unpair l G (xs 1) o.2 o2 h11) gk_X11_unpair gv_1544 ⟨gv_1545, gv_1546⟩ (va_recv hT.2.1 hP (ci := 13) (q0 := 33) rfl rfl) rfl rfl (Nat.le_of_ble_eq_true rfl) hl.1 ⟨rfl, rfl⟩ ⟨Nat.le_of_ble_eq_true rfl, Nat.le_of_ble_eq_true rfl⟩ ⟨Nat.le_of_ble_eq_true rfl, Nat.le_of_ble_eq_true rfl⟩ dL_law_1047 (fun H hP hPo hS => ?_)
  refine lv_istore (lv' := [(7, .int o2.1), (6, .int r), (5, .int 0), (4, .ref hd), (3, .ref ho), (2, .ref (G.2.1 33)), (1, .ref (G.2.1 0)), (0, .ref b)]) hx hb dL_law_1050 hl (by decide) rfl (fun ls hl => ?_)
  refine lv_aload_n hx hb dL_law_1052 rfl (lv_at hl 5 rfl) ?_
  refine lc_ci (C := RX11) (As := []) (rest := []) K hP hPo hap1 hS (gc_X11_thrown l G o2.2 _ rfl) gk_X11_thrown gv_1191 ⟨gv_1192, gv_1193⟩ (va_recv hT.2.1 hP (ci := 13) (q0 := 33) rfl rfl) rfl rfl (Nat.le_of_ble_eq_true rfl) hl.1 ⟨rfl, rfl⟩ ⟨Nat.le_of_ble_eq_true rfl, Nat.le_of_ble_eq_true rfl⟩ ⟨Nat.le_of_ble_eq_true rfl, Nat.le_of_ble_eq_true rfl⟩ dL_law_1053 (fun H hP hPo hS => ?_)
  refine lv_iload hx hb dL_law_1056 (lv_at hl 1 rfl) ?_
  refine lv_icmp_eq (tgt := 1063) hx hb dL_law_1058 (by decide) (fun _ => ?_) (fun z => absurd ht z)
  refine lv_iload hx hb dL_law_1063 (lv_at hl 1 rfl) ?_
  refine lv_if_ne (tgt := 1080) hx hb dL_law_1065 (by decide) (fun _ => ?_) (fun hr0 => ?_)
  · refine lv_goto (tgt := 2737) hx hb dL_law_1080 (by decide) ?_
    exact lc_end K rfl hS (lv_sub hl [2, 7] rfl) (Nat.le_of_ble_eq_true rfl) (Nat.le_of_ble_eq_true rfl)
  · have hv := hv hr0
    refine lv_aload_n hx hb dL_law_1068 rfl (lv_at hl 4 rfl) ?_
    refine lv_iconst (v := 0) hx hb dL_law_1069 (by decide) ?_
    refine va_lald (D := G.1) hx hb hKo2 hPo 0 0 (n := 1) (f := f2) rfl rfl (by unfold vp_in; decide) dL_law_1070 ?_
    refine lv_iload hx hb dL_law_1071 (lv_at hl 0 rfl) ?_
    refine lv_i2l hx hb dL_law_1073 rfl ?_
    refine W.lcmp hx hb dL_law_1074 ?_
    refine lv_if_eq (tgt := 1080) hx hb dL_law_1075 (by decide) (fun _ => ?_) (fun z => absurd (by rw [show f2 (0 : Int32).toNatClampNeg = f2 0 from rfl, hv]; exact lc_cmp _) z)
    refine lv_goto (tgt := 2737) hx hb dL_law_1080 (by decide) ?_
    exact lc_end K rfl hS (lv_sub hl [2, 7] rfl) (Nat.le_of_ble_eq_true rfl) (Nat.le_of_ble_eq_true rfl)
set_option maxHeartbeats 4000000 in
set_option maxRecDepth 100000 in
theorem lc_17_rank (l : Launch) (hfl : l.stackTraces = false) {p : Program} {e : Env} {s : State} {m : MethodId} {below : List Frame} {meth : Method} {c : Code} {H : Heap} {b : Nat} {xs : Nat → Int32} {G : gw_G} {cL cD : ClassId} {ho hd : Nat} {ls : Array Slot} (K : lc_C p s m meth c b 5 xs G cL cD ho hd) (hP : gw_P G lo_z H) (hPo : va_P G.1 vwCl [(ho, .inl (cL, 1, .inr (.inl (fun _ => 0))))] H) (hS : va_S (fun q => s.heap.size ≤ q) s.heap H []) (hl : lv_has ls 9 [(5, .int 0), (4, .ref hd), (3, .ref ho), (2, .ref (G.2.1 33)), (1, .ref (G.2.1 0)), (0, .ref b)]) (r : Int32) (f2 : Nat → Int64) (o : (Int32 ⊕ String) × gw_S) (h8 : f_X8_rank (xs 1) lo_z = some o) (hw : w_rank (fun _ => 0) o.1 = some (r, f2)) (o2 : Int32 × gw_S) (h11 : f_X11_rank (xs 1) o.2 = some o2) (ht : o2.2 33 4 = r) (hv : r = 0 → f2 0 = o2.1.toInt64) : W p l e room_1 s m #[Value.ref b] below meth c H [] 40 1183 (lw_Z below #[Value.ref b] s) (F0 m 1083 ls []) := by
  obtain ⟨X, -, -, -, -, hKo2, -, hap1, hap2, -, -, hg1, hg2⟩ := id K
  obtain ⟨hx, hb, -, hown, hts, hT, -⟩ := id X
  refine lv_aload_n hx hb dL_law_1083 rfl (lv_at hl 4 rfl) ?_
  refine lv_aload_n hx hb dL_law_1084 rfl (lv_at hl 5 rfl) ?_
  refine lv_iload hx hb dL_law_1085 (lv_at hl 0 rfl) ?_
  refine lv_iconst (v := 1) hx hb dL_law_1087 (by decide) ?_
  refine lv_iadd hx hb dL_law_1088 ?_
  refine lc_sld K hS (j := 1) (by decide) (by unfold vp_in; decide) dL_law_1089 ?_
  refine lv_aload_n hx hb dL_law_1090 rfl (lv_at hl 2 rfl) ?_
  refine lc_call (n := 3) (hq := ho) (x := .inl (cL, 1, .inr (.inl (fun _ => 0)))) (As := [.ref (G.2.1 0), .int (xs 1), .ref ho]) (rest := []) K hP hPo hS (hKo2.sub [0] rfl) hap1 hg1 (gl_rank l hfl G (xs 1) cL ho (fun _ => 0) f2 r lo_z o h8 hw) ⟨gv_868, gv_0, by decide +kernel, by decide +kernel⟩ gv_866 gv_867 rfl rfl (Nat.le_of_ble_eq_true rfl) hl.1 ⟨rfl, rfl⟩ ⟨Nat.le_of_ble_eq_true rfl, Nat.le_of_ble_eq_true rfl⟩ ⟨Nat.le_of_ble_eq_true rfl, Nat.le_of_ble_eq_true rfl⟩ dL_law_1091 (fun H hP hPo _ hS => ?_)
  refine lv_istore (lv' := [(6, .int r), (5, .int 0), (4, .ref hd), (3, .ref ho), (2, .ref (G.2.1 33)), (1, .ref (G.2.1 0)), (0, .ref b)]) hx hb dL_law_1094 hl (by decide) rfl (fun ls hl => ?_)
  refine lv_aload_n hx hb dL_law_1096 rfl (lv_at hl 4 rfl) ?_
  refine lv_aload_n hx hb dL_law_1097 rfl (lv_at hl 6 rfl) ?_
  refine lv_iload hx hb dL_law_1098 (lv_at hl 1 rfl) ?_
  refine lv_iconst (v := 1) hx hb dL_law_1100 (by decide) ?_
  refine lv_iadd hx hb dL_law_1101 ?_
  refine lc_sld K hS (j := 1) (by decide) (by unfold vp_in; decide) dL_law_1102 ?_
  refine lc_ci (C := RX11) (As := [.int (xs 1)]) (rest := []) K hP hPo hap1 hS (gc_X11_rank l G (xs 1) o.2 o2 h11) gk_X11_rank gv_1557 ⟨gv_1558, gv_1559⟩ (va_recv hT.2.1 hP (ci := 13) (q0 := 33) rfl rfl) rfl rfl (Nat.le_of_ble_eq_true rfl) hl.1 ⟨rfl, rfl⟩ ⟨Nat.le_of_ble_eq_true rfl, Nat.le_of_ble_eq_true rfl⟩ ⟨Nat.le_of_ble_eq_true rfl, Nat.le_of_ble_eq_true rfl⟩ dL_law_1103 (fun H hP hPo hS => ?_)
  refine lv_istore (lv' := [(7, .int o2.1), (6, .int r), (5, .int 0), (4, .ref hd), (3, .ref ho), (2, .ref (G.2.1 33)), (1, .ref (G.2.1 0)), (0, .ref b)]) hx hb dL_law_1106 hl (by decide) rfl (fun ls hl => ?_)
  refine lv_aload_n hx hb dL_law_1108 rfl (lv_at hl 5 rfl) ?_
  refine lc_ci (C := RX11) (As := []) (rest := []) K hP hPo hap1 hS (gc_X11_thrown l G o2.2 _ rfl) gk_X11_thrown gv_1191 ⟨gv_1192, gv_1193⟩ (va_recv hT.2.1 hP (ci := 13) (q0 := 33) rfl rfl) rfl rfl (Nat.le_of_ble_eq_true rfl) hl.1 ⟨rfl, rfl⟩ ⟨Nat.le_of_ble_eq_true rfl, Nat.le_of_ble_eq_true rfl⟩ ⟨Nat.le_of_ble_eq_true rfl, Nat.le_of_ble_eq_true rfl⟩ dL_law_1109 (fun H hP hPo hS => ?_)
  refine lv_iload hx hb dL_law_1112 (lv_at hl 1 rfl) ?_
  refine lv_icmp_eq (tgt := 1119) hx hb dL_law_1114 (by decide) (fun _ => ?_) (fun z => absurd ht z)
  refine lv_iload hx hb dL_law_1119 (lv_at hl 1 rfl) ?_
  refine lv_if_ne (tgt := 1136) hx hb dL_law_1121 (by decide) (fun _ => ?_) (fun hr0 => ?_)
  · refine lv_goto (tgt := 2737) hx hb dL_law_1136 (by decide) ?_
    exact lc_end K rfl hS (lv_sub hl [2, 7] rfl) (Nat.le_of_ble_eq_true rfl) (Nat.le_of_ble_eq_true rfl)
  · have hv := hv hr0
    refine lv_aload_n hx hb dL_law_1124 rfl (lv_at hl 4 rfl) ?_
    refine lv_iconst (v := 0) hx hb dL_law_1125 (by decide) ?_
    refine va_lald (D := G.1) hx hb hKo2 hPo 0 0 (n := 1) (f := f2) rfl rfl (by unfold vp_in; decide) dL_law_1126 ?_
    refine lv_iload hx hb dL_law_1127 (lv_at hl 0 rfl) ?_
    refine lv_i2l hx hb dL_law_1129 rfl ?_
    refine W.lcmp hx hb dL_law_1130 ?_
    refine lv_if_eq (tgt := 1136) hx hb dL_law_1131 (by decide) (fun _ => ?_) (fun z => absurd (by rw [show f2 (0 : Int32).toNatClampNeg = f2 0 from rfl, hv]; exact lc_cmp _) z)
    refine lv_goto (tgt := 2737) hx hb dL_law_1136 (by decide) ?_
    exact lc_end K rfl hS (lv_sub hl [2, 7] rfl) (Nat.le_of_ble_eq_true rfl) (Nat.le_of_ble_eq_true rfl)
set_option maxHeartbeats 4000000 in
set_option maxRecDepth 100000 in
theorem lc_18_standard (l : Launch) (hfl : l.stackTraces = false) {p : Program} {e : Env} {s : State} {m : MethodId} {below : List Frame} {meth : Method} {c : Code} {H : Heap} {b : Nat} {xs : Nat → Int32} {G : gw_G} {cL cD : ClassId} {ho hd : Nat} {ls : Array Slot} (K : lc_C p s m meth c b 5 xs G cL cD ho hd) (hP : gw_P G lo_z H) (hPo : va_P G.1 vwCl [(ho, .inl (cL, 1, .inr (.inl (fun _ => 0))))] H) (hS : va_S (fun q => s.heap.size ≤ q) s.heap H []) (hl : lv_has ls 9 [(5, .int 0), (4, .ref hd), (3, .ref ho), (2, .ref (G.2.1 33)), (1, .ref (G.2.1 0)), (0, .ref b)]) (r : Int32) (f2 : Nat → Int64) (o : (Int32 ⊕ String) × gw_S) (h8 : f_X8_standard (xs 1) lo_z = some o) (hw : w_standard (fun _ => 0) o.1 = some (r, f2)) (o2 : Int32 × gw_S) (h11 : f_X11_standard (xs 1) o.2 = some o2) (ht : o2.2 33 4 = r) (hv : r = 0 → f2 0 = o2.1.toInt64) : W p l e room_1 s m #[Value.ref b] below meth c H [] 40 1183 (lw_Z below #[Value.ref b] s) (F0 m 1139 ls []) := by
  obtain ⟨X, -, -, -, -, hKo2, -, hap1, hap2, -, -, hg1, hg2⟩ := id K
  obtain ⟨hx, hb, -, hown, hts, hT, -⟩ := id X
  refine lv_aload_n hx hb dL_law_1139 rfl (lv_at hl 4 rfl) ?_
  refine lv_aload_n hx hb dL_law_1140 rfl (lv_at hl 5 rfl) ?_
  refine lv_iload hx hb dL_law_1141 (lv_at hl 0 rfl) ?_
  refine lv_iconst (v := 1) hx hb dL_law_1143 (by decide) ?_
  refine lv_iadd hx hb dL_law_1144 ?_
  refine lc_sld K hS (j := 1) (by decide) (by unfold vp_in; decide) dL_law_1145 ?_
  refine lv_aload_n hx hb dL_law_1146 rfl (lv_at hl 2 rfl) ?_
  refine lc_call (n := 3) (hq := ho) (x := .inl (cL, 1, .inr (.inl (fun _ => 0)))) (As := [.ref (G.2.1 0), .int (xs 1), .ref ho]) (rest := []) K hP hPo hS (hKo2.sub [0] rfl) hap1 hg1 (gl_standard l hfl G (xs 1) cL ho (fun _ => 0) f2 r lo_z o h8 hw) ⟨gv_875, gv_0, by decide +kernel, by decide +kernel⟩ gv_873 gv_874 rfl rfl (Nat.le_of_ble_eq_true rfl) hl.1 ⟨rfl, rfl⟩ ⟨Nat.le_of_ble_eq_true rfl, Nat.le_of_ble_eq_true rfl⟩ ⟨Nat.le_of_ble_eq_true rfl, Nat.le_of_ble_eq_true rfl⟩ dL_law_1147 (fun H hP hPo _ hS => ?_)
  refine lv_istore (lv' := [(6, .int r), (5, .int 0), (4, .ref hd), (3, .ref ho), (2, .ref (G.2.1 33)), (1, .ref (G.2.1 0)), (0, .ref b)]) hx hb dL_law_1150 hl (by decide) rfl (fun ls hl => ?_)
  refine lv_aload_n hx hb dL_law_1152 rfl (lv_at hl 4 rfl) ?_
  refine lv_aload_n hx hb dL_law_1153 rfl (lv_at hl 6 rfl) ?_
  refine lv_iload hx hb dL_law_1154 (lv_at hl 1 rfl) ?_
  refine lv_iconst (v := 1) hx hb dL_law_1156 (by decide) ?_
  refine lv_iadd hx hb dL_law_1157 ?_
  refine lc_sld K hS (j := 1) (by decide) (by unfold vp_in; decide) dL_law_1158 ?_
  refine lc_ci (C := RX11) (As := [.int (xs 1)]) (rest := []) K hP hPo hap1 hS (gc_X11_standard l G (xs 1) o.2 o2 h11) gk_X11_standard gv_1561 ⟨gv_1562, gv_1563⟩ (va_recv hT.2.1 hP (ci := 13) (q0 := 33) rfl rfl) rfl rfl (Nat.le_of_ble_eq_true rfl) hl.1 ⟨rfl, rfl⟩ ⟨Nat.le_of_ble_eq_true rfl, Nat.le_of_ble_eq_true rfl⟩ ⟨Nat.le_of_ble_eq_true rfl, Nat.le_of_ble_eq_true rfl⟩ dL_law_1159 (fun H hP hPo hS => ?_)
  refine lv_istore (lv' := [(7, .int o2.1), (6, .int r), (5, .int 0), (4, .ref hd), (3, .ref ho), (2, .ref (G.2.1 33)), (1, .ref (G.2.1 0)), (0, .ref b)]) hx hb dL_law_1162 hl (by decide) rfl (fun ls hl => ?_)
  refine lv_aload_n hx hb dL_law_1164 rfl (lv_at hl 5 rfl) ?_
  refine lc_ci (C := RX11) (As := []) (rest := []) K hP hPo hap1 hS (gc_X11_thrown l G o2.2 _ rfl) gk_X11_thrown gv_1191 ⟨gv_1192, gv_1193⟩ (va_recv hT.2.1 hP (ci := 13) (q0 := 33) rfl rfl) rfl rfl (Nat.le_of_ble_eq_true rfl) hl.1 ⟨rfl, rfl⟩ ⟨Nat.le_of_ble_eq_true rfl, Nat.le_of_ble_eq_true rfl⟩ ⟨Nat.le_of_ble_eq_true rfl, Nat.le_of_ble_eq_true rfl⟩ dL_law_1165 (fun H hP hPo hS => ?_)
  refine lv_iload hx hb dL_law_1168 (lv_at hl 1 rfl) ?_
  refine lv_icmp_eq (tgt := 1175) hx hb dL_law_1170 (by decide) (fun _ => ?_) (fun z => absurd ht z)
  refine lv_iload hx hb dL_law_1175 (lv_at hl 1 rfl) ?_
  refine lv_if_ne (tgt := 1192) hx hb dL_law_1177 (by decide) (fun _ => ?_) (fun hr0 => ?_)
  · refine lv_goto (tgt := 2737) hx hb dL_law_1192 (by decide) ?_
    exact lc_end K rfl hS (lv_sub hl [2, 7] rfl) (Nat.le_of_ble_eq_true rfl) (Nat.le_of_ble_eq_true rfl)
  · have hv := hv hr0
    refine lv_aload_n hx hb dL_law_1180 rfl (lv_at hl 4 rfl) ?_
    refine lv_iconst (v := 0) hx hb dL_law_1181 (by decide) ?_
    refine va_lald (D := G.1) hx hb hKo2 hPo 0 0 (n := 1) (f := f2) rfl rfl (by unfold vp_in; decide) dL_law_1182 ?_
    refine lv_iload hx hb dL_law_1183 (lv_at hl 0 rfl) ?_
    refine lv_i2l hx hb dL_law_1185 rfl ?_
    refine W.lcmp hx hb dL_law_1186 ?_
    refine lv_if_eq (tgt := 1192) hx hb dL_law_1187 (by decide) (fun _ => ?_) (fun z => absurd (by rw [show f2 (0 : Int32).toNatClampNeg = f2 0 from rfl, hv]; exact lc_cmp _) z)
    refine lv_goto (tgt := 2737) hx hb dL_law_1192 (by decide) ?_
    exact lc_end K rfl hS (lv_sub hl [2, 7] rfl) (Nat.le_of_ble_eq_true rfl) (Nat.le_of_ble_eq_true rfl)
set_option maxHeartbeats 4000000 in
set_option maxRecDepth 100000 in
theorem lc_19_becomes (l : Launch) (hfl : l.stackTraces = false) {p : Program} {e : Env} {s : State} {m : MethodId} {below : List Frame} {meth : Method} {c : Code} {H : Heap} {b : Nat} {xs : Nat → Int32} {G : gw_G} {cL cD : ClassId} {ho hd : Nat} {ls : Array Slot} (K : lc_C p s m meth c b 5 xs G cL cD ho hd) (hP : gw_P G lo_z H) (hPo : va_P G.1 vwCl [(ho, .inl (cL, 1, .inr (.inl (fun _ => 0))))] H) (hS : va_S (fun q => s.heap.size ≤ q) s.heap H []) (hl : lv_has ls 9 [(5, .int 0), (4, .ref hd), (3, .ref ho), (2, .ref (G.2.1 33)), (1, .ref (G.2.1 0)), (0, .ref b)]) (r : Int32) (f2 : Nat → Int64) (o : (Int32 ⊕ String) × gw_S) (h8 : f_X8_becomes (xs 1) (xs 2) lo_z = some o) (hw : w_becomes (fun _ => 0) o.1 = some (r, f2)) (o2 : Int32 × gw_S) (h11 : f_X11_becomes (xs 1) (xs 2) o.2 = some o2) (ht : o2.2 33 4 = r) (hv : r = 0 → f2 0 = o2.1.toInt64) : W p l e room_1 s m #[Value.ref b] below meth c H [] 40 1183 (lw_Z below #[Value.ref b] s) (F0 m 1195 ls []) := by
  obtain ⟨X, -, -, -, -, hKo2, -, hap1, hap2, -, -, hg1, hg2⟩ := id K
  obtain ⟨hx, hb, -, hown, hts, hT, -⟩ := id X
  refine lv_aload_n hx hb dL_law_1195 rfl (lv_at hl 4 rfl) ?_
  refine lv_aload_n hx hb dL_law_1196 rfl (lv_at hl 5 rfl) ?_
  refine lv_iload hx hb dL_law_1197 (lv_at hl 0 rfl) ?_
  refine lv_iconst (v := 1) hx hb dL_law_1199 (by decide) ?_
  refine lv_iadd hx hb dL_law_1200 ?_
  refine lc_sld K hS (j := 1) (by decide) (by unfold vp_in; decide) dL_law_1201 ?_
  refine lv_aload_n hx hb dL_law_1202 rfl (lv_at hl 5 rfl) ?_
  refine lv_iload hx hb dL_law_1203 (lv_at hl 0 rfl) ?_
  refine lv_iconst (v := 2) hx hb dL_law_1205 (by decide) ?_
  refine lv_iadd hx hb dL_law_1206 ?_
  refine lc_sld K hS (j := 2) (by decide) (by unfold vp_in; decide) dL_law_1207 ?_
  refine lv_aload_n hx hb dL_law_1208 rfl (lv_at hl 2 rfl) ?_
  refine lc_call (n := 4) (hq := ho) (x := .inl (cL, 1, .inr (.inl (fun _ => 0)))) (As := [.ref (G.2.1 0), .int (xs 1), .int (xs 2), .ref ho]) (rest := []) K hP hPo hS (hKo2.sub [0] rfl) hap1 hg1 (gl_becomes l hfl G (xs 1) (xs 2) cL ho (fun _ => 0) f2 r lo_z o h8 hw) ⟨gv_896, gv_0, by decide +kernel, by decide +kernel⟩ gv_894 gv_895 rfl rfl (Nat.le_of_ble_eq_true rfl) hl.1 ⟨rfl, rfl⟩ ⟨Nat.le_of_ble_eq_true rfl, Nat.le_of_ble_eq_true rfl⟩ ⟨Nat.le_of_ble_eq_true rfl, Nat.le_of_ble_eq_true rfl⟩ dL_law_1209 (fun H hP hPo _ hS => ?_)
  refine lv_istore (lv' := [(6, .int r), (5, .int 0), (4, .ref hd), (3, .ref ho), (2, .ref (G.2.1 33)), (1, .ref (G.2.1 0)), (0, .ref b)]) hx hb dL_law_1212 hl (by decide) rfl (fun ls hl => ?_)
  refine lv_aload_n hx hb dL_law_1214 rfl (lv_at hl 4 rfl) ?_
  refine lv_aload_n hx hb dL_law_1215 rfl (lv_at hl 6 rfl) ?_
  refine lv_iload hx hb dL_law_1216 (lv_at hl 1 rfl) ?_
  refine lv_iconst (v := 1) hx hb dL_law_1218 (by decide) ?_
  refine lv_iadd hx hb dL_law_1219 ?_
  refine lc_sld K hS (j := 1) (by decide) (by unfold vp_in; decide) dL_law_1220 ?_
  refine lv_aload_n hx hb dL_law_1221 rfl (lv_at hl 6 rfl) ?_
  refine lv_iload hx hb dL_law_1222 (lv_at hl 1 rfl) ?_
  refine lv_iconst (v := 2) hx hb dL_law_1224 (by decide) ?_
  refine lv_iadd hx hb dL_law_1225 ?_
  refine lc_sld K hS (j := 2) (by decide) (by unfold vp_in; decide) dL_law_1226 ?_
  refine lc_ci (C := RX11) (As := [.int (xs 1), .int (xs 2)]) (rest := []) K hP hPo hap1 hS (gc_X11_becomes l G (xs 1) (xs 2) o.2 o2 h11) gk_X11_becomes gv_1573 ⟨gv_1574, gv_1575⟩ (va_recv hT.2.1 hP (ci := 13) (q0 := 33) rfl rfl) rfl rfl (Nat.le_of_ble_eq_true rfl) hl.1 ⟨rfl, rfl⟩ ⟨Nat.le_of_ble_eq_true rfl, Nat.le_of_ble_eq_true rfl⟩ ⟨Nat.le_of_ble_eq_true rfl, Nat.le_of_ble_eq_true rfl⟩ dL_law_1227 (fun H hP hPo hS => ?_)
  refine lv_istore (lv' := [(7, .int o2.1), (6, .int r), (5, .int 0), (4, .ref hd), (3, .ref ho), (2, .ref (G.2.1 33)), (1, .ref (G.2.1 0)), (0, .ref b)]) hx hb dL_law_1230 hl (by decide) rfl (fun ls hl => ?_)
  refine lv_aload_n hx hb dL_law_1232 rfl (lv_at hl 5 rfl) ?_
  refine lc_ci (C := RX11) (As := []) (rest := []) K hP hPo hap1 hS (gc_X11_thrown l G o2.2 _ rfl) gk_X11_thrown gv_1191 ⟨gv_1192, gv_1193⟩ (va_recv hT.2.1 hP (ci := 13) (q0 := 33) rfl rfl) rfl rfl (Nat.le_of_ble_eq_true rfl) hl.1 ⟨rfl, rfl⟩ ⟨Nat.le_of_ble_eq_true rfl, Nat.le_of_ble_eq_true rfl⟩ ⟨Nat.le_of_ble_eq_true rfl, Nat.le_of_ble_eq_true rfl⟩ dL_law_1233 (fun H hP hPo hS => ?_)
  refine lv_iload hx hb dL_law_1236 (lv_at hl 1 rfl) ?_
  refine lv_icmp_eq (tgt := 1243) hx hb dL_law_1238 (by decide) (fun _ => ?_) (fun z => absurd ht z)
  refine lv_iload hx hb dL_law_1243 (lv_at hl 1 rfl) ?_
  refine lv_if_ne (tgt := 1260) hx hb dL_law_1245 (by decide) (fun _ => ?_) (fun hr0 => ?_)
  · refine lv_goto (tgt := 2737) hx hb dL_law_1260 (by decide) ?_
    exact lc_end K rfl hS (lv_sub hl [2, 7] rfl) (Nat.le_of_ble_eq_true rfl) (Nat.le_of_ble_eq_true rfl)
  · have hv := hv hr0
    refine lv_aload_n hx hb dL_law_1248 rfl (lv_at hl 4 rfl) ?_
    refine lv_iconst (v := 0) hx hb dL_law_1249 (by decide) ?_
    refine va_lald (D := G.1) hx hb hKo2 hPo 0 0 (n := 1) (f := f2) rfl rfl (by unfold vp_in; decide) dL_law_1250 ?_
    refine lv_iload hx hb dL_law_1251 (lv_at hl 0 rfl) ?_
    refine lv_i2l hx hb dL_law_1253 rfl ?_
    refine W.lcmp hx hb dL_law_1254 ?_
    refine lv_if_eq (tgt := 1260) hx hb dL_law_1255 (by decide) (fun _ => ?_) (fun z => absurd (by rw [show f2 (0 : Int32).toNatClampNeg = f2 0 from rfl, hv]; exact lc_cmp _) z)
    refine lv_goto (tgt := 2737) hx hb dL_law_1260 (by decide) ?_
    exact lc_end K rfl hS (lv_sub hl [2, 7] rfl) (Nat.le_of_ble_eq_true rfl) (Nat.le_of_ble_eq_true rfl)
set_option maxHeartbeats 4000000 in
set_option maxRecDepth 100000 in
theorem lc_20_valueIn (l : Launch) (hfl : l.stackTraces = false) {p : Program} {e : Env} {s : State} {m : MethodId} {below : List Frame} {meth : Method} {c : Code} {H : Heap} {b : Nat} {xs : Nat → Int32} {G : gw_G} {cL cD : ClassId} {ho hd : Nat} {ls : Array Slot} (K : lc_C p s m meth c b 5 xs G cL cD ho hd) (hP : gw_P G lo_z H) (hPo : va_P G.1 vwCl [(ho, .inl (cL, 1, .inr (.inl (fun _ => 0))))] H) (hS : va_S (fun q => s.heap.size ≤ q) s.heap H []) (hl : lv_has ls 9 [(5, .int 0), (4, .ref hd), (3, .ref ho), (2, .ref (G.2.1 33)), (1, .ref (G.2.1 0)), (0, .ref b)]) (r : Int32) (f2 : Nat → Int64) (o : (Int32 ⊕ String) × gw_S) (h8 : f_X8_valueIn (xs 1) (xs 2) lo_z = some o) (hw : w_valueIn (fun _ => 0) o.1 = some (r, f2)) (o2 : Int32 × gw_S) (h11 : f_X11_valueIn (xs 1) (xs 2) o.2 = some o2) (ht : o2.2 33 4 = r) (hv : r = 0 → f2 0 = o2.1.toInt64) : W p l e room_1 s m #[Value.ref b] below meth c H [] 40 1183 (lw_Z below #[Value.ref b] s) (F0 m 1263 ls []) := by
  obtain ⟨X, -, -, -, -, hKo2, -, hap1, hap2, -, -, hg1, hg2⟩ := id K
  obtain ⟨hx, hb, -, hown, hts, hT, -⟩ := id X
  refine lv_aload_n hx hb dL_law_1263 rfl (lv_at hl 4 rfl) ?_
  refine lv_aload_n hx hb dL_law_1264 rfl (lv_at hl 5 rfl) ?_
  refine lv_iload hx hb dL_law_1265 (lv_at hl 0 rfl) ?_
  refine lv_iconst (v := 1) hx hb dL_law_1267 (by decide) ?_
  refine lv_iadd hx hb dL_law_1268 ?_
  refine lc_sld K hS (j := 1) (by decide) (by unfold vp_in; decide) dL_law_1269 ?_
  refine lv_aload_n hx hb dL_law_1270 rfl (lv_at hl 5 rfl) ?_
  refine lv_iload hx hb dL_law_1271 (lv_at hl 0 rfl) ?_
  refine lv_iconst (v := 2) hx hb dL_law_1273 (by decide) ?_
  refine lv_iadd hx hb dL_law_1274 ?_
  refine lc_sld K hS (j := 2) (by decide) (by unfold vp_in; decide) dL_law_1275 ?_
  refine lv_aload_n hx hb dL_law_1276 rfl (lv_at hl 2 rfl) ?_
  refine lc_call (n := 4) (hq := ho) (x := .inl (cL, 1, .inr (.inl (fun _ => 0)))) (As := [.ref (G.2.1 0), .int (xs 1), .int (xs 2), .ref ho]) (rest := []) K hP hPo hS (hKo2.sub [0] rfl) hap1 hg1 (gl_valueIn l hfl G (xs 1) (xs 2) cL ho (fun _ => 0) f2 r lo_z o h8 hw) ⟨gv_903, gv_0, by decide +kernel, by decide +kernel⟩ gv_901 gv_902 rfl rfl (Nat.le_of_ble_eq_true rfl) hl.1 ⟨rfl, rfl⟩ ⟨Nat.le_of_ble_eq_true rfl, Nat.le_of_ble_eq_true rfl⟩ ⟨Nat.le_of_ble_eq_true rfl, Nat.le_of_ble_eq_true rfl⟩ dL_law_1277 (fun H hP hPo _ hS => ?_)
  refine lv_istore (lv' := [(6, .int r), (5, .int 0), (4, .ref hd), (3, .ref ho), (2, .ref (G.2.1 33)), (1, .ref (G.2.1 0)), (0, .ref b)]) hx hb dL_law_1280 hl (by decide) rfl (fun ls hl => ?_)
  refine lv_aload_n hx hb dL_law_1282 rfl (lv_at hl 4 rfl) ?_
  refine lv_aload_n hx hb dL_law_1283 rfl (lv_at hl 6 rfl) ?_
  refine lv_iload hx hb dL_law_1284 (lv_at hl 1 rfl) ?_
  refine lv_iconst (v := 1) hx hb dL_law_1286 (by decide) ?_
  refine lv_iadd hx hb dL_law_1287 ?_
  refine lc_sld K hS (j := 1) (by decide) (by unfold vp_in; decide) dL_law_1288 ?_
  refine lv_aload_n hx hb dL_law_1289 rfl (lv_at hl 6 rfl) ?_
  refine lv_iload hx hb dL_law_1290 (lv_at hl 1 rfl) ?_
  refine lv_iconst (v := 2) hx hb dL_law_1292 (by decide) ?_
  refine lv_iadd hx hb dL_law_1293 ?_
  refine lc_sld K hS (j := 2) (by decide) (by unfold vp_in; decide) dL_law_1294 ?_
  refine lc_ci (C := RX11) (As := [.int (xs 1), .int (xs 2)]) (rest := []) K hP hPo hap1 hS (gc_X11_valueIn l G (xs 1) (xs 2) o.2 o2 h11) gk_X11_valueIn gv_1581 ⟨gv_1582, gv_1583⟩ (va_recv hT.2.1 hP (ci := 13) (q0 := 33) rfl rfl) rfl rfl (Nat.le_of_ble_eq_true rfl) hl.1 ⟨rfl, rfl⟩ ⟨Nat.le_of_ble_eq_true rfl, Nat.le_of_ble_eq_true rfl⟩ ⟨Nat.le_of_ble_eq_true rfl, Nat.le_of_ble_eq_true rfl⟩ dL_law_1295 (fun H hP hPo hS => ?_)
  refine lv_istore (lv' := [(7, .int o2.1), (6, .int r), (5, .int 0), (4, .ref hd), (3, .ref ho), (2, .ref (G.2.1 33)), (1, .ref (G.2.1 0)), (0, .ref b)]) hx hb dL_law_1298 hl (by decide) rfl (fun ls hl => ?_)
  refine lv_aload_n hx hb dL_law_1300 rfl (lv_at hl 5 rfl) ?_
  refine lc_ci (C := RX11) (As := []) (rest := []) K hP hPo hap1 hS (gc_X11_thrown l G o2.2 _ rfl) gk_X11_thrown gv_1191 ⟨gv_1192, gv_1193⟩ (va_recv hT.2.1 hP (ci := 13) (q0 := 33) rfl rfl) rfl rfl (Nat.le_of_ble_eq_true rfl) hl.1 ⟨rfl, rfl⟩ ⟨Nat.le_of_ble_eq_true rfl, Nat.le_of_ble_eq_true rfl⟩ ⟨Nat.le_of_ble_eq_true rfl, Nat.le_of_ble_eq_true rfl⟩ dL_law_1301 (fun H hP hPo hS => ?_)
  refine lv_iload hx hb dL_law_1304 (lv_at hl 1 rfl) ?_
  refine lv_icmp_eq (tgt := 1311) hx hb dL_law_1306 (by decide) (fun _ => ?_) (fun z => absurd ht z)
  refine lv_iload hx hb dL_law_1311 (lv_at hl 1 rfl) ?_
  refine lv_if_ne (tgt := 1328) hx hb dL_law_1313 (by decide) (fun _ => ?_) (fun hr0 => ?_)
  · refine lv_goto (tgt := 2737) hx hb dL_law_1328 (by decide) ?_
    exact lc_end K rfl hS (lv_sub hl [2, 7] rfl) (Nat.le_of_ble_eq_true rfl) (Nat.le_of_ble_eq_true rfl)
  · have hv := hv hr0
    refine lv_aload_n hx hb dL_law_1316 rfl (lv_at hl 4 rfl) ?_
    refine lv_iconst (v := 0) hx hb dL_law_1317 (by decide) ?_
    refine va_lald (D := G.1) hx hb hKo2 hPo 0 0 (n := 1) (f := f2) rfl rfl (by unfold vp_in; decide) dL_law_1318 ?_
    refine lv_iload hx hb dL_law_1319 (lv_at hl 0 rfl) ?_
    refine lv_i2l hx hb dL_law_1321 rfl ?_
    refine W.lcmp hx hb dL_law_1322 ?_
    refine lv_if_eq (tgt := 1328) hx hb dL_law_1323 (by decide) (fun _ => ?_) (fun z => absurd (by rw [show f2 (0 : Int32).toNatClampNeg = f2 0 from rfl, hv]; exact lc_cmp _) z)
    refine lv_goto (tgt := 2737) hx hb dL_law_1328 (by decide) ?_
    exact lc_end K rfl hS (lv_sub hl [2, 7] rfl) (Nat.le_of_ble_eq_true rfl) (Nat.le_of_ble_eq_true rfl)
set_option maxHeartbeats 4000000 in
set_option maxRecDepth 100000 in
theorem lc_21_valueLike (l : Launch) (hfl : l.stackTraces = false) {p : Program} {e : Env} {s : State} {m : MethodId} {below : List Frame} {meth : Method} {c : Code} {H : Heap} {b : Nat} {xs : Nat → Int32} {G : gw_G} {cL cD : ClassId} {ho hd : Nat} {ls : Array Slot} (K : lc_C p s m meth c b 5 xs G cL cD ho hd) (hP : gw_P G lo_z H) (hPo : va_P G.1 vwCl [(ho, .inl (cL, 1, .inr (.inl (fun _ => 0))))] H) (hS : va_S (fun q => s.heap.size ≤ q) s.heap H []) (hl : lv_has ls 9 [(5, .int 0), (4, .ref hd), (3, .ref ho), (2, .ref (G.2.1 33)), (1, .ref (G.2.1 0)), (0, .ref b)]) (r : Int32) (f2 : Nat → Int64) (o : (Int32 ⊕ String) × gw_S) (h8 : f_X8_valueLike (xs 1) (xs 2) lo_z = some o) (hw : w_valueLike (fun _ => 0) o.1 = some (r, f2)) (o2 : Int32 × gw_S) (h11 : f_X11_valueLike (xs 1) (xs 2) o.2 = some o2) (ht : o2.2 33 4 = r) (hv : r = 0 → f2 0 = o2.1.toInt64) : W p l e room_1 s m #[Value.ref b] below meth c H [] 40 1183 (lw_Z below #[Value.ref b] s) (F0 m 1331 ls []) := by
  obtain ⟨X, -, -, -, -, hKo2, -, hap1, hap2, -, -, hg1, hg2⟩ := id K
  obtain ⟨hx, hb, -, hown, hts, hT, -⟩ := id X
  refine lv_aload_n hx hb dL_law_1331 rfl (lv_at hl 4 rfl) ?_
  refine lv_aload_n hx hb dL_law_1332 rfl (lv_at hl 5 rfl) ?_
  refine lv_iload hx hb dL_law_1333 (lv_at hl 0 rfl) ?_
  refine lv_iconst (v := 1) hx hb dL_law_1335 (by decide) ?_
  refine lv_iadd hx hb dL_law_1336 ?_
  refine lc_sld K hS (j := 1) (by decide) (by unfold vp_in; decide) dL_law_1337 ?_
  refine lv_aload_n hx hb dL_law_1338 rfl (lv_at hl 5 rfl) ?_
  refine lv_iload hx hb dL_law_1339 (lv_at hl 0 rfl) ?_
  refine lv_iconst (v := 2) hx hb dL_law_1341 (by decide) ?_
  refine lv_iadd hx hb dL_law_1342 ?_
  refine lc_sld K hS (j := 2) (by decide) (by unfold vp_in; decide) dL_law_1343 ?_
  refine lv_aload_n hx hb dL_law_1344 rfl (lv_at hl 2 rfl) ?_
  refine lc_call (n := 4) (hq := ho) (x := .inl (cL, 1, .inr (.inl (fun _ => 0)))) (As := [.ref (G.2.1 0), .int (xs 1), .int (xs 2), .ref ho]) (rest := []) K hP hPo hS (hKo2.sub [0] rfl) hap1 hg1 (gl_valueLike l hfl G (xs 1) (xs 2) cL ho (fun _ => 0) f2 r lo_z o h8 hw) ⟨gv_917, gv_0, by decide +kernel, by decide +kernel⟩ gv_915 gv_916 rfl rfl (Nat.le_of_ble_eq_true rfl) hl.1 ⟨rfl, rfl⟩ ⟨Nat.le_of_ble_eq_true rfl, Nat.le_of_ble_eq_true rfl⟩ ⟨Nat.le_of_ble_eq_true rfl, Nat.le_of_ble_eq_true rfl⟩ dL_law_1345 (fun H hP hPo _ hS => ?_)
  refine lv_istore (lv' := [(6, .int r), (5, .int 0), (4, .ref hd), (3, .ref ho), (2, .ref (G.2.1 33)), (1, .ref (G.2.1 0)), (0, .ref b)]) hx hb dL_law_1348 hl (by decide) rfl (fun ls hl => ?_)
  refine lv_aload_n hx hb dL_law_1350 rfl (lv_at hl 4 rfl) ?_
  refine lv_aload_n hx hb dL_law_1351 rfl (lv_at hl 6 rfl) ?_
  refine lv_iload hx hb dL_law_1352 (lv_at hl 1 rfl) ?_
  refine lv_iconst (v := 1) hx hb dL_law_1354 (by decide) ?_
  refine lv_iadd hx hb dL_law_1355 ?_
  refine lc_sld K hS (j := 1) (by decide) (by unfold vp_in; decide) dL_law_1356 ?_
  refine lv_aload_n hx hb dL_law_1357 rfl (lv_at hl 6 rfl) ?_
  refine lv_iload hx hb dL_law_1358 (lv_at hl 1 rfl) ?_
  refine lv_iconst (v := 2) hx hb dL_law_1360 (by decide) ?_
  refine lv_iadd hx hb dL_law_1361 ?_
  refine lc_sld K hS (j := 2) (by decide) (by unfold vp_in; decide) dL_law_1362 ?_
  refine lc_ci (C := RX11) (As := [.int (xs 1), .int (xs 2)]) (rest := []) K hP hPo hap1 hS (gc_X11_valueLike l G (xs 1) (xs 2) o.2 o2 h11) gk_X11_valueLike gv_1589 ⟨gv_1590, gv_1591⟩ (va_recv hT.2.1 hP (ci := 13) (q0 := 33) rfl rfl) rfl rfl (Nat.le_of_ble_eq_true rfl) hl.1 ⟨rfl, rfl⟩ ⟨Nat.le_of_ble_eq_true rfl, Nat.le_of_ble_eq_true rfl⟩ ⟨Nat.le_of_ble_eq_true rfl, Nat.le_of_ble_eq_true rfl⟩ dL_law_1363 (fun H hP hPo hS => ?_)
  refine lv_istore (lv' := [(7, .int o2.1), (6, .int r), (5, .int 0), (4, .ref hd), (3, .ref ho), (2, .ref (G.2.1 33)), (1, .ref (G.2.1 0)), (0, .ref b)]) hx hb dL_law_1366 hl (by decide) rfl (fun ls hl => ?_)
  refine lv_aload_n hx hb dL_law_1368 rfl (lv_at hl 5 rfl) ?_
  refine lc_ci (C := RX11) (As := []) (rest := []) K hP hPo hap1 hS (gc_X11_thrown l G o2.2 _ rfl) gk_X11_thrown gv_1191 ⟨gv_1192, gv_1193⟩ (va_recv hT.2.1 hP (ci := 13) (q0 := 33) rfl rfl) rfl rfl (Nat.le_of_ble_eq_true rfl) hl.1 ⟨rfl, rfl⟩ ⟨Nat.le_of_ble_eq_true rfl, Nat.le_of_ble_eq_true rfl⟩ ⟨Nat.le_of_ble_eq_true rfl, Nat.le_of_ble_eq_true rfl⟩ dL_law_1369 (fun H hP hPo hS => ?_)
  refine lv_iload hx hb dL_law_1372 (lv_at hl 1 rfl) ?_
  refine lv_icmp_eq (tgt := 1379) hx hb dL_law_1374 (by decide) (fun _ => ?_) (fun z => absurd ht z)
  refine lv_iload hx hb dL_law_1379 (lv_at hl 1 rfl) ?_
  refine lv_if_ne (tgt := 1396) hx hb dL_law_1381 (by decide) (fun _ => ?_) (fun hr0 => ?_)
  · refine lv_goto (tgt := 2737) hx hb dL_law_1396 (by decide) ?_
    exact lc_end K rfl hS (lv_sub hl [2, 7] rfl) (Nat.le_of_ble_eq_true rfl) (Nat.le_of_ble_eq_true rfl)
  · have hv := hv hr0
    refine lv_aload_n hx hb dL_law_1384 rfl (lv_at hl 4 rfl) ?_
    refine lv_iconst (v := 0) hx hb dL_law_1385 (by decide) ?_
    refine va_lald (D := G.1) hx hb hKo2 hPo 0 0 (n := 1) (f := f2) rfl rfl (by unfold vp_in; decide) dL_law_1386 ?_
    refine lv_iload hx hb dL_law_1387 (lv_at hl 0 rfl) ?_
    refine lv_i2l hx hb dL_law_1389 rfl ?_
    refine W.lcmp hx hb dL_law_1390 ?_
    refine lv_if_eq (tgt := 1396) hx hb dL_law_1391 (by decide) (fun _ => ?_) (fun z => absurd (by rw [show f2 (0 : Int32).toNatClampNeg = f2 0 from rfl, hv]; exact lc_cmp _) z)
    refine lv_goto (tgt := 2737) hx hb dL_law_1396 (by decide) ?_
    exact lc_end K rfl hS (lv_sub hl [2, 7] rfl) (Nat.le_of_ble_eq_true rfl) (Nat.le_of_ble_eq_true rfl)
set_option maxHeartbeats 4000000 in
set_option maxRecDepth 100000 in
theorem lc_22_forcesIn (l : Launch) (hfl : l.stackTraces = false) {p : Program} {e : Env} {s : State} {m : MethodId} {below : List Frame} {meth : Method} {c : Code} {H : Heap} {b : Nat} {xs : Nat → Int32} {G : gw_G} {cL cD : ClassId} {ho hd : Nat} {ls : Array Slot} (K : lc_C p s m meth c b 5 xs G cL cD ho hd) (hP : gw_P G lo_z H) (hPo : va_P G.1 vwCl [(ho, .inl (cL, 1, .inr (.inl (fun _ => 0))))] H) (hS : va_S (fun q => s.heap.size ≤ q) s.heap H []) (hl : lv_has ls 9 [(5, .int 0), (4, .ref hd), (3, .ref ho), (2, .ref (G.2.1 33)), (1, .ref (G.2.1 0)), (0, .ref b)]) (r : Int32) (f2 : Nat → Int64) (o : (Int32 ⊕ String) × gw_S) (h8 : f_X8_forcesIn (xs 1) (xs 2) (xs 3) lo_z = some o) (hw : w_forcesIn (fun _ => 0) o.1 = some (r, f2)) (o2 : Int32 × gw_S) (h11 : f_X11_forcesIn (xs 1) (xs 2) (xs 3) o.2 = some o2) (ht : o2.2 33 4 = r) (hv : r = 0 → f2 0 = (if o2.1 = 0 then (0 : Int64) else (1 : Int64))) : W p l e room_1 s m #[Value.ref b] below meth c H [] 40 1183 (lw_Z below #[Value.ref b] s) (F0 m 1399 ls []) := by
  obtain ⟨X, -, -, -, -, hKo2, -, hap1, hap2, -, -, hg1, hg2⟩ := id K
  obtain ⟨hx, hb, -, hown, hts, hT, -⟩ := id X
  refine lv_aload_n hx hb dL_law_1399 rfl (lv_at hl 4 rfl) ?_
  refine lv_aload_n hx hb dL_law_1400 rfl (lv_at hl 5 rfl) ?_
  refine lv_iload hx hb dL_law_1401 (lv_at hl 0 rfl) ?_
  refine lv_iconst (v := 1) hx hb dL_law_1403 (by decide) ?_
  refine lv_iadd hx hb dL_law_1404 ?_
  refine lc_sld K hS (j := 1) (by decide) (by unfold vp_in; decide) dL_law_1405 ?_
  refine lv_aload_n hx hb dL_law_1406 rfl (lv_at hl 5 rfl) ?_
  refine lv_iload hx hb dL_law_1407 (lv_at hl 0 rfl) ?_
  refine lv_iconst (v := 2) hx hb dL_law_1409 (by decide) ?_
  refine lv_iadd hx hb dL_law_1410 ?_
  refine lc_sld K hS (j := 2) (by decide) (by unfold vp_in; decide) dL_law_1411 ?_
  refine lv_aload_n hx hb dL_law_1412 rfl (lv_at hl 5 rfl) ?_
  refine lv_iload hx hb dL_law_1413 (lv_at hl 0 rfl) ?_
  refine lv_iconst (v := 3) hx hb dL_law_1415 (by decide) ?_
  refine lv_iadd hx hb dL_law_1416 ?_
  refine lc_sld K hS (j := 3) (by decide) (by unfold vp_in; decide) dL_law_1417 ?_
  refine lv_aload_n hx hb dL_law_1418 rfl (lv_at hl 2 rfl) ?_
  refine lc_call (n := 5) (hq := ho) (x := .inl (cL, 1, .inr (.inl (fun _ => 0)))) (As := [.ref (G.2.1 0), .int (xs 1), .int (xs 2), .int (xs 3), .ref ho]) (rest := []) K hP hPo hS (hKo2.sub [0] rfl) hap1 hg1 (gl_forcesIn l hfl G (xs 1) (xs 2) (xs 3) cL ho (fun _ => 0) f2 r lo_z o h8 hw) ⟨gv_924, gv_0, by decide +kernel, by decide +kernel⟩ gv_922 gv_923 rfl rfl (Nat.le_of_ble_eq_true rfl) hl.1 ⟨rfl, rfl⟩ ⟨Nat.le_of_ble_eq_true rfl, Nat.le_of_ble_eq_true rfl⟩ ⟨Nat.le_of_ble_eq_true rfl, Nat.le_of_ble_eq_true rfl⟩ dL_law_1419 (fun H hP hPo _ hS => ?_)
  refine lv_istore (lv' := [(6, .int r), (5, .int 0), (4, .ref hd), (3, .ref ho), (2, .ref (G.2.1 33)), (1, .ref (G.2.1 0)), (0, .ref b)]) hx hb dL_law_1422 hl (by decide) rfl (fun ls hl => ?_)
  refine lv_aload_n hx hb dL_law_1424 rfl (lv_at hl 4 rfl) ?_
  refine lv_aload_n hx hb dL_law_1425 rfl (lv_at hl 6 rfl) ?_
  refine lv_iload hx hb dL_law_1426 (lv_at hl 1 rfl) ?_
  refine lv_iconst (v := 1) hx hb dL_law_1428 (by decide) ?_
  refine lv_iadd hx hb dL_law_1429 ?_
  refine lc_sld K hS (j := 1) (by decide) (by unfold vp_in; decide) dL_law_1430 ?_
  refine lv_aload_n hx hb dL_law_1431 rfl (lv_at hl 6 rfl) ?_
  refine lv_iload hx hb dL_law_1432 (lv_at hl 1 rfl) ?_
  refine lv_iconst (v := 2) hx hb dL_law_1434 (by decide) ?_
  refine lv_iadd hx hb dL_law_1435 ?_
  refine lc_sld K hS (j := 2) (by decide) (by unfold vp_in; decide) dL_law_1436 ?_
  refine lv_aload_n hx hb dL_law_1437 rfl (lv_at hl 6 rfl) ?_
  refine lv_iload hx hb dL_law_1438 (lv_at hl 1 rfl) ?_
  refine lv_iconst (v := 3) hx hb dL_law_1440 (by decide) ?_
  refine lv_iadd hx hb dL_law_1441 ?_
  refine lc_sld K hS (j := 3) (by decide) (by unfold vp_in; decide) dL_law_1442 ?_
  refine lc_cz (C := RX11) (As := [.int (xs 1), .int (xs 2), .int (xs 3)]) (rest := []) K hP hPo hap1 hS (gc_X11_forcesIn l G (xs 1) (xs 2) (xs 3) o.2 o2 h11) gk_X11_forcesIn gv_1593 ⟨gv_1594, gv_1595⟩ (va_recv hT.2.1 hP (ci := 13) (q0 := 33) rfl rfl) rfl rfl (Nat.le_of_ble_eq_true rfl) hl.1 ⟨rfl, rfl⟩ ⟨Nat.le_of_ble_eq_true rfl, Nat.le_of_ble_eq_true rfl⟩ ⟨Nat.le_of_ble_eq_true rfl, Nat.le_of_ble_eq_true rfl⟩ dL_law_1443 (fun H hP hPo hS => ?_)
  refine lv_istore (lv' := [(7, .int o2.1), (6, .int r), (5, .int 0), (4, .ref hd), (3, .ref ho), (2, .ref (G.2.1 33)), (1, .ref (G.2.1 0)), (0, .ref b)]) hx hb dL_law_1446 hl (by decide) rfl (fun ls hl => ?_)
  refine lv_aload_n hx hb dL_law_1448 rfl (lv_at hl 5 rfl) ?_
  refine lc_ci (C := RX11) (As := []) (rest := []) K hP hPo hap1 hS (gc_X11_thrown l G o2.2 _ rfl) gk_X11_thrown gv_1191 ⟨gv_1192, gv_1193⟩ (va_recv hT.2.1 hP (ci := 13) (q0 := 33) rfl rfl) rfl rfl (Nat.le_of_ble_eq_true rfl) hl.1 ⟨rfl, rfl⟩ ⟨Nat.le_of_ble_eq_true rfl, Nat.le_of_ble_eq_true rfl⟩ ⟨Nat.le_of_ble_eq_true rfl, Nat.le_of_ble_eq_true rfl⟩ dL_law_1449 (fun H hP hPo hS => ?_)
  refine lv_iload hx hb dL_law_1452 (lv_at hl 1 rfl) ?_
  refine lv_icmp_eq (tgt := 1459) hx hb dL_law_1454 (by decide) (fun _ => ?_) (fun z => absurd ht z)
  refine lv_iload hx hb dL_law_1459 (lv_at hl 1 rfl) ?_
  refine lv_if_ne (tgt := 1483) hx hb dL_law_1461 (by decide) (fun _ => ?_) (fun hr0 => ?_)
  · refine lv_goto (tgt := 2737) hx hb dL_law_1483 (by decide) ?_
    exact lc_end K rfl hS (lv_sub hl [2, 7] rfl) (Nat.le_of_ble_eq_true rfl) (Nat.le_of_ble_eq_true rfl)
  · have hv := hv hr0
    refine lv_aload_n hx hb dL_law_1464 rfl (lv_at hl 4 rfl) ?_
    refine lv_iconst (v := 0) hx hb dL_law_1465 (by decide) ?_
    refine va_lald (D := G.1) hx hb hKo2 hPo 0 0 (n := 1) (f := f2) rfl rfl (by unfold vp_in; decide) dL_law_1466 ?_
    refine lv_iload hx hb dL_law_1467 (lv_at hl 0 rfl) ?_
    refine lv_if_eq (tgt := 1476) hx hb dL_law_1469 (by decide) (fun z0 => ?_) (fun z0 => ?_)
    · have hv := hv.trans (if_pos z0)
      refine lv_lconst (v := 0) hx hb dL_law_1476 (by decide) ?_
      refine W.lcmp hx hb dL_law_1477 ?_
      refine lv_if_eq (tgt := 1483) hx hb dL_law_1478 (by decide) (fun _ => ?_) (fun z => absurd (by rw [show f2 (0 : Int32).toNatClampNeg = f2 0 from rfl, hv]; exact lc_cmp _) z)
      refine lv_goto (tgt := 2737) hx hb dL_law_1483 (by decide) ?_
      exact lc_end K rfl hS (lv_sub hl [2, 7] rfl) (Nat.le_of_ble_eq_true rfl) (Nat.le_of_ble_eq_true rfl)
    · have hv := hv.trans (if_neg z0)
      refine lv_lconst (v := 1) hx hb dL_law_1472 (by decide) ?_
      refine lv_goto (tgt := 1477) hx hb dL_law_1473 (by decide) ?_
      refine W.lcmp hx hb dL_law_1477 ?_
      refine lv_if_eq (tgt := 1483) hx hb dL_law_1478 (by decide) (fun _ => ?_) (fun z => absurd (by rw [show f2 (0 : Int32).toNatClampNeg = f2 0 from rfl, hv]; exact lc_cmp _) z)
      refine lv_goto (tgt := 2737) hx hb dL_law_1483 (by decide) ?_
      exact lc_end K rfl hS (lv_sub hl [2, 7] rfl) (Nat.le_of_ble_eq_true rfl) (Nat.le_of_ble_eq_true rfl)
