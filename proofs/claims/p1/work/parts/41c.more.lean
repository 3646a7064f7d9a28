theorem gv_786 : Cond.methodLink RL 198 yL_name ∈ gw_L := gw_tab 786 (by decide +kernel) (by decide +kernel)
theorem gv_787 : Cond.static yL_name ∈ gw_L := gw_tab 787 (by decide +kernel) (by decide +kernel)
theorem gv_788 : Cond.codeWith yL_name cL_name 3 (some .int) [(0, 8, 11, 13)] ∈ gw_L := gw_tab 788 (by decide +kernel) (by decide +kernel)
theorem gv_1496 : Cond.code yX11_name cX11_name 1 (some .int) ∈ gw_L := gw_tab 1496 (by decide +kernel) (by decide +kernel)
theorem gk_X11_name : gw_K yX11_name cX11_name 1 (some .int) 0 := ⟨gv_1496, gv_10, by decide +kernel, by decide +kernel⟩
theorem gv_1493 : Cond.methodLink RL 200 yX11_name ∈ gw_L := gw_tab 1493 (by decide +kernel) (by decide +kernel)
theorem gv_1494 : Cond.instanceMethod yX11_name ∈ gw_L := gw_tab 1494 (by decide +kernel) (by decide +kernel)
theorem gv_1495 : Cond.selects RX11 yX11_name yX11_name ∈ gw_L := gw_tab 1495 (by decide +kernel) (by decide +kernel)
theorem gv_963 : Cond.methodLink RL 233 yL_atom ∈ gw_L := gw_tab 963 (by decide +kernel) (by decide +kernel)
theorem gv_964 : Cond.static yL_atom ∈ gw_L := gw_tab 964 (by decide +kernel) (by decide +kernel)
theorem gv_965 : Cond.codeWith yL_atom cL_atom 6 (some .int) [(0, 12, 15, 34), (0, 12, 19, 13)] ∈ gw_L := gw_tab 965 (by decide +kernel) (by decide +kernel)
theorem gv_1608 : Cond.code yX11_atom cX11_atom 4 (some .int) ∈ gw_L := gw_tab 1608 (by decide +kernel) (by decide +kernel)
theorem gk_X11_atom : gw_K yX11_atom cX11_atom 4 (some .int) 3 := ⟨gv_1608, gv_10, by decide +kernel, by decide +kernel⟩
theorem gv_1605 : Cond.methodLink RL 236 yX11_atom ∈ gw_L := gw_tab 1605 (by decide +kernel) (by decide +kernel)
theorem gv_1606 : Cond.instanceMethod yX11_atom ∈ gw_L := gw_tab 1606 (by decide +kernel) (by decide +kernel)
theorem gv_1607 : Cond.selects RX11 yX11_atom yX11_atom ∈ gw_L := gw_tab 1607 (by decide +kernel) (by decide +kernel)
theorem ev_t0 (a : Int32) (h : a < 100 ∨ (104 : Int32) ≤ a) : f_X8_needTerm a lo_z = some (.inr "java/lang/IllegalArgumentException", lo_z) := by
  have e : f_X8_isLetter a lo_z = some (0, lo_z) := by
    unfold f_X8_isLetter
    by_cases h1 : a < 100
    · exact if_pos h1
    · exact (if_neg h1).trans (if_pos (h.resolve_left h1))
  unfold f_X8_needTerm
  rw [ev_k2]
  show ((f_X8_isLetter a lo_z).bind _) = _
  rw [e]
  rfl
theorem ev_t1 (a : Int32) (h : ¬ (a < 100 ∨ (104 : Int32) ≤ a)) : f_X8_needTerm a lo_z = some (.inl (), lo_z) := by
  have e : f_X8_isLetter a lo_z = some (1, lo_z) := by
    unfold f_X8_isLetter
    exact (if_neg (fun z => h (Or.inl z))).trans (if_neg (fun z => h (Or.inr z)))
  unfold f_X8_needTerm
  rw [ev_k2]
  show ((f_X8_isLetter a lo_z).bind _) = _
  rw [e]
  rfl
theorem mt_le {a : Int32} (h : (103 : Int32) < a) : (104 : Int32) ≤ a := by
  rw [Int32.lt_iff_toInt_lt] at h
  rw [Int32.le_iff_toInt_le]
  have e3 : (103 : Int32).toInt = 103 := rfl
  have e4 : (104 : Int32).toInt = 104 := rfl
  omega
theorem mt_lt {a : Int32} (h : (104 : Int32) ≤ a) : (103 : Int32) < a := by
  rw [Int32.le_iff_toInt_le] at h
  rw [Int32.lt_iff_toInt_lt]
  have e3 : (103 : Int32).toInt = 103 := rfl
  have e4 : (104 : Int32).toInt = 104 := rfl
  omega
theorem mt_N (a : Int32) (σ : gw_S) (h : σ 35 2 = 0) : f_X11_isName a σ = some (0, σ) := by
  unfold f_X11_isName f_Jx4a65c_size_8abf5_35
  show ((f_X11_isIn a 0 (σ 35 2 - 1) σ).bind _) = _
  rw [h, mv_in]
  rfl
theorem mt_T1 (a : Int32) (σ : gw_S) (h35 : σ 35 2 = 0) (h : ¬ (a < 100 ∨ (104 : Int32) ≤ a)) : f_X11_isTerm a σ = some (1, σ) := by
  have e : f_X11_isIn a 100 103 σ = some (1, σ) := by
    unfold f_X11_isIn
    exact (if_neg (fun z => h (Or.inl z))).trans (if_neg (fun z => h (Or.inr (mt_le z))))
  unfold f_X11_isTerm
  rw [mt_N a σ h35]
  show ((f_X11_isIn a 100 103 σ).bind _) = _
  rw [e]
  rfl
theorem mt_T0 (a : Int32) (h : a < 100 ∨ (104 : Int32) ≤ a) : f_X11_isTerm a lo_z = some (0, lo_z) := by
  have e : f_X11_isIn a 100 103 lo_z = some (0, lo_z) := by
    unfold f_X11_isIn
    by_cases h1 : a < 100
    · exact if_pos h1
    · exact (if_neg h1).trans (if_pos (mt_lt (h.resolve_left h1)))
  unfold f_X11_isTerm
  rw [mt_N a lo_z rfl]
  show ((f_X11_isIn a 100 103 lo_z).bind _) = _
  rw [e]
  rfl
theorem ev_T {a : Int32} (h : ¬ (a < 100 ∨ (104 : Int32) ≤ a)) : a ∈ ([100, 101, 102, 103] : List Int32) := by
  have z1 : ¬ a.toInt < 100 := fun z => h (Or.inl (Int32.lt_iff_toInt_lt.mpr z))
  have z2 : ¬ 104 ≤ a.toInt := fun z => h (Or.inr (Int32.le_iff_toInt_le.mpr z))
  have z3 : a.toInt = 100 ∨ a.toInt = 101 ∨ a.toInt = 102 ∨ a.toInt = 103 := by omega
  rcases z3 with z | z | z | z
  · rw [show a = 100 from Int32.toInt_inj.mp (z.trans rfl)]; decide
  · rw [show a = 101 from Int32.toInt_inj.mp (z.trans rfl)]; decide
  · rw [show a = 102 from Int32.toInt_inj.mp (z.trans rfl)]; decide
  · rw [show a = 103 from Int32.toInt_inj.mp (z.trans rfl)]; decide
theorem ev_A : ∀ c ∈ ([101, 61] : List Int32), ∀ a ∈ ([100, 101, 102, 103] : List Int32), ∀ b ∈ ([100, 101, 102, 103] : List Int32), (f_X8_atom c a b lo_z).map (fun o => (o.1, o.2 35 2, o.2 36 0, o.2 36 2)) = some (.inl 0, 0, 0, 0) := by decide +kernel
theorem ev8_atom (c a b : Int32) (h : ¬ (c = 101 ∨ c = 61) ∨ (a < 100 ∨ (104 : Int32) ≤ a) ∨ (b < 100 ∨ (104 : Int32) ≤ b)) : f_X8_atom c a b lo_z = some (.inr "java/lang/IllegalArgumentException", lo_z) := by
  unfold f_X8_atom
  by_cases c1 : c = 101
  · refine (if_pos c1).trans ?_
    have h := h.resolve_left (fun z => z (Or.inl c1))
    by_cases ha : a < 100 ∨ (104 : Int32) ≤ a
    · rw [ev_t0 a ha]
      rfl
    · rw [ev_t1 a ha]
      show ((f_X8_needTerm b lo_z).bind _) = _
      rw [ev_t0 b (h.resolve_left ha)]
      rfl
  · refine (if_neg c1).trans ?_
    by_cases c2 : c = 61
    · refine (if_pos c2).trans ?_
      have h := h.resolve_left (fun z => z (Or.inr c2))
      by_cases ha : a < 100 ∨ (104 : Int32) ≤ a
      · rw [ev_t0 a ha]
        rfl
      · rw [ev_t1 a ha]
        show ((f_X8_needTerm b lo_z).bind _) = _
        rw [ev_t0 b (h.resolve_left ha)]
        rfl
    · exact if_neg c2
theorem mv8_atom (c a b : Int32) (h : ¬ (c = 101 ∨ c = 61) ∨ (a < 100 ∨ (104 : Int32) ≤ a) ∨ (b < 100 ∨ (104 : Int32) ≤ b)) : f_X11_atom c a b lo_z = some (0, gw_up lo_z 33 4 1) := by
  unfold f_X11_atom
  by_cases c1 : c = 101
  · refine (if_pos c1).trans ?_
    have h := h.resolve_left (fun z => z (Or.inl c1))
    by_cases ha : a < 100 ∨ (104 : Int32) ≤ a
    · rw [mt_T0 a ha]
      rfl
    · rw [mt_T1 a lo_z rfl ha]
      show ((f_X11_isTerm b lo_z).bind _) = _
      rw [mt_T0 b (h.resolve_left ha)]
      rfl
  · refine (if_neg c1).trans ?_
    by_cases c2 : c = 61
    · refine (if_pos c2).trans ?_
      have h := h.resolve_left (fun z => z (Or.inr c2))
      by_cases ha : a < 100 ∨ (104 : Int32) ≤ a
      · rw [mt_T0 a ha]
        rfl
      · rw [mt_T1 a lo_z rfl ha]
        show ((f_X11_isTerm b lo_z).bind _) = _
        rw [mt_T0 b (h.resolve_left ha)]
        rfl
    · exact (if_neg c2).trans rfl
set_option maxHeartbeats 4000000 in
set_option maxRecDepth 100000 in
theorem la_14_name (l : Launch) (hfl : l.stackTraces = false) {p : Program} {e : Env} {s : State} {m : MethodId} {below : List Frame} {meth : Method} {c : Code} {H : Heap} {b : Nat} {xs : Nat → Int32} {G : gw_G} {cL cD : ClassId} {ho hd : Nat} {ls : Array Slot} (K : lc_C p s m meth c b 5 xs G cL cD ho hd) (hP : gw_P G lo_z H) (hPo : va_P G.1 vwCl [(ho, .inl (cL, 1, .inr (.inl (fun _ => 0))))] H) (hS : va_S (fun q => s.heap.size ≤ q) s.heap H []) (hl : lv_has ls 9 [(5, .int 0), (4, .ref hd), (3, .ref ho), (2, .ref (G.2.1 33)), (1, .ref (G.2.1 0)), (0, .ref b)]) (hY : lm_Y (G.2.1 99) (fun q => s.heap.size ≤ q) s s.heap) (f2 : Nat → Int64) (o : (Int32 ⊕ String) × gw_S) (h8 : f_X8_name lo_z = some o) (hw : w_name (fun _ => 0) o.1 = some (0, f2)) (e1 : o.2 35 0 = 0) (e2 : o.2 35 2 = 0) (hv : f2 0 = (0 : Int32).toInt64) : W p l e room_1 s m #[Value.ref b] below meth c H [] 40 1183 (lw_Z below #[Value.ref b] s) (F0 m 903 ls []) := by
  obtain ⟨X, -, -, -, -, hKo2, -, hap1, hap2, -, -, hg1, hg2⟩ := id K
  obtain ⟨hx, hb, -, hown, hts, hT, -⟩ := id X
  refine lv_aload_n hx hb dL_law_903 rfl (lv_at hl 4 rfl) ?_
  refine lv_aload_n hx hb dL_law_904 rfl (lv_at hl 2 rfl) ?_
  refine lc_call (n := 2) (hq := ho) (x := .inl (cL, 1, .inr (.inl (fun _ => 0)))) (As := [.ref (G.2.1 0), .ref ho]) (rest := []) K hP hPo hS (hKo2.sub [0] rfl) hap1 hg1 (gl_name l hfl G cL ho (fun _ => 0) f2 0 lo_z o h8 hw) ⟨gv_788, gv_0, by decide +kernel, by decide +kernel⟩ gv_786 gv_787 rfl rfl (Nat.le_of_ble_eq_true rfl) hl.1 ⟨rfl, rfl⟩ ⟨Nat.le_of_ble_eq_true rfl, Nat.le_of_ble_eq_true rfl⟩ ⟨Nat.le_of_ble_eq_true rfl, Nat.le_of_ble_eq_true rfl⟩ dL_law_905 (fun H hP hPo _ hS => ?_)
  refine lv_istore (lv' := [(6, .int 0), (5, .int 0), (4, .ref hd), (3, .ref ho), (2, .ref (G.2.1 33)), (1, .ref (G.2.1 0)), (0, .ref b)]) hx hb dL_law_908 hl (by decide) rfl (fun ls hl => ?_)
  refine lv_aload_n hx hb dL_law_910 rfl (lv_at hl 4 rfl) ?_
  refine lc_add (As := []) (rest := []) K hY hP hPo hap1 hS (lm_name l G o.2 e1 e2) gk_X11_name gv_1493 ⟨gv_1494, gv_1495⟩ rfl rfl (Nat.le_of_ble_eq_true rfl) hl.1 ⟨rfl, rfl⟩ ⟨Nat.le_of_ble_eq_true rfl, Nat.le_of_ble_eq_true rfl⟩ ⟨Nat.le_of_ble_eq_true rfl, Nat.le_of_ble_eq_true rfl⟩ dL_law_911 (fun H h3 hPo hS => ?_)
  refine lv_istore (lv' := [(7, .int 0), (6, .int 0), (5, .int 0), (4, .ref hd), (3, .ref ho), (2, .ref (G.2.1 33)), (1, .ref (G.2.1 0)), (0, .ref b)]) hx hb dL_law_914 hl (by decide) rfl (fun ls hl => ?_)
  refine lv_aload_n hx hb dL_law_916 rfl (lv_at hl 5 rfl) ?_
  refine lc_thr (rest := []) K h3 hPo hS rfl (Nat.le_of_ble_eq_true rfl) hl.1 ⟨Nat.le_of_ble_eq_true rfl, Nat.le_of_ble_eq_true rfl⟩ dL_law_917 (fun H hPo hS => ?_)
  refine lv_iload hx hb dL_law_920 (lv_at hl 1 rfl) ?_
  refine lv_icmp_eq (tgt := 927) hx hb dL_law_922 (by decide) (fun _ => ?_) (fun z => absurd rfl z)
  refine lv_iload hx hb dL_law_927 (lv_at hl 1 rfl) ?_
  refine lv_if_ne (tgt := 944) hx hb dL_law_929 (by decide) (fun z => absurd rfl z) (fun _ => ?_)
  refine lv_aload_n hx hb dL_law_932 rfl (lv_at hl 4 rfl) ?_
  refine lv_iconst (v := 0) hx hb dL_law_933 (by decide) ?_
  refine va_lald (D := G.1) hx hb hKo2 hPo 0 0 (n := 1) (f := f2) rfl rfl (by unfold vp_in; decide) dL_law_934 ?_
  refine lv_iload hx hb dL_law_935 (lv_at hl 0 rfl) ?_
  refine lv_i2l hx hb dL_law_937 rfl ?_
  refine W.lcmp hx hb dL_law_938 ?_
  refine lv_if_eq (tgt := 944) hx hb dL_law_939 (by decide) (fun _ => ?_) (fun z => absurd (by rw [show f2 (0 : Int32).toNatClampNeg = f2 0 from rfl, hv]; exact lc_cmp _) z)
  refine lv_goto (tgt := 2737) hx hb dL_law_944 (by decide) ?_
  exact lc_end K rfl hS (lv_sub hl [2, 7] rfl) (Nat.le_of_ble_eq_true rfl) (Nat.le_of_ble_eq_true rfl)
theorem lz_14 (l : Launch) (hfl : l.stackTraces = false) {p : Program} {e : Env} {s : State} {m : MethodId} {below : List Frame} {meth : Method} {c : Code} {H : Heap} {b : Nat} {xs : Nat → Int32} {G : gw_G} {cL cD : ClassId} {ho hd : Nat} {ls : Array Slot} (K : lc_C p s m meth c b 5 xs G cL cD ho hd) (hY : lm_Y (G.2.1 99) (fun q => s.heap.size ≤ q) s s.heap) (hP : gw_P G lo_z H) (hPo : va_P G.1 vwCl [(ho, .inl (cL, 1, .inr (.inl (fun _ => 0))))] H) (hS : va_S (fun q => s.heap.size ≤ q) s.heap H []) (hl : lv_has ls 9 [(5, .int 0), (4, .ref hd), (3, .ref ho), (2, .ref (G.2.1 33)), (1, .ref (G.2.1 0)), (0, .ref b)]) : W p l e room_1 s m #[Value.ref b] below meth c H [] 40 1183 (lw_Z below #[Value.ref b] s) (F0 m 903 ls []) := by
  have h : (f_X8_name lo_z).map (fun o => (o.1, o.2 35 0, o.2 35 2)) = some (.inl 0, 0, 0) := by decide +kernel
  obtain ⟨o, h8, h9⟩ := Option.map_eq_some_iff.mp h
  injection h9 with e0 h9
  injection h9 with e1 e2
  exact la_14_name l hfl K hP hPo hS hl hY _ o h8 (by rw [e0]; rfl) e1 e2 (by decide +kernel)
set_option maxHeartbeats 4000000 in
set_option maxRecDepth 100000 in
theorem lc_25_atom (l : Launch) (hfl : l.stackTraces = false) {p : Program} {e : Env} {s : State} {m : MethodId} {below : List Frame} {meth : Method} {c : Code} {H : Heap} {b : Nat} {xs : Nat → Int32} {G : gw_G} {cL cD : ClassId} {ho hd : Nat} {ls : Array Slot} (K : lc_C p s m meth c b 5 xs G cL cD ho hd) (hP : gw_P G lo_z H) (hPo : va_P G.1 vwCl [(ho, .inl (cL, 1, .inr (.inl (fun _ => 0))))] H) (hS : va_S (fun q => s.heap.size ≤ q) s.heap H []) (hl : lv_has ls 9 [(5, .int 0), (4, .ref hd), (3, .ref ho), (2, .ref (G.2.1 33)), (1, .ref (G.2.1 0)), (0, .ref b)]) (r : Int32) (f2 : Nat → Int64) (o : (Int32 ⊕ String) × gw_S) (h8 : f_X8_atom ((xs 1).toUInt32 % 65536).toInt32 (xs 2) (xs 3) lo_z = some o) (hw : w_atom (fun _ => 0) o.1 = some (r, f2)) (o2 : Int32 × gw_S) (h11 : f_X11_atom ((xs 1).toUInt32 % 65536).toInt32 (xs 2) (xs 3) o.2 = some o2) (ht : o2.2 33 4 = r) (hv : r = 0 → f2 0 = o2.1.toInt64) : W p l e room_1 s m #[Value.ref b] below meth c H [] 40 1183 (lw_Z below #[Value.ref b] s) (F0 m 1665 ls []) := by
  obtain ⟨X, -, -, -, -, hKo2, -, hap1, hap2, -, -, hg1, hg2⟩ := id K
  obtain ⟨hx, hb, -, hown, hts, hT, -⟩ := id X
  refine lv_aload_n hx hb dL_law_1665 rfl (lv_at hl 4 rfl) ?_
  refine lv_aload_n hx hb dL_law_1666 rfl (lv_at hl 5 rfl) ?_
  refine lv_iload hx hb dL_law_1667 (lv_at hl 0 rfl) ?_
  refine lv_iconst (v := 1) hx hb dL_law_1669 (by decide) ?_
  refine lv_iadd hx hb dL_law_1670 ?_
  refine lc_sld K hS (j := 1) (by decide) (by unfold vp_in; decide) dL_law_1671 ?_
  refine lv_i2c hx hb dL_law_1672 rfl ?_
  refine lv_aload_n hx hb dL_law_1673 rfl (lv_at hl 5 rfl) ?_
  refine lv_iload hx hb dL_law_1674 (lv_at hl 0 rfl) ?_
  refine lv_iconst (v := 2) hx hb dL_law_1676 (by decide) ?_
  refine lv_iadd hx hb dL_law_1677 ?_
  refine lc_sld K hS (j := 2) (by decide) (by unfold vp_in; decide) dL_law_1678 ?_
  refine lv_aload_n hx hb dL_law_1679 rfl (lv_at hl 5 rfl) ?_
  refine lv_iload hx hb dL_law_1680 (lv_at hl 0 rfl) ?_
  refine lv_iconst (v := 3) hx hb dL_law_1682 (by decide) ?_
  refine lv_iadd hx hb dL_law_1683 ?_
  refine lc_sld K hS (j := 3) (by decide) (by unfold vp_in; decide) dL_law_1684 ?_
  refine lv_aload_n hx hb dL_law_1685 rfl (lv_at hl 2 rfl) ?_
  refine lc_call (n := 5) (hq := ho) (x := .inl (cL, 1, .inr (.inl (fun _ => 0)))) (As := [.ref (G.2.1 0), .int ((xs 1).toUInt32 % 65536).toInt32, .int (xs 2), .int (xs 3), .ref ho]) (rest := []) K hP hPo hS (hKo2.sub [0] rfl) hap1 hg1 (gl_atom l hfl G ((xs 1).toUInt32 % 65536).toInt32 (xs 2) (xs 3) cL ho (fun _ => 0) f2 r lo_z o h8 hw) ⟨gv_965, gv_0, by decide +kernel, by decide +kernel⟩ gv_963 gv_964 rfl rfl (Nat.le_of_ble_eq_true rfl) hl.1 ⟨rfl, rfl⟩ ⟨Nat.le_of_ble_eq_true rfl, Nat.le_of_ble_eq_true rfl⟩ ⟨Nat.le_of_ble_eq_true rfl, Nat.le_of_ble_eq_true rfl⟩ dL_law_1686 (fun H hP hPo _ hS => ?_)
  refine lv_istore (lv' := [(6, .int r), (5, .int 0), (4, .ref hd), (3, .ref ho), (2, .ref (G.2.1 33)), (1, .ref (G.2.1 0)), (0, .ref b)]) hx hb dL_law_1689 hl (by decide) rfl (fun ls hl => ?_)
  refine lv_aload_n hx hb dL_law_1691 rfl (lv_at hl 4 rfl) ?_
  refine lv_aload_n hx hb dL_law_1692 rfl (lv_at hl 6 rfl) ?_
  refine lv_iload hx hb dL_law_1693 (lv_at hl 1 rfl) ?_
  refine lv_iconst (v := 1) hx hb dL_law_1695 (by decide) ?_
  refine lv_iadd hx hb dL_law_1696 ?_
  refine lc_sld K hS (j := 1) (by decide) (by unfold vp_in; decide) dL_law_1697 ?_
  refine lv_i2c hx hb dL_law_1698 rfl ?_
  refine lv_aload_n hx hb dL_law_1699 rfl (lv_at hl 6 rfl) ?_
  refine lv_iload hx hb dL_law_1700 (lv_at hl 1 rfl) ?_
  refine lv_iconst (v := 2) hx hb dL_law_1702 (by decide) ?_
  refine lv_iadd hx hb dL_law_1703 ?_
  refine lc_sld K hS (j := 2) (by decide) (by unfold vp_in; decide) dL_law_1704 ?_
  refine lv_aload_n hx hb dL_law_1705 rfl (lv_at hl 6 rfl) ?_
  refine lv_iload hx hb dL_law_1706 (lv_at hl 1 rfl) ?_
  refine lv_iconst (v := 3) hx hb dL_law_1708 (by decide) ?_
  refine lv_iadd hx hb dL_law_1709 ?_
  refine lc_sld K hS (j := 3) (by decide) (by unfold vp_in; decide) dL_law_1710 ?_
  refine lc_ci (C := RX11) (As := [.int (((xs 1)).toUInt32 % 65536).toInt32, .int (xs 2), .int (xs 3)]) (rest := []) K hP hPo hap1 hS (gc_X11_atom l G ((xs 1).toUInt32 % 65536).toInt32 (xs 2) (xs 3) o.2 o2 h11) gk_X11_atom gv_1605 ⟨gv_1606, gv_1607⟩ (va_recv hT.2.1 hP (ci := 13) (q0 := 33) rfl rfl) rfl rfl (Nat.le_of_ble_eq_true rfl) hl.1 ⟨rfl, rfl⟩ ⟨Nat.le_of_ble_eq_true rfl, Nat.le_of_ble_eq_true rfl⟩ ⟨Nat.le_of_ble_eq_true rfl, Nat.le_of_ble_eq_true rfl⟩ dL_law_1711 (fun H hP hPo hS => ?_)
  refine lv_istore (lv' := [(7, .int o2.1), (6, .int r), (5, .int 0), (4, .ref hd), (3, .ref ho), (2, .ref (G.2.1 33)), (1, .ref (G.2.1 0)), (0, .ref b)]) hx hb dL_law_1714 hl (by decide) rfl (fun ls hl => ?_)
  refine lv_aload_n hx hb dL_law_1716 rfl (lv_at hl 5 rfl) ?_
  refine lc_ci (C := RX11) (As := []) (rest := []) K hP hPo hap1 hS (gc_X11_thrown l G o2.2 _ rfl) gk_X11_thrown gv_1191 ⟨gv_1192, gv_1193⟩ (va_recv hT.2.1 hP (ci := 13) (q0 := 33) rfl rfl) rfl rfl (Nat.le_of_ble_eq_true rfl) hl.1 ⟨rfl, rfl⟩ ⟨Nat.le_of_ble_eq_true rfl, Nat.le_of_ble_eq_true rfl⟩ ⟨Nat.le_of_ble_eq_true rfl, Nat.le_of_ble_eq_true rfl⟩ dL_law_1717 (fun H hP hPo hS => ?_)
  refine lv_iload hx hb dL_law_1720 (lv_at hl 1 rfl) ?_
  refine lv_icmp_eq (tgt := 1727) hx hb dL_law_1722 (by decide) (fun _ => ?_) (fun z => absurd ht z)
  refine lv_iload hx hb dL_law_1727 (lv_at hl 1 rfl) ?_
  refine lv_if_ne (tgt := 1744) hx hb dL_law_1729 (by decide) (fun _ => ?_) (fun hr0 => ?_)
  · refine lv_goto (tgt := 2737) hx hb dL_law_1744 (by decide) ?_
    exact lc_end K rfl hS (lv_sub hl [2, 7] rfl) (Nat.le_of_ble_eq_true rfl) (Nat.le_of_ble_eq_true rfl)
  · have hv := hv hr0
    refine lv_aload_n hx hb dL_law_1732 rfl (lv_at hl 4 rfl) ?_
    refine lv_iconst (v := 0) hx hb dL_law_1733 (by decide) ?_
    refine va_lald (D := G.1) hx hb hKo2 hPo 0 0 (n := 1) (f := f2) rfl rfl (by unfold vp_in; decide) dL_law_1734 ?_
    refine lv_iload hx hb dL_law_1735 (lv_at hl 0 rfl) ?_
    refine lv_i2l hx hb dL_law_1737 rfl ?_
    refine W.lcmp hx hb dL_law_1738 ?_
    refine lv_if_eq (tgt := 1744) hx hb dL_law_1739 (by decide) (fun _ => ?_) (fun z => absurd (by rw [show f2 (0 : Int32).toNatClampNeg = f2 0 from rfl, hv]; exact lc_cmp _) z)
    refine lv_goto (tgt := 2737) hx hb dL_law_1744 (by decide) ?_
    exact lc_end K rfl hS (lv_sub hl [2, 7] rfl) (Nat.le_of_ble_eq_true rfl) (Nat.le_of_ble_eq_true rfl)
set_option maxHeartbeats 4000000 in
set_option maxRecDepth 100000 in
theorem la_25_atom (l : Launch) (hfl : l.stackTraces = false) {p : Program} {e : Env} {s : State} {m : MethodId} {below : List Frame} {meth : Method} {c : Code} {H : Heap} {b : Nat} {xs : Nat → Int32} {G : gw_G} {cL cD : ClassId} {ho hd : Nat} {ls : Array Slot} (K : lc_C p s m meth c b 5 xs G cL cD ho hd) (hP : gw_P G lo_z H) (hPo : va_P G.1 vwCl [(ho, .inl (cL, 1, .inr (.inl (fun _ => 0))))] H) (hS : va_S (fun q => s.heap.size ≤ q) s.heap H []) (hl : lv_has ls 9 [(5, .int 0), (4, .ref hd), (3, .ref ho), (2, .ref (G.2.1 33)), (1, .ref (G.2.1 0)), (0, .ref b)]) (hY : lm_Y (G.2.1 99) (fun q => s.heap.size ≤ q) s s.heap) (f2 : Nat → Int64) (o : (Int32 ⊕ String) × gw_S) (h8 : f_X8_atom ((xs 1).toUInt32 % 65536).toInt32 (xs 2) (xs 3) lo_z = some o) (hw : w_atom (fun _ => 0) o.1 = some (0, f2)) (hc : ((xs 1).toUInt32 % 65536).toInt32 = 101 ∨ ((xs 1).toUInt32 % 65536).toInt32 = 61) (hta : f_X11_isTerm (xs 2) o.2 = some (1, o.2)) (htb : f_X11_isTerm (xs 3) o.2 = some (1, o.2)) (e1 : o.2 36 0 = 0) (e2 : o.2 36 2 = 0) (hv : f2 0 = (0 : Int32).toInt64) : W p l e room_1 s m #[Value.ref b] below meth c H [] 40 1183 (lw_Z below #[Value.ref b] s) (F0 m 1665 ls []) := by
  obtain ⟨X, -, -, -, -, hKo2, -, hap1, hap2, -, -, hg1, hg2⟩ := id K
  obtain ⟨hx, hb, -, hown, hts, hT, -⟩ := id X
  refine lv_aload_n hx hb dL_law_1665 rfl (lv_at hl 4 rfl) ?_
  refine lv_aload_n hx hb dL_law_1666 rfl (lv_at hl 5 rfl) ?_
  refine lv_iload hx hb dL_law_1667 (lv_at hl 0 rfl) ?_
  refine lv_iconst (v := 1) hx hb dL_law_1669 (by decide) ?_
  refine lv_iadd hx hb dL_law_1670 ?_
  refine lc_sld K hS (j := 1) (by decide) (by unfold vp_in; decide) dL_law_1671 ?_
  refine lv_i2c hx hb dL_law_1672 rfl ?_
  refine lv_aload_n hx hb dL_law_1673 rfl (lv_at hl 5 rfl) ?_
  refine lv_iload hx hb dL_law_1674 (lv_at hl 0 rfl) ?_
  refine lv_iconst (v := 2) hx hb dL_law_1676 (by decide) ?_
  refine lv_iadd hx hb dL_law_1677 ?_
  refine lc_sld K hS (j := 2) (by decide) (by unfold vp_in; decide) dL_law_1678 ?_
  refine lv_aload_n hx hb dL_law_1679 rfl (lv_at hl 5 rfl) ?_
  refine lv_iload hx hb dL_law_1680 (lv_at hl 0 rfl) ?_
  refine lv_iconst (v := 3) hx hb dL_law_1682 (by decide) ?_
  refine lv_iadd hx hb dL_law_1683 ?_
  refine lc_sld K hS (j := 3) (by decide) (by unfold vp_in; decide) dL_law_1684 ?_
  refine lv_aload_n hx hb dL_law_1685 rfl (lv_at hl 2 rfl) ?_
  refine lc_call (n := 5) (hq := ho) (x := .inl (cL, 1, .inr (.inl (fun _ => 0)))) (As := [.ref (G.2.1 0), .int ((xs 1).toUInt32 % 65536).toInt32, .int (xs 2), .int (xs 3), .ref ho]) (rest := []) K hP hPo hS (hKo2.sub [0] rfl) hap1 hg1 (gl_atom l hfl G ((xs 1).toUInt32 % 65536).toInt32 (xs 2) (xs 3) cL ho (fun _ => 0) f2 0 lo_z o h8 hw) ⟨gv_965, gv_0, by decide +kernel, by decide +kernel⟩ gv_963 gv_964 rfl rfl (Nat.le_of_ble_eq_true rfl) hl.1 ⟨rfl, rfl⟩ ⟨Nat.le_of_ble_eq_true rfl, Nat.le_of_ble_eq_true rfl⟩ ⟨Nat.le_of_ble_eq_true rfl, Nat.le_of_ble_eq_true rfl⟩ dL_law_1686 (fun H hP hPo _ hS => ?_)
  refine lv_istore (lv' := [(6, .int 0), (5, .int 0), (4, .ref hd), (3, .ref ho), (2, .ref (G.2.1 33)), (1, .ref (G.2.1 0)), (0, .ref b)]) hx hb dL_law_1689 hl (by decide) rfl (fun ls hl => ?_)
  refine lv_aload_n hx hb dL_law_1691 rfl (lv_at hl 4 rfl) ?_
  refine lv_aload_n hx hb dL_law_1692 rfl (lv_at hl 6 rfl) ?_
  refine lv_iload hx hb dL_law_1693 (lv_at hl 1 rfl) ?_
  refine lv_iconst (v := 1) hx hb dL_law_1695 (by decide) ?_
  refine lv_iadd hx hb dL_law_1696 ?_
  refine lc_sld K hS (j := 1) (by decide) (by unfold vp_in; decide) dL_law_1697 ?_
  refine lv_i2c hx hb dL_law_1698 rfl ?_
  refine lv_aload_n hx hb dL_law_1699 rfl (lv_at hl 6 rfl) ?_
  refine lv_iload hx hb dL_law_1700 (lv_at hl 1 rfl) ?_
  refine lv_iconst (v := 2) hx hb dL_law_1702 (by decide) ?_
  refine lv_iadd hx hb dL_law_1703 ?_
  refine lc_sld K hS (j := 2) (by decide) (by unfold vp_in; decide) dL_law_1704 ?_
  refine lv_aload_n hx hb dL_law_1705 rfl (lv_at hl 6 rfl) ?_
  refine lv_iload hx hb dL_law_1706 (lv_at hl 1 rfl) ?_
  refine lv_iconst (v := 3) hx hb dL_law_1708 (by decide) ?_
  refine lv_iadd hx hb dL_law_1709 ?_
  refine lc_sld K hS (j := 3) (by decide) (by unfold vp_in; decide) dL_law_1710 ?_
  refine lc_add (As := [.int (((xs 1)).toUInt32 % 65536).toInt32, .int (xs 2), .int (xs 3)]) (rest := []) K hY hP hPo hap1 hS (lm_atom l G ((xs 1).toUInt32 % 65536).toInt32 (xs 2) (xs 3) o.2 hc hta htb e1 e2) gk_X11_atom gv_1605 ⟨gv_1606, gv_1607⟩ rfl rfl (Nat.le_of_ble_eq_true rfl) hl.1 ⟨rfl, rfl⟩ ⟨Nat.le_of_ble_eq_true rfl, Nat.le_of_ble_eq_true rfl⟩ ⟨Nat.le_of_ble_eq_true rfl, Nat.le_of_ble_eq_true rfl⟩ dL_law_1711 (fun H h3 hPo hS => ?_)
  refine lv_istore (lv' := [(7, .int 0), (6, .int 0), (5, .int 0), (4, .ref hd), (3, .ref ho), (2, .ref (G.2.1 33)), (1, .ref (G.2.1 0)), (0, .ref b)]) hx hb dL_law_1714 hl (by decide) rfl (fun ls hl => ?_)
  refine lv_aload_n hx hb dL_law_1716 rfl (lv_at hl 5 rfl) ?_
  refine lc_thr (rest := []) K h3 hPo hS rfl (Nat.le_of_ble_eq_true rfl) hl.1 ⟨Nat.le_of_ble_eq_true rfl, Nat.le_of_ble_eq_true rfl⟩ dL_law_1717 (fun H hPo hS => ?_)
  refine lv_iload hx hb dL_law_1720 (lv_at hl 1 rfl) ?_
  refine lv_icmp_eq (tgt := 1727) hx hb dL_law_1722 (by decide) (fun _ => ?_) (fun z => absurd rfl z)
  refine lv_iload hx hb dL_law_1727 (lv_at hl 1 rfl) ?_
  refine lv_if_ne (tgt := 1744) hx hb dL_law_1729 (by decide) (fun z => absurd rfl z) (fun _ => ?_)
  refine lv_aload_n hx hb dL_law_1732 rfl (lv_at hl 4 rfl) ?_
  refine lv_iconst (v := 0) hx hb dL_law_1733 (by decide) ?_
  refine va_lald (D := G.1) hx hb hKo2 hPo 0 0 (n := 1) (f := f2) rfl rfl (by unfold vp_in; decide) dL_law_1734 ?_
  refine lv_iload hx hb dL_law_1735 (lv_at hl 0 rfl) ?_
  refine lv_i2l hx hb dL_law_1737 rfl ?_
  refine W.lcmp hx hb dL_law_1738 ?_
  refine lv_if_eq (tgt := 1744) hx hb dL_law_1739 (by decide) (fun _ => ?_) (fun z => absurd (by rw [show f2 (0 : Int32).toNatClampNeg = f2 0 from rfl, hv]; exact lc_cmp _) z)
  refine lv_goto (tgt := 2737) hx hb dL_law_1744 (by decide) ?_
  exact lc_end K rfl hS (lv_sub hl [2, 7] rfl) (Nat.le_of_ble_eq_true rfl) (Nat.le_of_ble_eq_true rfl)
theorem lz_25 (l : Launch) (hfl : l.stackTraces = false) {p : Program} {e : Env} {s : State} {m : MethodId} {below : List Frame} {meth : Method} {c : Code} {H : Heap} {b : Nat} {xs : Nat → Int32} {G : gw_G} {cL cD : ClassId} {ho hd : Nat} {ls : Array Slot} (K : lc_C p s m meth c b 5 xs G cL cD ho hd) (hY : lm_Y (G.2.1 99) (fun q => s.heap.size ≤ q) s s.heap) (hP : gw_P G lo_z H) (hPo : va_P G.1 vwCl [(ho, .inl (cL, 1, .inr (.inl (fun _ => 0))))] H) (hS : va_S (fun q => s.heap.size ≤ q) s.heap H []) (hl : lv_has ls 9 [(5, .int 0), (4, .ref hd), (3, .ref ho), (2, .ref (G.2.1 33)), (1, .ref (G.2.1 0)), (0, .ref b)]) : W p l e room_1 s m #[Value.ref b] below meth c H [] 40 1183 (lw_Z below #[Value.ref b] s) (F0 m 1665 ls []) := by
  by_cases hc : ((xs 1).toUInt32 % 65536).toInt32 = 101 ∨ ((xs 1).toUInt32 % 65536).toInt32 = 61
  · by_cases ha : xs 2 < 100 ∨ (104 : Int32) ≤ xs 2
    · exact lc_25_atom l hfl K hP hPo hS hl 1 (fun _ => 0) _ (ev8_atom _ _ _ (Or.inr (Or.inl ha))) (show w_atom (fun _ => 0) (.inr "java/lang/IllegalArgumentException") = some (1, fun _ => 0) by unfold w_atom; exact if_pos rfl) _ (mv8_atom _ _ _ (Or.inr (Or.inl ha))) rfl (fun h => absurd h (by decide))
    · by_cases hb : xs 3 < 100 ∨ (104 : Int32) ≤ xs 3
      · exact lc_25_atom l hfl K hP hPo hS hl 1 (fun _ => 0) _ (ev8_atom _ _ _ (Or.inr (Or.inr hb))) (show w_atom (fun _ => 0) (.inr "java/lang/IllegalArgumentException") = some (1, fun _ => 0) by unfold w_atom; exact if_pos rfl) _ (mv8_atom _ _ _ (Or.inr (Or.inr hb))) rfl (fun h => absurd h (by decide))
      · have hg := ev_A ((xs 1).toUInt32 % 65536).toInt32 (by rcases hc with z | z <;> rw [z] <;> decide) (xs 2) (ev_T ha) (xs 3) (ev_T hb)
        obtain ⟨o, h8, h9⟩ := Option.map_eq_some_iff.mp hg
        injection h9 with e0 h9
        injection h9 with e35 h9
        injection h9 with e1 e2
        exact la_25_atom l hfl K hP hPo hS hl hY _ o h8 (by rw [e0]; rfl) hc (mt_T1 _ _ e35 ha) (mt_T1 _ _ e35 hb) e1 e2 (by decide +kernel)
  · exact lc_25_atom l hfl K hP hPo hS hl 1 (fun _ => 0) _ (ev8_atom _ _ _ (Or.inl hc)) (show w_atom (fun _ => 0) (.inr "java/lang/IllegalArgumentException") = some (1, fun _ => 0) by unfold w_atom; exact if_pos rfl) _ (mv8_atom _ _ _ (Or.inl hc)) rfl (fun h => absurd h (by decide))
