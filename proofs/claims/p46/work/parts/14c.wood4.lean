def gw_xF (G : gw_G) (sz : Nat) (o : (UInt32 ⊕ String) × gw_S) : Array Value → State → Outcome → State → Prop := va_Qf (fun (r : UInt32) (u : gw_S) => o = (.inl r, u)) (fun u t => gw_P G u t.heap) (gw_A G sz)
def gw_xD (G : gw_G) (sz : Nat) (o : (UInt64 ⊕ String) × gw_S) : Array Value → State → Outcome → State → Prop := va_Qd (fun (r : UInt64) (u : gw_S) => o = (.inl r, u)) (fun u t => gw_P G u t.heap) (gw_A G sz)
theorem gv_1076 : Cond.classLink RX8 266 nx_N ∈ gw_L := gw_tab 1076 (by decide +kernel) (by decide +kernel)
theorem gv_30 : Cond.initialized nx_N ∈ gw_L := gw_tab 30 (by decide +kernel) (by decide +kernel)
theorem ne_X8_266_270 : nx_E RX8 266 270 := ⟨gv_1076, gv_30, gw_pl [14, 579, 588, 594, 597, 599, 580, 581, 40, 41, 582, 587, 595, 615, 569, 616, 571, 617, 573, 583, 585, 575] (by decide +kernel) (by decide +kernel), gw_pl [611, 612, 614, 575] (by decide +kernel) (by decide +kernel), gw_pl [1087, 1088, 1089, 605, 561] (by decide +kernel) (by decide +kernel), gw_pl [605, 606, 607, 608, 563, 608, 609, 610, 611, 565] (by decide +kernel) (by decide +kernel), gw_pl [1086, 1077, 1078, 1079, 593, 1080, 1081, 1082, 1083, 578, 577, 1084] (by decide +kernel) (by decide +kernel)⟩
def f_X8_against_L26 : Nat → Int32 → Int32 → gw_S → Option ((Int32 ⊕ String) × gw_S)
  | 0, _, _, _ => none
  | n + 1, v26_2, v26_3, σ => ((f_X3_size  σ).bind fun p5 => (if p5.1 ≤ v26_3 then (some (Sum.inr "java/util/NoSuchElementException", p5.2)) else ((f_X8_contains v26_2 v26_3 p5.2).bind fun p6 => (if p6.1 = 0 then (f_X8_against_L26 n v26_2 (v26_3 + (1 : Int32)) p6.2) else (some (Sum.inl v26_3, p6.2))))))
def f_X8_against (a0 : Int32) (σ : gw_S) : Option ((Int32 ⊕ String) × gw_S) := ((f_X8_needClosed a0 σ).bind fun q2 => gw_bx q2 fun u1 => ((f_X3_ends  u1).bind fun p3 => ((f_X7_worldsOf a0 p3.2).bind fun p4 => (f_X8_against_L26 64 (p3.1 &&& (p4.1 ^^^ (-1 : Int32))) (0 : Int32) p4.2))))
set_option maxHeartbeats 4000000 in
set_option maxRecDepth 100000 in
theorem gc_X8_against (l : Launch) (hfl : l.stackTraces = false) (G : gw_G) (a0 : Int32) (σ : gw_S) (o : ((Int32 ⊕ String) × gw_S)) (h : f_X8_against a0 σ = some o) : gw_N (fun sz => gw_xI G sz o) (fun sz => gw_XC G sz o) 3 l yX8_against cX8_against 4 (some .int) { frames := 302, cells := 3, slots := 18, locals := 5045 } G [.ref (G.2.1 0), .int a0] σ := by
  refine gw_enx (own := RX8) (lv := [(0, .ref (G.2.1 0)), (1, .int a0)]) (by decide +kernel) rfl (Nat.le_of_ble_eq_true rfl) rfl ?_
  intro p e s m below meth c ls X hl hP
  obtain ⟨hx, hb, hml, hown, hts, -, -, hT, hZ, -⟩ := id X
  have hS : va_S (gw_A G s.heap.size) s.heap s.heap [] := va_S.rf
  have L26 : ∀ (n : Nat) (v26_2 : Int32) (v26_3 : Int32) (σ : gw_S) (H : Heap) (locs : List Loc) (ls : Array Slot), f_X8_against_L26 n v26_2 v26_3 σ = some o → gw_P G σ H → va_S (gw_A G s.heap.size) s.heap H locs → lv_has ls 4 [(0, .ref (G.2.1 0)), (2, .int v26_2), (3, .int v26_3)] → W p l e { frames := 302, cells := 3, slots := 18, locals := 5045 } s m [.ref (G.2.1 0), .int a0].toArray below meth c H locs 2 (6 * 2) (vx_MQ below (gw_xI G s.heap.size o) (gw_XC G s.heap.size o) [.ref (G.2.1 0), .int a0].toArray s 3 (6 * 3) (gw_A G s.heap.size)) (F0 m 26 ls []) := by
    intro n
    induction n with
    | zero =>
      intro v26_2 v26_3 σ H locs ls h
      exact absurd h (by rw [f_X8_against_L26.eq_1]; exact fun h => nomatch h)
    | succ n ih =>
      intro v26_2 v26_3 σ H locs ls h hP hS hl
      rw [f_X8_against_L26.eq_2] at h
      refine lv_iload_n hx hb dX8_against_26 rfl (lv_at hl 2 rfl) ?_
      refine lv_aload_n hx hb dX8_against_27 rfl (lv_at hl 0 rfl) ?_
      refine va_get (D := G.1) (ci := 10) (v := .ref (G.2.1 1)) (C := RX8) (T := TX8) (N := 7) hx hb hts gx_X8 hown hT.2.1 hP 0 rfl rfl 0 (by decide) (hts _ gv_214) (fun _ h9 => h9) rfl dX8_against_28 ?_
      obtain ⟨p5, gp5, h⟩ := Option.bind_eq_some_iff.mp h
      refine gw_ci (gw_rV (C := RX3) X hP hS (gc_X3_size l G  σ _ gp5) gk_X3_size gv_258 ⟨gv_259, gv_260⟩ (va_recv hT.2.1 hP (ci := 6) (q0 := 1) rfl rfl) rfl rfl (Nat.le_of_ble_eq_true rfl) hl.1 ⟨rfl, rfl⟩ ⟨Nat.le_of_ble_eq_true rfl, Nat.le_of_ble_eq_true rfl⟩ ⟨Nat.le_of_ble_eq_true rfl, Nat.le_of_ble_eq_true rfl⟩ dX8_against_31) hS (fun H locs hP hS => ?_)
      refine lv_icmp_ge (tgt := 53) hx hb dX8_against_34 (by decide) (fun c => ?_) (fun c => ?_)
      · have h := (if_pos c).symm.trans h
        exact nx_thrW X hP hS hfl ne_X8_266_270 (i := 22) rfl h hl.1 dX8_against_53 dX8_against_56 dX8_against_57 dX8_against_60 dX8_against_63 ⟨Nat.le_of_ble_eq_true rfl, Nat.le_of_ble_eq_true rfl⟩ ⟨Nat.le_of_ble_eq_true rfl, Nat.le_of_ble_eq_true rfl⟩ (Nat.le_of_ble_eq_true rfl) (Nat.le_of_ble_eq_true rfl)
      · have h := (if_neg c).symm.trans h
        refine lv_iload_n hx hb dX8_against_37 rfl (lv_at hl 1 rfl) ?_
        refine lv_iload_n hx hb dX8_against_38 rfl (lv_at hl 2 rfl) ?_
        obtain ⟨p6, gp6, h⟩ := Option.bind_eq_some_iff.mp h
        refine gw_cz (gw_rS X hP hS (gc_X8_contains l G v26_2 v26_3 p5.2 _ gp6) gk_X8_contains gv_485 gv_278 rfl rfl (Nat.le_of_ble_eq_true rfl) hl.1 ⟨rfl, rfl⟩ ⟨Nat.le_of_ble_eq_true rfl, Nat.le_of_ble_eq_true rfl⟩ ⟨Nat.le_of_ble_eq_true rfl, Nat.le_of_ble_eq_true rfl⟩ dX8_against_39) hS (fun H locs hb_p6 hP hS => ?_)
        refine lv_if_eq (tgt := 47) hx hb dX8_against_42 (by decide) (fun c => ?_) (fun c => ?_)
        · have h := (if_pos c).symm.trans h
          refine lv_iinc (v := (v26_3 + (1 : Int32))) (lv' := [(3, .int (v26_3 + (1 : Int32))), (0, .ref (G.2.1 0)), (2, .int v26_2)]) hx hb dX8_against_47 hl (k := 2) rfl rfl (by decide) rfl (fun ls hl => ?_)
          refine lv_goto (tgt := 26) hx hb dX8_against_50 (by decide) ?_
          exact ih v26_2 (v26_3 + (1 : Int32)) p6.2 _ _ _ h hP hS (lv_sub hl [1, 2, 0] rfl)
        · have h := (if_neg c).symm.trans h
          refine lv_iload_n hx hb dX8_against_45 rfl (lv_at hl 2 rfl) ?_
          exact gw_xri X hP hS (Nat.le_of_ble_eq_true rfl) (Nat.le_of_ble_eq_true rfl) h dX8_against_46
  unfold f_X8_against at h
  refine lv_aload_n hx hb dX8_against_0 rfl (lv_at hl 0 rfl) ?_
  refine lv_iload_n hx hb dX8_against_1 rfl (lv_at hl 1 rfl) ?_
  obtain ⟨q2, gq2, h⟩ := Option.bind_eq_some_iff.mp h
  refine gw_cx X h (gw_xV_ (C := RX8) X hP hS (gc_X8_needClosed l hfl G a0 σ _ gq2) gk_X8_needClosed gv_1041 ⟨gv_1043, gv_s21⟩ (va_recv hT.2.1 hP (ci := 10) (q0 := 0) rfl rfl) rfl rfl (Nat.le_of_ble_eq_true rfl) hl.1 ⟨rfl, rfl⟩ ⟨Nat.le_of_ble_eq_true rfl, Nat.le_of_ble_eq_true rfl⟩ ⟨Nat.le_of_ble_eq_true rfl, Nat.le_of_ble_eq_true rfl⟩ dX8_against_2) hS (Nat.le_of_ble_eq_true rfl) (Nat.le_of_ble_eq_true rfl) (fun u1 H locs h hP hS => ?_)
  refine lv_aload_n hx hb dX8_against_5 rfl (lv_at hl 0 rfl) ?_
  refine va_get (D := G.1) (ci := 10) (v := .ref (G.2.1 1)) (C := RX8) (T := TX8) (N := 7) hx hb hts gx_X8 hown hT.2.1 hP 0 rfl rfl 0 (by decide) (hts _ gv_214) (fun _ h9 => h9) rfl dX8_against_6 ?_
  obtain ⟨p3, gp3, h⟩ := Option.bind_eq_some_iff.mp h
  refine gw_ci (gw_rV (C := RX3) X hP hS (gc_X3_ends l G  u1 _ gp3) gk_X3_ends gv_240 ⟨gv_241, gv_242⟩ (va_recv hT.2.1 hP (ci := 6) (q0 := 1) rfl rfl) rfl rfl (Nat.le_of_ble_eq_true rfl) hl.1 ⟨rfl, rfl⟩ ⟨Nat.le_of_ble_eq_true rfl, Nat.le_of_ble_eq_true rfl⟩ ⟨Nat.le_of_ble_eq_true rfl, Nat.le_of_ble_eq_true rfl⟩ dX8_against_9) hS (fun H locs hP hS => ?_)
  refine lv_aload_n hx hb dX8_against_12 rfl (lv_at hl 0 rfl) ?_
  refine va_get (D := G.1) (ci := 10) (v := .ref (G.2.1 30)) (C := RX8) (T := TX8) (N := 7) hx hb hts gx_X8 hown hT.2.1 hP 0 rfl rfl 6 (by decide) (hts _ gv_220) (fun _ h9 => h9) rfl dX8_against_13 ?_
  refine lv_iload_n hx hb dX8_against_16 rfl (lv_at hl 1 rfl) ?_
  obtain ⟨p4, gp4, h⟩ := Option.bind_eq_some_iff.mp h
  refine gw_ci (gw_rV (C := RX7) X hP hS (gc_X7_worldsOf l G a0 p3.2 _ gp4) gk_X7_worldsOf gv_488 ⟨gv_489, gv_490⟩ (va_recv hT.2.1 hP (ci := 9) (q0 := 30) rfl rfl) rfl rfl (Nat.le_of_ble_eq_true rfl) hl.1 ⟨rfl, rfl⟩ ⟨Nat.le_of_ble_eq_true rfl, Nat.le_of_ble_eq_true rfl⟩ ⟨Nat.le_of_ble_eq_true rfl, Nat.le_of_ble_eq_true rfl⟩ dX8_against_17) hS (fun H locs hP hS => ?_)
  refine lv_iconst (v := -1) hx hb dX8_against_20 (by decide) ?_
  refine lv_ixor hx hb dX8_against_21 ?_
  refine lv_iand hx hb dX8_against_22 ?_
  refine lv_istore_n (lv' := [(2, .int (p3.1 &&& (p4.1 ^^^ (-1 : Int32)))), (0, .ref (G.2.1 0)), (1, .int a0)]) hx hb dX8_against_23 rfl hl (by decide) rfl (fun ls hl => ?_)
  refine lv_iconst (v := 0) hx hb dX8_against_24 (by decide) ?_
  refine lv_istore_n (lv' := [(3, .int (0 : Int32)), (2, .int (p3.1 &&& (p4.1 ^^^ (-1 : Int32)))), (0, .ref (G.2.1 0)), (1, .int a0)]) hx hb dX8_against_25 rfl hl (by decide) rfl (fun ls hl => ?_)
  exact L26 64 (p3.1 &&& (p4.1 ^^^ (-1 : Int32))) (0 : Int32) p4.2 _ _ _ h hP hS (lv_sub hl [2, 1, 0] rfl)
def f_X8_lastShare (σ : gw_S) : Option ((UInt32 ⊕ String) × gw_S) := ((f_X3_size  σ).bind fun p1 => (if p1.1 = 0 then (some (Sum.inr "java/util/NoSuchElementException", p1.2)) else ((f_X3_ends  p1.2).bind fun p2 => ((f_J6_bitCount_0f7a4 p2.1 p2.2).bind fun p3 => none))))
set_option maxHeartbeats 4000000 in
set_option maxRecDepth 100000 in
theorem gc_X8_lastShare (l : Launch) (hfl : l.stackTraces = false) (G : gw_G) (σ : gw_S) (o : ((UInt32 ⊕ String) × gw_S)) (h : f_X8_lastShare σ = some o) : gw_N (fun sz => gw_xF G sz o) (fun sz => gw_XC G sz o) 1 l yX8_lastShare cX8_lastShare 1 (some .float) { frames := 6, cells := 1, slots := 6, locals := 82 } G [.ref (G.2.1 0)] σ := by
  refine gw_enx (own := RX8) (lv := [(0, .ref (G.2.1 0))]) (by decide +kernel) rfl (Nat.le_of_ble_eq_true rfl) rfl ?_
  intro p e s m below meth c ls X hl hP
  obtain ⟨hx, hb, hml, hown, hts, -, -, hT, hZ, -⟩ := id X
  have hS : va_S (gw_A G s.heap.size) s.heap s.heap [] := va_S.rf
  unfold f_X8_lastShare at h
  refine lv_aload_n hx hb dX8_lastShare_0 rfl (lv_at hl 0 rfl) ?_
  refine va_get (D := G.1) (ci := 10) (v := .ref (G.2.1 1)) (C := RX8) (T := TX8) (N := 7) hx hb hts gx_X8 hown hT.2.1 hP 0 rfl rfl 0 (by decide) (hts _ gv_214) (fun _ h9 => h9) rfl dX8_lastShare_1 ?_
  obtain ⟨p1, gp1, h⟩ := Option.bind_eq_some_iff.mp h
  refine gw_ci (gw_rV (C := RX3) X hP hS (gc_X3_size l G  σ _ gp1) gk_X3_size gv_258 ⟨gv_259, gv_260⟩ (va_recv hT.2.1 hP (ci := 6) (q0 := 1) rfl rfl) rfl rfl (Nat.le_of_ble_eq_true rfl) hl.1 ⟨rfl, rfl⟩ ⟨Nat.le_of_ble_eq_true rfl, Nat.le_of_ble_eq_true rfl⟩ ⟨Nat.le_of_ble_eq_true rfl, Nat.le_of_ble_eq_true rfl⟩ dX8_lastShare_4) hS (fun H locs hP hS => ?_)
  refine lv_if_ne (tgt := 21) hx hb dX8_lastShare_7 (by decide) (fun c => ?_) (fun c => ?_)
  · have h := (if_neg c).symm.trans h
    refine lv_aload_n hx hb dX8_lastShare_21 rfl (lv_at hl 0 rfl) ?_
    refine va_get (D := G.1) (ci := 10) (v := .ref (G.2.1 1)) (C := RX8) (T := TX8) (N := 7) hx hb hts gx_X8 hown hT.2.1 hP 0 rfl rfl 0 (by decide) (hts _ gv_214) (fun _ h9 => h9) rfl dX8_lastShare_22 ?_
    obtain ⟨p2, gp2, h⟩ := Option.bind_eq_some_iff.mp h
    refine gw_ci (gw_rV (C := RX3) X hP hS (gc_X3_ends l G  p1.2 _ gp2) gk_X3_ends gv_240 ⟨gv_241, gv_242⟩ (va_recv hT.2.1 hP (ci := 6) (q0 := 1) rfl rfl) rfl rfl (Nat.le_of_ble_eq_true rfl) hl.1 ⟨rfl, rfl⟩ ⟨Nat.le_of_ble_eq_true rfl, Nat.le_of_ble_eq_true rfl⟩ ⟨Nat.le_of_ble_eq_true rfl, Nat.le_of_ble_eq_true rfl⟩ dX8_lastShare_25) hS (fun H locs hP hS => ?_)
    obtain ⟨p3, gp3, h⟩ := Option.bind_eq_some_iff.mp h
    refine gw_ci (gw_rS X hP hS (gc_J6_bitCount_0f7a4 l G p2.1 p2.2 _ gp3) gk_J6_bitCount_0f7a4 gv_248 gv_249 rfl rfl (Nat.le_of_ble_eq_true rfl) hl.1 ⟨rfl, rfl⟩ ⟨Nat.le_of_ble_eq_true rfl, Nat.le_of_ble_eq_true rfl⟩ ⟨Nat.le_of_ble_eq_true rfl, Nat.le_of_ble_eq_true rfl⟩ dX8_lastShare_28) hS (fun H locs hP hS => ?_)
    exact absurd h (fun h => nomatch h)
  · have h := (if_pos c).symm.trans h
    exact nx_thrW X hP hS hfl ne_X8_266_270 (i := 24) rfl h hl.1 dX8_lastShare_10 dX8_lastShare_13 dX8_lastShare_14 dX8_lastShare_17 dX8_lastShare_20 ⟨Nat.le_of_ble_eq_true rfl, Nat.le_of_ble_eq_true rfl⟩ ⟨Nat.le_of_ble_eq_true rfl, Nat.le_of_ble_eq_true rfl⟩ (Nat.le_of_ble_eq_true rfl) (Nat.le_of_ble_eq_true rfl)
def f_X8_meanRank_L25 : Nat → Int32 → Int32 → gw_S → Option ((UInt64 ⊕ String) × gw_S)
  | 0, _, _, _ => none
  | n + 1, v25_1, v25_2, σ => ((f_X2_size  σ).bind fun p2 => (if p2.1 ≤ v25_2 then none else ((f_X2_height v25_2 p2.2).bind fun p3 => (f_X8_meanRank_L25 n (v25_1 + p3.1) (v25_2 + (1 : Int32)) p3.2))))
def f_X8_meanRank (σ : gw_S) : Option ((UInt64 ⊕ String) × gw_S) := ((f_X2_size  σ).bind fun p1 => (if p1.1 = 0 then (some (Sum.inr "java/util/NoSuchElementException", p1.2)) else (f_X8_meanRank_L25 64 (0 : Int32) (0 : Int32) p1.2)))
set_option maxHeartbeats 4000000 in
set_option maxRecDepth 100000 in
theorem gc_X8_meanRank (l : Launch) (hfl : l.stackTraces = false) (G : gw_G) (σ : gw_S) (o : ((UInt64 ⊕ String) × gw_S)) (h : f_X8_meanRank σ = some o) : gw_N (fun sz => gw_xD G sz o) (fun sz => gw_XC G sz o) 1 l yX8_meanRank cX8_meanRank 3 (some .double) { frames := 6, cells := 1, slots := 6, locals := 82 } G [.ref (G.2.1 0)] σ := by
  refine gw_enx (own := RX8) (lv := [(0, .ref (G.2.1 0))]) (by decide +kernel) rfl (Nat.le_of_ble_eq_true rfl) rfl ?_
  intro p e s m below meth c ls X hl hP
  obtain ⟨hx, hb, hml, hown, hts, -, -, hT, hZ, -⟩ := id X
  have hS : va_S (gw_A G s.heap.size) s.heap s.heap [] := va_S.rf
  have L25 : ∀ (n : Nat) (v25_1 : Int32) (v25_2 : Int32) (σ : gw_S) (H : Heap) (locs : List Loc) (ls : Array Slot), f_X8_meanRank_L25 n v25_1 v25_2 σ = some o → gw_P G σ H → va_S (gw_A G s.heap.size) s.heap H locs → lv_has ls 3 [(0, .ref (G.2.1 0)), (1, .int v25_1), (2, .int v25_2)] → W p l e { frames := 6, cells := 1, slots := 6, locals := 82 } s m [.ref (G.2.1 0)].toArray below meth c H locs 0 0 (vx_MQ below (gw_xD G s.heap.size o) (gw_XC G s.heap.size o) [.ref (G.2.1 0)].toArray s 1 (6 * 1) (gw_A G s.heap.size)) (F0 m 25 ls []) := by
    intro n
    induction n with
    | zero =>
      intro v25_1 v25_2 σ H locs ls h
      exact absurd h (by rw [f_X8_meanRank_L25.eq_1]; exact fun h => nomatch h)
    | succ n ih =>
      intro v25_1 v25_2 σ H locs ls h hP hS hl
      rw [f_X8_meanRank_L25.eq_2] at h
      refine lv_iload_n hx hb dX8_meanRank_25 rfl (lv_at hl 2 rfl) ?_
      refine lv_aload_n hx hb dX8_meanRank_26 rfl (lv_at hl 0 rfl) ?_
      refine va_get (D := G.1) (ci := 10) (v := .ref (G.2.1 4)) (C := RX8) (T := TX8) (N := 7) hx hb hts gx_X8 hown hT.2.1 hP 0 rfl rfl 1 (by decide) (hts _ gv_215) (fun _ h9 => h9) rfl dX8_meanRank_27 ?_
      obtain ⟨p2, gp2, h⟩ := Option.bind_eq_some_iff.mp h
      refine gw_ci (gw_rV (C := RX2) X hP hS (gc_X2_size l G  σ _ gp2) gk_X2_size gv_303 ⟨gv_304, gv_305⟩ (va_recv hT.2.1 hP (ci := 5) (q0 := 4) rfl rfl) rfl rfl (Nat.le_of_ble_eq_true rfl) hl.1 ⟨rfl, rfl⟩ ⟨Nat.le_of_ble_eq_true rfl, Nat.le_of_ble_eq_true rfl⟩ ⟨Nat.le_of_ble_eq_true rfl, Nat.le_of_ble_eq_true rfl⟩ dX8_meanRank_30) hS (fun H locs hP hS => ?_)
      refine lv_icmp_ge (tgt := 53) hx hb dX8_meanRank_33 (by decide) (fun c => ?_) (fun c => ?_)
      · have h := (if_pos c).symm.trans h
        refine lv_iload_n hx hb dX8_meanRank_53 rfl (lv_at hl 1 rfl) ?_
        exact absurd h (fun h => nomatch h)
      · have h := (if_neg c).symm.trans h
        refine lv_iload_n hx hb dX8_meanRank_36 rfl (lv_at hl 1 rfl) ?_
        refine lv_aload_n hx hb dX8_meanRank_37 rfl (lv_at hl 0 rfl) ?_
        refine va_get (D := G.1) (ci := 10) (v := .ref (G.2.1 4)) (C := RX8) (T := TX8) (N := 7) hx hb hts gx_X8 hown hT.2.1 hP 0 rfl rfl 1 (by decide) (hts _ gv_215) (fun _ h9 => h9) rfl dX8_meanRank_38 ?_
        refine lv_iload_n hx hb dX8_meanRank_41 rfl (lv_at hl 2 rfl) ?_
        obtain ⟨p3, gp3, h⟩ := Option.bind_eq_some_iff.mp h
        refine gw_ci (gw_rV (C := RX2) X hP hS (gc_X2_height l G v25_2 p2.2 _ gp3) gk_X2_height gv_307 ⟨gv_308, gv_309⟩ (va_recv hT.2.1 hP (ci := 5) (q0 := 4) rfl rfl) rfl rfl (Nat.le_of_ble_eq_true rfl) hl.1 ⟨rfl, rfl⟩ ⟨Nat.le_of_ble_eq_true rfl, Nat.le_of_ble_eq_true rfl⟩ ⟨Nat.le_of_ble_eq_true rfl, Nat.le_of_ble_eq_true rfl⟩ dX8_meanRank_42) hS (fun H locs hP hS => ?_)
        refine lv_iadd hx hb dX8_meanRank_45 ?_
        refine lv_istore_n (lv' := [(1, .int (v25_1 + p3.1)), (0, .ref (G.2.1 0)), (2, .int v25_2)]) hx hb dX8_meanRank_46 rfl hl (by decide) rfl (fun ls hl => ?_)
        refine lv_iinc (v := (v25_2 + (1 : Int32))) (lv' := [(2, .int (v25_2 + (1 : Int32))), (1, .int (v25_1 + p3.1)), (0, .ref (G.2.1 0))]) hx hb dX8_meanRank_47 hl (k := 2) rfl rfl (by decide) rfl (fun ls hl => ?_)
        refine lv_goto (tgt := 25) hx hb dX8_meanRank_50 (by decide) ?_
        exact ih (v25_1 + p3.1) (v25_2 + (1 : Int32)) p3.2 _ _ _ h hP hS (lv_sub hl [2, 1, 0] rfl)
  unfold f_X8_meanRank at h
  refine lv_aload_n hx hb dX8_meanRank_0 rfl (lv_at hl 0 rfl) ?_
  refine va_get (D := G.1) (ci := 10) (v := .ref (G.2.1 4)) (C := RX8) (T := TX8) (N := 7) hx hb hts gx_X8 hown hT.2.1 hP 0 rfl rfl 1 (by decide) (hts _ gv_215) (fun _ h9 => h9) rfl dX8_meanRank_1 ?_
  obtain ⟨p1, gp1, h⟩ := Option.bind_eq_some_iff.mp h
  refine gw_ci (gw_rV (C := RX2) X hP hS (gc_X2_size l G  σ _ gp1) gk_X2_size gv_303 ⟨gv_304, gv_305⟩ (va_recv hT.2.1 hP (ci := 5) (q0 := 4) rfl rfl) rfl rfl (Nat.le_of_ble_eq_true rfl) hl.1 ⟨rfl, rfl⟩ ⟨Nat.le_of_ble_eq_true rfl, Nat.le_of_ble_eq_true rfl⟩ ⟨Nat.le_of_ble_eq_true rfl, Nat.le_of_ble_eq_true rfl⟩ dX8_meanRank_4) hS (fun H locs hP hS => ?_)
  refine lv_if_ne (tgt := 21) hx hb dX8_meanRank_7 (by decide) (fun c => ?_) (fun c => ?_)
  · have h := (if_neg c).symm.trans h
    refine lv_iconst (v := 0) hx hb dX8_meanRank_21 (by decide) ?_
    refine lv_istore_n (lv' := [(1, .int (0 : Int32)), (0, .ref (G.2.1 0))]) hx hb dX8_meanRank_22 rfl hl (by decide) rfl (fun ls hl => ?_)
    refine lv_iconst (v := 0) hx hb dX8_meanRank_23 (by decide) ?_
    refine lv_istore_n (lv' := [(2, .int (0 : Int32)), (1, .int (0 : Int32)), (0, .ref (G.2.1 0))]) hx hb dX8_meanRank_24 rfl hl (by decide) rfl (fun ls hl => ?_)
    exact L25 64 (0 : Int32) (0 : Int32) p1.2 _ _ _ h hP hS (lv_sub hl [2, 1, 0] rfl)
  · have h := (if_pos c).symm.trans h
    exact nx_thrW X hP hS hfl ne_X8_266_270 (i := 25) rfl h hl.1 dX8_meanRank_10 dX8_meanRank_13 dX8_meanRank_14 dX8_meanRank_17 dX8_meanRank_20 ⟨Nat.le_of_ble_eq_true rfl, Nat.le_of_ble_eq_true rfl⟩ ⟨Nat.le_of_ble_eq_true rfl, Nat.le_of_ble_eq_true rfl⟩ (Nat.le_of_ble_eq_true rfl) (Nat.le_of_ble_eq_true rfl)
