def gw_QL (G : gw_G) (sz : Nat) (o : Int64 × gw_S) : Array Value → State → Outcome → State → Prop := va_Ql (fun (r : Int64) (u : gw_S) => o = (r, u)) (fun u t => gw_P G u t.heap) (gw_A G sz)
theorem gw_rl {p : Program} {l : Launch} {e : Env} {R : Room} {s : State} {m : MethodId} {args : Array Value} {below : List Frame} {meth : Method} {c : Code} {H : Heap} {locs : List Loc} {cc : ByteArray} {nL pc : Nat} {own : String} {G : gw_G} {ls : Array Slot} {o : Int64 × gw_S} {σ' : gw_S} {v : Int64} (X : gw_X p s m args meth c cc nL own (some .long) G) (hP : gw_P G σ' H) (hS : va_S (gw_A G s.heap.size) s.heap H locs) (h : some (v, σ') = some o) (hdg : decode cc pc = .ok (.lreturn, 1)) : W p l e R s m args below meth c H locs 0 0 (MQ below (gw_QL G s.heap.size o) args s 0 0 (gw_A G s.heap.size)) (F0 m pc ls [.long v]) :=
  W.lret (v := v) X.1 X.2.1 X.2.2.2.2.2.1 (fun t ht _ => ⟨⟨v, σ', rfl, (Option.some.inj h).symm, by subst ht; exact hP⟩, hS.F ht⟩) hS.2.2 hdg X.2.2.2.2.2.2.1
theorem gv_1102 : Cond.code yX3_exchange cX3_exchange 4 none ∈ gw_L := gw_tab 1102 (by decide +kernel) (by decide +kernel)
theorem gk_X3_exchange : gw_K yX3_exchange cX3_exchange 4 none 2 := ⟨gv_1102, gv_2, by decide +kernel, by decide +kernel⟩
theorem gv_1100 : Cond.instanceMethod yX3_exchange ∈ gw_L := gw_tab 1100 (by decide +kernel) (by decide +kernel)
theorem gv_1099 : Cond.methodLink RX8 271 yX3_exchange ∈ gw_L := gw_tab 1099 (by decide +kernel) (by decide +kernel)
theorem gv_1101 : Cond.selects RX3 yX3_exchange yX3_exchange ∈ gw_L := gw_tab 1101 (by decide +kernel) (by decide +kernel)
theorem gv_1107 : Cond.code yX3_isKept cX3_isKept 3 (some .boolean) ∈ gw_L := gw_tab 1107 (by decide +kernel) (by decide +kernel)
theorem gk_X3_isKept : gw_K yX3_isKept cX3_isKept 3 (some .boolean) 0 := ⟨gv_1107, gv_2, by decide +kernel, by decide +kernel⟩
theorem gv_1105 : Cond.instanceMethod yX3_isKept ∈ gw_L := gw_tab 1105 (by decide +kernel) (by decide +kernel)
theorem gv_1104 : Cond.methodLink RX8 274 yX3_isKept ∈ gw_L := gw_tab 1104 (by decide +kernel) (by decide +kernel)
theorem gv_1106 : Cond.selects RX3 yX3_isKept yX3_isKept ∈ gw_L := gw_tab 1106 (by decide +kernel) (by decide +kernel)
theorem gv_1115 : Cond.methodLink RX8 278 yX3_image ∈ gw_L := gw_tab 1115 (by decide +kernel) (by decide +kernel)
theorem gv_295 : Cond.code yX1_removeAll cX1_removeAll 2 (some .int) ∈ gw_L := gw_tab 295 (by decide +kernel) (by decide +kernel)
theorem gk_X1_removeAll : gw_K yX1_removeAll cX1_removeAll 2 (some .int) 0 := ⟨gv_295, gv_4, by decide +kernel, by decide +kernel⟩
theorem gv_293 : Cond.instanceMethod yX1_removeAll ∈ gw_L := gw_tab 293 (by decide +kernel) (by decide +kernel)
theorem gv_292 : Cond.methodLink RX8 283 yX1_removeAll ∈ gw_L := gw_tab 292 (by decide +kernel) (by decide +kernel)
theorem gv_294 : Cond.selects RX1 yX1_removeAll yX1_removeAll ∈ gw_L := gw_tab 294 (by decide +kernel) (by decide +kernel)
theorem gv_300 : Cond.constantLong RX8 286 (7) ∈ gw_L := gw_tab 300 (by decide +kernel) (by decide +kernel)
theorem gv_301 : Cond.constantLong RX8 288 (31) ∈ gw_L := gw_tab 301 (by decide +kernel) (by decide +kernel)
theorem gv_316 : Cond.methodLink RX8 291 yX2_lower ∈ gw_L := gw_tab 316 (by decide +kernel) (by decide +kernel)
theorem gv_320 : Cond.methodLink RX8 294 yX2_promise ∈ gw_L := gw_tab 320 (by decide +kernel) (by decide +kernel)
theorem gv_540 : Cond.code yX8_isAlikeAsBecome cX8_isAlikeAsBecome 4 (some .boolean) ∈ gw_L := gw_tab 540 (by decide +kernel) (by decide +kernel)
theorem gk_X8_isAlikeAsBecome : gw_K yX8_isAlikeAsBecome cX8_isAlikeAsBecome 4 (some .boolean) 1 := ⟨gv_540, gv_1, by decide +kernel, by decide +kernel⟩
theorem gv_539 : Cond.instanceMethod yX8_isAlikeAsBecome ∈ gw_L := gw_tab 539 (by decide +kernel) (by decide +kernel)
theorem gv_537 : Cond.methodLink RX8 305 yX8_isAlikeAsBecome ∈ gw_L := gw_tab 537 (by decide +kernel) (by decide +kernel)
theorem gv_s5 : Cond.selects RX8 yX8_isAlikeAsBecome yX8_isAlikeAsBecome ∈ gw_L := gw_sel 5 (by decide +kernel) (by decide +kernel)
theorem gv_484 : Cond.code yX8_isForcedAsValued cX8_isForcedAsValued 4 (some .boolean) ∈ gw_L := gw_tab 484 (by decide +kernel) (by decide +kernel)
theorem gk_X8_isForcedAsValued : gw_K yX8_isForcedAsValued cX8_isForcedAsValued 4 (some .boolean) 2 := ⟨gv_484, gv_1, by decide +kernel, by decide +kernel⟩
theorem gv_483 : Cond.instanceMethod yX8_isForcedAsValued ∈ gw_L := gw_tab 483 (by decide +kernel) (by decide +kernel)
theorem gv_481 : Cond.methodLink RX8 302 yX8_isForcedAsValued ∈ gw_L := gw_tab 481 (by decide +kernel) (by decide +kernel)
theorem gv_s1 : Cond.selects RX8 yX8_isForcedAsValued yX8_isForcedAsValued ∈ gw_L := gw_sel 1 (by decide +kernel) (by decide +kernel)
theorem gv_491 : Cond.code yX7_worldsOf cX7_worldsOf 5 (some .int) ∈ gw_L := gw_tab 491 (by decide +kernel) (by decide +kernel)
theorem gk_X7_worldsOf : gw_K yX7_worldsOf cX7_worldsOf 5 (some .int) 1 := ⟨gv_491, gv_9, by decide +kernel, by decide +kernel⟩
theorem gv_489 : Cond.instanceMethod yX7_worldsOf ∈ gw_L := gw_tab 489 (by decide +kernel) (by decide +kernel)
theorem gv_488 : Cond.methodLink RX8 263 yX7_worldsOf ∈ gw_L := gw_tab 488 (by decide +kernel) (by decide +kernel)
theorem gv_490 : Cond.selects RX7 yX7_worldsOf yX7_worldsOf ∈ gw_L := gw_tab 490 (by decide +kernel) (by decide +kernel)
def f_X8_swap (a0 : Int32) (a1 : Int32) (σ : gw_S) : Option ((Int32 ⊕ String) × gw_S) := ((f_X8_needConditions a0 a1 σ).bind fun q2 => gw_bx q2 fun u1 => ((f_X3_exchange a0 a1 u1).bind fun p3 => ((f_X3_isKept  p3).bind fun p4 => (some (Sum.inl p4.1, p4.2)))))
set_option maxHeartbeats 4000000 in
set_option maxRecDepth 100000 in
theorem gc_X8_swap (l : Launch) (hfl : l.stackTraces = false) (G : gw_G) (a0 : Int32) (a1 : Int32) (σ : gw_S) (o : ((Int32 ⊕ String) × gw_S)) (h : f_X8_swap a0 a1 σ = some o) : gw_N (fun sz => gw_xZ G sz o) (fun sz => gw_XC G sz o) 2 l yX8_swap cX8_swap 3 (some .boolean) { frames := 8, cells := 2, slots := 12, locals := 125 } G [.ref (G.2.1 0), .int a0, .int a1] σ := by
  refine gw_enx (own := RX8) (lv := [(0, .ref (G.2.1 0)), (1, .int a0), (2, .int a1)]) (by decide +kernel) rfl (Nat.le_of_ble_eq_true rfl) rfl ?_
  intro p e s m below meth c ls X hl hP
  obtain ⟨hx, hb, hml, hown, hts, -, -, hT, hZ, -⟩ := id X
  have hS : va_S (gw_A G s.heap.size) s.heap s.heap [] := va_S.rf
  unfold f_X8_swap at h
  refine lv_aload_n hx hb dX8_swap_0 rfl (lv_at hl 0 rfl) ?_
  refine lv_iload_n hx hb dX8_swap_1 rfl (lv_at hl 1 rfl) ?_
  refine lv_iload_n hx hb dX8_swap_2 rfl (lv_at hl 2 rfl) ?_
  obtain ⟨q2, gq2, h⟩ := Option.bind_eq_some_iff.mp h
  refine gw_cx X h (gw_xV_ (C := RX8) X hP hS (gc_X8_needConditions l hfl G a0 a1 σ _ gq2) gk_X8_needConditions gv_641 ⟨gv_643, gv_s7⟩ (va_recv hT.2.1 hP (ci := 10) (q0 := 0) rfl rfl) rfl rfl (Nat.le_of_ble_eq_true rfl) hl.1 ⟨rfl, rfl⟩ ⟨Nat.le_of_ble_eq_true rfl, Nat.le_of_ble_eq_true rfl⟩ ⟨Nat.le_of_ble_eq_true rfl, Nat.le_of_ble_eq_true rfl⟩ dX8_swap_3) hS (Nat.le_of_ble_eq_true rfl) (Nat.le_of_ble_eq_true rfl) (fun u1 H locs h hP hS => ?_)
  refine lv_aload_n hx hb dX8_swap_6 rfl (lv_at hl 0 rfl) ?_
  refine va_get (D := G.1) (ci := 10) (v := .ref (G.2.1 1)) (C := RX8) (T := TX8) (N := 7) hx hb hts gx_X8 hown hT.2.1 hP 0 rfl rfl 0 (by decide) (hts _ gv_214) (fun _ h9 => h9) rfl dX8_swap_7 ?_
  refine lv_iload_n hx hb dX8_swap_10 rfl (lv_at hl 1 rfl) ?_
  refine lv_iload_n hx hb dX8_swap_11 rfl (lv_at hl 2 rfl) ?_
  obtain ⟨p3, gp3, h⟩ := Option.bind_eq_some_iff.mp h
  refine gw_cv (gw_rV (C := RX3) X hP hS (gc_X3_exchange l G a0 a1 u1 _ gp3) gk_X3_exchange gv_1099 ⟨gv_1100, gv_1101⟩ (va_recv hT.2.1 hP (ci := 6) (q0 := 1) rfl rfl) rfl rfl (Nat.le_of_ble_eq_true rfl) hl.1 ⟨rfl, rfl⟩ ⟨Nat.le_of_ble_eq_true rfl, Nat.le_of_ble_eq_true rfl⟩ ⟨Nat.le_of_ble_eq_true rfl, Nat.le_of_ble_eq_true rfl⟩ dX8_swap_12) hS (fun H locs hP hS => ?_)
  refine lv_aload_n hx hb dX8_swap_15 rfl (lv_at hl 0 rfl) ?_
  refine va_get (D := G.1) (ci := 10) (v := .ref (G.2.1 1)) (C := RX8) (T := TX8) (N := 7) hx hb hts gx_X8 hown hT.2.1 hP 0 rfl rfl 0 (by decide) (hts _ gv_214) (fun _ h9 => h9) rfl dX8_swap_16 ?_
  obtain ⟨p4, gp4, h⟩ := Option.bind_eq_some_iff.mp h
  refine gw_cz (gw_rV (C := RX3) X hP hS (gc_X3_isKept l G  p3 _ gp4) gk_X3_isKept gv_1104 ⟨gv_1105, gv_1106⟩ (va_recv hT.2.1 hP (ci := 6) (q0 := 1) rfl rfl) rfl rfl (Nat.le_of_ble_eq_true rfl) hl.1 ⟨rfl, rfl⟩ ⟨Nat.le_of_ble_eq_true rfl, Nat.le_of_ble_eq_true rfl⟩ ⟨Nat.le_of_ble_eq_true rfl, Nat.le_of_ble_eq_true rfl⟩ dX8_swap_19) hS (fun H locs hb_p4 hP hS => ?_)
  exact gw_xrz X hP hS hb_p4 (Nat.le_of_ble_eq_true rfl) (Nat.le_of_ble_eq_true rfl) h dX8_swap_22
def f_X8_goes (a0 : Int32) (σ : gw_S) : Option ((Int32 ⊕ String) × gw_S) := ((f_X8_needCondition a0 σ).bind fun q2 => gw_bx q2 fun u1 => ((f_X3_image a0 u1).bind fun p3 => (some (Sum.inl p3.1, p3.2))))
set_option maxHeartbeats 4000000 in
set_option maxRecDepth 100000 in
theorem gc_X8_goes (l : Launch) (hfl : l.stackTraces = false) (G : gw_G) (a0 : Int32) (σ : gw_S) (o : ((Int32 ⊕ String) × gw_S)) (h : f_X8_goes a0 σ = some o) : gw_N (fun sz => gw_xI G sz o) (fun sz => gw_XC G sz o) 1 l yX8_goes cX8_goes 2 (some .int) { frames := 7, cells := 1, slots := 6, locals := 103 } G [.ref (G.2.1 0), .int a0] σ := by
  refine gw_enx (own := RX8) (lv := [(0, .ref (G.2.1 0)), (1, .int a0)]) (by decide +kernel) rfl (Nat.le_of_ble_eq_true rfl) rfl ?_
  intro p e s m below meth c ls X hl hP
  obtain ⟨hx, hb, hml, hown, hts, -, -, hT, hZ, -⟩ := id X
  have hS : va_S (gw_A G s.heap.size) s.heap s.heap [] := va_S.rf
  unfold f_X8_goes at h
  refine lv_aload_n hx hb dX8_goes_0 rfl (lv_at hl 0 rfl) ?_
  refine lv_iload_n hx hb dX8_goes_1 rfl (lv_at hl 1 rfl) ?_
  obtain ⟨q2, gq2, h⟩ := Option.bind_eq_some_iff.mp h
  refine gw_cx X h (gw_xV_ (C := RX8) X hP hS (gc_X8_needCondition l hfl G a0 σ _ gq2) gk_X8_needCondition gv_645 ⟨gv_647, gv_s8⟩ (va_recv hT.2.1 hP (ci := 10) (q0 := 0) rfl rfl) rfl rfl (Nat.le_of_ble_eq_true rfl) hl.1 ⟨rfl, rfl⟩ ⟨Nat.le_of_ble_eq_true rfl, Nat.le_of_ble_eq_true rfl⟩ ⟨Nat.le_of_ble_eq_true rfl, Nat.le_of_ble_eq_true rfl⟩ dX8_goes_2) hS (Nat.le_of_ble_eq_true rfl) (Nat.le_of_ble_eq_true rfl) (fun u1 H locs h hP hS => ?_)
  refine lv_aload_n hx hb dX8_goes_5 rfl (lv_at hl 0 rfl) ?_
  refine va_get (D := G.1) (ci := 10) (v := .ref (G.2.1 1)) (C := RX8) (T := TX8) (N := 7) hx hb hts gx_X8 hown hT.2.1 hP 0 rfl rfl 0 (by decide) (hts _ gv_214) (fun _ h9 => h9) rfl dX8_goes_6 ?_
  refine lv_iload_n hx hb dX8_goes_9 rfl (lv_at hl 1 rfl) ?_
  obtain ⟨p3, gp3, h⟩ := Option.bind_eq_some_iff.mp h
  refine gw_ci (gw_rV (C := RX3) X hP hS (gc_X3_image l G a0 u1 _ gp3) gk_X3_image gv_1115 ⟨gv_503, gv_504⟩ (va_recv hT.2.1 hP (ci := 6) (q0 := 1) rfl rfl) rfl rfl (Nat.le_of_ble_eq_true rfl) hl.1 ⟨rfl, rfl⟩ ⟨Nat.le_of_ble_eq_true rfl, Nat.le_of_ble_eq_true rfl⟩ ⟨Nat.le_of_ble_eq_true rfl, Nat.le_of_ble_eq_true rfl⟩ dX8_goes_10) hS (fun H locs hP hS => ?_)
  exact gw_xri X hP hS (Nat.le_of_ble_eq_true rfl) (Nat.le_of_ble_eq_true rfl) h dX8_goes_13
def f_X8_isFixed_L36 : Nat → Int32 → Int32 → Int32 → gw_S → Option ((Int32 ⊕ String) × gw_S)
  | 0, _, _, _, _ => none
  | n + 1, v36_1, v36_2, v36_3, σ => ((f_X3_size  σ).bind fun p5 => (if p5.1 ≤ v36_3 then (some (Sum.inl (1 : Int32), p5.2)) else ((f_X8_contains v36_2 v36_3 p5.2).bind fun p6 => (if p6.1 = 0 then (f_X8_isFixed_L36 n v36_1 v36_2 (v36_3 + (1 : Int32)) p6.2) else ((f_X7_enter v36_3 (0 : Int32) p6.2).bind fun p7 => ((f_X7_codeOf v36_1 p7).bind fun p8 => ((f_X7_enter v36_3 (1 : Int32) p8.2).bind fun p9 => ((f_X7_codeOf v36_1 p9).bind fun p10 => (if p10.1 = p8.1 then (f_X8_isFixed_L36 n v36_1 v36_2 (v36_3 + (1 : Int32)) p10.2) else (some (Sum.inl (0 : Int32), p10.2)))))))))))
def f_X8_isFixed (a0 : Int32) (σ : gw_S) : Option ((Int32 ⊕ String) × gw_S) := ((f_X8_needName a0 σ).bind fun q2 => gw_bx q2 fun u1 => ((f_X3_isKept  u1).bind fun p3 => (if p3.1 = 0 then (some (Sum.inr "java/lang/UnsupportedOperationException", p3.2)) else ((f_X3_ends  p3.2).bind fun p4 => (f_X8_isFixed_L36 64 a0 p4.1 (0 : Int32) p4.2)))))
set_option maxHeartbeats 4000000 in
set_option maxRecDepth 100000 in
theorem gc_X8_isFixed (l : Launch) (hfl : l.stackTraces = false) (G : gw_G) (a0 : Int32) (σ : gw_S) (o : ((Int32 ⊕ String) × gw_S)) (h : f_X8_isFixed a0 σ = some o) : gw_N (fun sz => gw_xZ G sz o) (fun sz => gw_XC G sz o) 2 l yX8_isFixed cX8_isFixed 5 (some .boolean) { frames := 7, cells := 2, slots := 12, locals := 103 } G [.ref (G.2.1 0), .int a0] σ := by
  refine gw_enx (own := RX8) (lv := [(0, .ref (G.2.1 0)), (1, .int a0)]) (by decide +kernel) rfl (Nat.le_of_ble_eq_true rfl) rfl ?_
  intro p e s m below meth c ls X hl hP
  obtain ⟨hx, hb, hml, hown, hts, -, -, hT, hZ, -⟩ := id X
  have hS : va_S (gw_A G s.heap.size) s.heap s.heap [] := va_S.rf
  have L36 : ∀ (n : Nat) (v36_1 : Int32) (v36_2 : Int32) (v36_3 : Int32) (σ : gw_S) (H : Heap) (locs : List Loc) (ls : Array Slot), f_X8_isFixed_L36 n v36_1 v36_2 v36_3 σ = some o → gw_P G σ H → va_S (gw_A G s.heap.size) s.heap H locs → lv_has ls 5 [(0, .ref (G.2.1 0)), (1, .int v36_1), (2, .int v36_2), (3, .int v36_3)] → W p l e { frames := 7, cells := 2, slots := 12, locals := 103 } s m [.ref (G.2.1 0), .int a0].toArray below meth c H locs 1 (6 * 1) (vx_MQ below (gw_xZ G s.heap.size o) (gw_XC G s.heap.size o) [.ref (G.2.1 0), .int a0].toArray s 2 (6 * 2) (gw_A G s.heap.size)) (F0 m 36 ls []) := by
    intro n
    induction n with
    | zero =>
      intro v36_1 v36_2 v36_3 σ H locs ls h
      exact absurd h (by rw [f_X8_isFixed_L36.eq_1]; exact fun h => nomatch h)
    | succ n ih =>
      intro v36_1 v36_2 v36_3 σ H locs ls h hP hS hl
      rw [f_X8_isFixed_L36.eq_2] at h
      refine lv_iload_n hx hb dX8_isFixed_36 rfl (lv_at hl 3 rfl) ?_
      refine lv_aload_n hx hb dX8_isFixed_37 rfl (lv_at hl 0 rfl) ?_
      refine va_get (D := G.1) (ci := 10) (v := .ref (G.2.1 1)) (C := RX8) (T := TX8) (N := 7) hx hb hts gx_X8 hown hT.2.1 hP 0 rfl rfl 0 (by decide) (hts _ gv_214) (fun _ h9 => h9) rfl dX8_isFixed_38 ?_
      obtain ⟨p5, gp5, h⟩ := Option.bind_eq_some_iff.mp h
      refine gw_ci (gw_rV (C := RX3) X hP hS (gc_X3_size l G  σ _ gp5) gk_X3_size gv_258 ⟨gv_259, gv_260⟩ (va_recv hT.2.1 hP (ci := 6) (q0 := 1) rfl rfl) rfl rfl (Nat.le_of_ble_eq_true rfl) hl.1 ⟨rfl, rfl⟩ ⟨Nat.le_of_ble_eq_true rfl, Nat.le_of_ble_eq_true rfl⟩ ⟨Nat.le_of_ble_eq_true rfl, Nat.le_of_ble_eq_true rfl⟩ dX8_isFixed_41) hS (fun H locs hP hS => ?_)
      refine lv_icmp_ge (tgt := 104) hx hb dX8_isFixed_44 (by decide) (fun c => ?_) (fun c => ?_)
      · have h := (if_pos c).symm.trans h
        refine lv_iconst (v := 1) hx hb dX8_isFixed_104 (by decide) ?_
        exact gw_xrz X hP hS rfl (Nat.le_of_ble_eq_true rfl) (Nat.le_of_ble_eq_true rfl) h dX8_isFixed_105
      · have h := (if_neg c).symm.trans h
        refine lv_iload_n hx hb dX8_isFixed_47 rfl (lv_at hl 2 rfl) ?_
        refine lv_iload_n hx hb dX8_isFixed_48 rfl (lv_at hl 3 rfl) ?_
        obtain ⟨p6, gp6, h⟩ := Option.bind_eq_some_iff.mp h
        refine gw_cz (gw_rS X hP hS (gc_X8_contains l G v36_2 v36_3 p5.2 _ gp6) gk_X8_contains gv_485 gv_278 rfl rfl (Nat.le_of_ble_eq_true rfl) hl.1 ⟨rfl, rfl⟩ ⟨Nat.le_of_ble_eq_true rfl, Nat.le_of_ble_eq_true rfl⟩ ⟨Nat.le_of_ble_eq_true rfl, Nat.le_of_ble_eq_true rfl⟩ dX8_isFixed_49) hS (fun H locs hb_p6 hP hS => ?_)
        refine lv_if_eq (tgt := 98) hx hb dX8_isFixed_52 (by decide) (fun c => ?_) (fun c => ?_)
        · have h := (if_pos c).symm.trans h
          refine lv_iinc (v := (v36_3 + (1 : Int32))) (lv' := [(3, .int (v36_3 + (1 : Int32))), (0, .ref (G.2.1 0)), (1, .int v36_1), (2, .int v36_2)]) hx hb dX8_isFixed_98 hl (k := 3) rfl rfl (by decide) rfl (fun ls hl => ?_)
          refine lv_goto (tgt := 36) hx hb dX8_isFixed_101 (by decide) ?_
          exact ih v36_1 v36_2 (v36_3 + (1 : Int32)) p6.2 _ _ _ h hP hS (lv_sub hl [1, 2, 3, 0] rfl)
        · have h := (if_neg c).symm.trans h
          refine lv_aload_n hx hb dX8_isFixed_55 rfl (lv_at hl 0 rfl) ?_
          refine va_get (D := G.1) (ci := 10) (v := .ref (G.2.1 30)) (C := RX8) (T := TX8) (N := 7) hx hb hts gx_X8 hown hT.2.1 hP 0 rfl rfl 6 (by decide) (hts _ gv_220) (fun _ h9 => h9) rfl dX8_isFixed_56 ?_
          refine lv_iload_n hx hb dX8_isFixed_59 rfl (lv_at hl 3 rfl) ?_
          refine lv_iconst (v := 0) hx hb dX8_isFixed_60 (by decide) ?_
          obtain ⟨p7, gp7, h⟩ := Option.bind_eq_some_iff.mp h
          refine gw_cv (gw_rV (C := RX7) X hP hS (gc_X7_enter l G v36_3 (0 : Int32) p6.2 _ gp7) gk_X7_enter gv_536 ⟨gv_496, gv_497⟩ (va_recv hT.2.1 hP (ci := 9) (q0 := 30) rfl rfl) rfl rfl (Nat.le_of_ble_eq_true rfl) hl.1 ⟨rfl, rfl⟩ ⟨Nat.le_of_ble_eq_true rfl, Nat.le_of_ble_eq_true rfl⟩ ⟨Nat.le_of_ble_eq_true rfl, Nat.le_of_ble_eq_true rfl⟩ dX8_isFixed_61) hS (fun H locs hP hS => ?_)
          refine lv_aload_n hx hb dX8_isFixed_64 rfl (lv_at hl 0 rfl) ?_
          refine va_get (D := G.1) (ci := 10) (v := .ref (G.2.1 30)) (C := RX8) (T := TX8) (N := 7) hx hb hts gx_X8 hown hT.2.1 hP 0 rfl rfl 6 (by decide) (hts _ gv_220) (fun _ h9 => h9) rfl dX8_isFixed_65 ?_
          refine lv_iload_n hx hb dX8_isFixed_68 rfl (lv_at hl 1 rfl) ?_
          obtain ⟨p8, gp8, h⟩ := Option.bind_eq_some_iff.mp h
          refine gw_ci (gw_rV (C := RX7) X hP hS (gc_X7_codeOf l G v36_1 p7 _ gp8) gk_X7_codeOf gv_548 ⟨gv_509, gv_510⟩ (va_recv hT.2.1 hP (ci := 9) (q0 := 30) rfl rfl) rfl rfl (Nat.le_of_ble_eq_true rfl) hl.1 ⟨rfl, rfl⟩ ⟨Nat.le_of_ble_eq_true rfl, Nat.le_of_ble_eq_true rfl⟩ ⟨Nat.le_of_ble_eq_true rfl, Nat.le_of_ble_eq_true rfl⟩ dX8_isFixed_69) hS (fun H locs hP hS => ?_)
          refine lv_istore (lv' := [(4, .int p8.1), (0, .ref (G.2.1 0)), (1, .int v36_1), (2, .int v36_2), (3, .int v36_3)]) hx hb dX8_isFixed_72 hl (by decide) rfl (fun ls hl => ?_)
          refine lv_aload_n hx hb dX8_isFixed_74 rfl (lv_at hl 1 rfl) ?_
          refine va_get (D := G.1) (ci := 10) (v := .ref (G.2.1 30)) (C := RX8) (T := TX8) (N := 7) hx hb hts gx_X8 hown hT.2.1 hP 0 rfl rfl 6 (by decide) (hts _ gv_220) (fun _ h9 => h9) rfl dX8_isFixed_75 ?_
          refine lv_iload_n hx hb dX8_isFixed_78 rfl (lv_at hl 4 rfl) ?_
          refine lv_iconst (v := 1) hx hb dX8_isFixed_79 (by decide) ?_
          obtain ⟨p9, gp9, h⟩ := Option.bind_eq_some_iff.mp h
          refine gw_cv (gw_rV (C := RX7) X hP hS (gc_X7_enter l G v36_3 (1 : Int32) p8.2 _ gp9) gk_X7_enter gv_536 ⟨gv_496, gv_497⟩ (va_recv hT.2.1 hP (ci := 9) (q0 := 30) rfl rfl) rfl rfl (Nat.le_of_ble_eq_true rfl) hl.1 ⟨rfl, rfl⟩ ⟨Nat.le_of_ble_eq_true rfl, Nat.le_of_ble_eq_true rfl⟩ ⟨Nat.le_of_ble_eq_true rfl, Nat.le_of_ble_eq_true rfl⟩ dX8_isFixed_80) hS (fun H locs hP hS => ?_)
          refine lv_aload_n hx hb dX8_isFixed_83 rfl (lv_at hl 1 rfl) ?_
          refine va_get (D := G.1) (ci := 10) (v := .ref (G.2.1 30)) (C := RX8) (T := TX8) (N := 7) hx hb hts gx_X8 hown hT.2.1 hP 0 rfl rfl 6 (by decide) (hts _ gv_220) (fun _ h9 => h9) rfl dX8_isFixed_84 ?_
          refine lv_iload_n hx hb dX8_isFixed_87 rfl (lv_at hl 2 rfl) ?_
          obtain ⟨p10, gp10, h⟩ := Option.bind_eq_some_iff.mp h
          refine gw_ci (gw_rV (C := RX7) X hP hS (gc_X7_codeOf l G v36_1 p9 _ gp10) gk_X7_codeOf gv_548 ⟨gv_509, gv_510⟩ (va_recv hT.2.1 hP (ci := 9) (q0 := 30) rfl rfl) rfl rfl (Nat.le_of_ble_eq_true rfl) hl.1 ⟨rfl, rfl⟩ ⟨Nat.le_of_ble_eq_true rfl, Nat.le_of_ble_eq_true rfl⟩ ⟨Nat.le_of_ble_eq_true rfl, Nat.le_of_ble_eq_true rfl⟩ dX8_isFixed_88) hS (fun H locs hP hS => ?_)
          refine lv_iload hx hb dX8_isFixed_91 (lv_at hl 0 rfl) ?_
          refine lv_icmp_eq (tgt := 98) hx hb dX8_isFixed_93 (by decide) (fun c => ?_) (fun c => ?_)
          · have h := (if_pos c).symm.trans h
            refine lv_iinc (v := (v36_3 + (1 : Int32))) (lv' := [(3, .int (v36_3 + (1 : Int32))), (4, .int p8.1), (0, .ref (G.2.1 0)), (1, .int v36_1), (2, .int v36_2)]) hx hb dX8_isFixed_98 hl (k := 4) rfl rfl (by decide) rfl (fun ls hl => ?_)
            refine lv_goto (tgt := 36) hx hb dX8_isFixed_101 (by decide) ?_
            exact ih v36_1 v36_2 (v36_3 + (1 : Int32)) p10.2 _ _ _ h hP hS (lv_sub hl [2, 3, 4, 0] rfl)
          · have h := (if_neg c).symm.trans h
            refine lv_iconst (v := 0) hx hb dX8_isFixed_96 (by decide) ?_
            exact gw_xrz X hP hS rfl (Nat.le_of_ble_eq_true rfl) (Nat.le_of_ble_eq_true rfl) h dX8_isFixed_97
  unfold f_X8_isFixed at h
  refine lv_aload_n hx hb dX8_isFixed_0 rfl (lv_at hl 0 rfl) ?_
  refine lv_iload_n hx hb dX8_isFixed_1 rfl (lv_at hl 1 rfl) ?_
  obtain ⟨q2, gq2, h⟩ := Option.bind_eq_some_iff.mp h
  refine gw_cx X h (gw_xV_ (C := RX8) X hP hS (gc_X8_needName l hfl G a0 σ _ gq2) gk_X8_needName gv_821 ⟨gv_823, gv_s15⟩ (va_recv hT.2.1 hP (ci := 10) (q0 := 0) rfl rfl) rfl rfl (Nat.le_of_ble_eq_true rfl) hl.1 ⟨rfl, rfl⟩ ⟨Nat.le_of_ble_eq_true rfl, Nat.le_of_ble_eq_true rfl⟩ ⟨Nat.le_of_ble_eq_true rfl, Nat.le_of_ble_eq_true rfl⟩ dX8_isFixed_2) hS (Nat.le_of_ble_eq_true rfl) (Nat.le_of_ble_eq_true rfl) (fun u1 H locs h hP hS => ?_)
  refine lv_aload_n hx hb dX8_isFixed_5 rfl (lv_at hl 0 rfl) ?_
  refine va_get (D := G.1) (ci := 10) (v := .ref (G.2.1 1)) (C := RX8) (T := TX8) (N := 7) hx hb hts gx_X8 hown hT.2.1 hP 0 rfl rfl 0 (by decide) (hts _ gv_214) (fun _ h9 => h9) rfl dX8_isFixed_6 ?_
  obtain ⟨p3, gp3, h⟩ := Option.bind_eq_some_iff.mp h
  refine gw_cz (gw_rV (C := RX3) X hP hS (gc_X3_isKept l G  u1 _ gp3) gk_X3_isKept gv_1104 ⟨gv_1105, gv_1106⟩ (va_recv hT.2.1 hP (ci := 6) (q0 := 1) rfl rfl) rfl rfl (Nat.le_of_ble_eq_true rfl) hl.1 ⟨rfl, rfl⟩ ⟨Nat.le_of_ble_eq_true rfl, Nat.le_of_ble_eq_true rfl⟩ ⟨Nat.le_of_ble_eq_true rfl, Nat.le_of_ble_eq_true rfl⟩ dX8_isFixed_9) hS (fun H locs hb_p3 hP hS => ?_)
  refine lv_if_ne (tgt := 26) hx hb dX8_isFixed_12 (by decide) (fun c => ?_) (fun c => ?_)
  · have h := (if_neg c).symm.trans h
    refine lv_aload_n hx hb dX8_isFixed_26 rfl (lv_at hl 0 rfl) ?_
    refine va_get (D := G.1) (ci := 10) (v := .ref (G.2.1 1)) (C := RX8) (T := TX8) (N := 7) hx hb hts gx_X8 hown hT.2.1 hP 0 rfl rfl 0 (by decide) (hts _ gv_214) (fun _ h9 => h9) rfl dX8_isFixed_27 ?_
    obtain ⟨p4, gp4, h⟩ := Option.bind_eq_some_iff.mp h
    refine gw_ci (gw_rV (C := RX3) X hP hS (gc_X3_ends l G  p3.2 _ gp4) gk_X3_ends gv_240 ⟨gv_241, gv_242⟩ (va_recv hT.2.1 hP (ci := 6) (q0 := 1) rfl rfl) rfl rfl (Nat.le_of_ble_eq_true rfl) hl.1 ⟨rfl, rfl⟩ ⟨Nat.le_of_ble_eq_true rfl, Nat.le_of_ble_eq_true rfl⟩ ⟨Nat.le_of_ble_eq_true rfl, Nat.le_of_ble_eq_true rfl⟩ dX8_isFixed_30) hS (fun H locs hP hS => ?_)
    refine lv_istore_n (lv' := [(2, .int p4.1), (0, .ref (G.2.1 0)), (1, .int a0)]) hx hb dX8_isFixed_33 rfl hl (by decide) rfl (fun ls hl => ?_)
    refine lv_iconst (v := 0) hx hb dX8_isFixed_34 (by decide) ?_
    refine lv_istore_n (lv' := [(3, .int (0 : Int32)), (2, .int p4.1), (0, .ref (G.2.1 0)), (1, .int a0)]) hx hb dX8_isFixed_35 rfl hl (by decide) rfl (fun ls hl => ?_)
    exact L36 64 a0 p4.1 (0 : Int32) p4.2 _ _ _ h hP hS (lv_sub hl [2, 3, 1, 0] rfl)
  · have h := (if_pos c).symm.trans h
    exact gw_thrW X hP hS hfl ge_X8_82_86 (i := 23) rfl h hl.1 dX8_isFixed_15 dX8_isFixed_18 dX8_isFixed_19 dX8_isFixed_22 dX8_isFixed_25 ⟨Nat.le_of_ble_eq_true rfl, Nat.le_of_ble_eq_true rfl⟩ ⟨Nat.le_of_ble_eq_true rfl, Nat.le_of_ble_eq_true rfl⟩ (Nat.le_of_ble_eq_true rfl) (Nat.le_of_ble_eq_true rfl)
def f_X8_clear (σ : gw_S) : Option (Int32 × gw_S) := ((f_X1_removeAll  σ).bind fun p1 => (some (p1.1, p1.2)))
set_option maxHeartbeats 4000000 in
set_option maxRecDepth 100000 in
theorem gc_X8_clear (l : Launch) (G : gw_G) (σ : gw_S) (o : (Int32 × gw_S)) (h : f_X8_clear σ = some o) : gw_M (fun sz => gw_QI G sz o) l yX8_clear cX8_clear 1 (some .int) { frames := 1, cells := 0, slots := 0, locals := 21 } G [.ref (G.2.1 0)] σ := by
  refine gw_en (own := RX8) (lv := [(0, .ref (G.2.1 0))]) (by decide +kernel) rfl (Nat.le_of_ble_eq_true rfl) rfl ?_
  intro p e s m below meth c ls X hl hP
  obtain ⟨hx, hb, hml, hown, hts, -, -, hT, hZ, -⟩ := id X
  have hS : va_S (gw_A G s.heap.size) s.heap s.heap [] := va_S.rf
  unfold f_X8_clear at h
  refine lv_aload_n hx hb dX8_clear_0 rfl (lv_at hl 0 rfl) ?_
  refine va_get (D := G.1) (ci := 10) (v := .ref (G.2.1 11)) (C := RX8) (T := TX8) (N := 7) hx hb hts gx_X8 hown hT.2.1 hP 0 rfl rfl 2 (by decide) (hts _ gv_216) (fun _ h9 => h9) rfl dX8_clear_1 ?_
  obtain ⟨p1, gp1, h⟩ := Option.bind_eq_some_iff.mp h
  refine gw_ci (gw_rV (C := RX1) X hP hS (gc_X1_removeAll l G  σ _ gp1) gk_X1_removeAll gv_292 ⟨gv_293, gv_294⟩ (va_recv hT.2.1 hP (ci := 4) (q0 := 11) rfl rfl) rfl rfl (Nat.le_of_ble_eq_true rfl) hl.1 ⟨rfl, rfl⟩ ⟨Nat.le_of_ble_eq_true rfl, Nat.le_of_ble_eq_true rfl⟩ ⟨Nat.le_of_ble_eq_true rfl, Nat.le_of_ble_eq_true rfl⟩ dX8_clear_4) hS (fun H locs hP hS => ?_)
  exact gw_ri X hP hS h dX8_clear_7
def f_X8_checksum_L71 : Nat → (Int64 → Int32 → gw_S → Option (Int64 × gw_S)) → Int64 → Int32 → Int32 → gw_S → Option (Int64 × gw_S)
  | 0, _, _, _, _, _ => none
  | n + 1, K, v71_1, v71_3, v71_4, σ => ((f_X2_pairsOf v71_3 σ).bind fun p5 => (if p5.1 ≤ v71_4 then (K v71_1 v71_3 p5.2) else ((f_X2_lower v71_3 v71_4 p5.2).bind fun p6 => ((f_X2_promise v71_3 v71_4 p6.2).bind fun p7 => (f_X8_checksum_L71 n K ((((31 : Int64) * v71_1) + (p6.1).toInt64) + (((16 : Int32) * p7.1)).toInt64) v71_3 (v71_4 + (1 : Int32)) p7.2)))))
def f_X8_checksum_L41 : Nat → Int64 → Int32 → gw_S → Option (Int64 × gw_S)
  | 0, _, _, _ => none
  | n + 1, v41_1, v41_3, σ => ((f_X2_size  σ).bind fun p2 => (if p2.1 ≤ v41_3 then ((f_X1_size  p2.2).bind fun p3 => (some ((((31 : Int64) * v41_1) + (p3.1).toInt64), p3.2))) else ((f_X2_height v41_3 p2.2).bind fun p4 => (f_X8_checksum_L71 64 (fun w71_1 w71_3 σ71 => (f_X8_checksum_L41 n w71_1 (w71_3 + (1 : Int32)) σ71)) (((31 : Int64) * v41_1) + (p4.1).toInt64) v41_3 (0 : Int32) p4.2))))
def f_X8_checksum_L6 : Nat → Int64 → Int32 → gw_S → Option (Int64 × gw_S)
  | 0, _, _, _ => none
  | n + 1, v6_1, v6_3, σ => ((f_X3_size  σ).bind fun p1 => (if p1.1 ≤ v6_3 then (f_X8_checksum_L41 64 v6_1 (0 : Int32) p1.2) else ((f_X3_down v6_3 p1.2).bind fun p8 => (f_X8_checksum_L6 n (((31 : Int64) * v6_1) + (p8.1).toInt64) (v6_3 + (1 : Int32)) p8.2))))
def f_X8_checksum (σ : gw_S) : Option (Int64 × gw_S) := (f_X8_checksum_L6 64 (7 : Int64) (0 : Int32) σ)
set_option maxHeartbeats 4000000 in
set_option maxRecDepth 100000 in
theorem gc_X8_checksum (l : Launch) (G : gw_G) (σ : gw_S) (o : (Int64 × gw_S)) (h : f_X8_checksum σ = some o) : gw_M (fun sz => gw_QL G sz o) l yX8_checksum cX8_checksum 5 (some .long) { frames := 2, cells := 0, slots := 0, locals := 43 } G [.ref (G.2.1 0)] σ := by
  refine gw_en (own := RX8) (lv := [(0, .ref (G.2.1 0))]) (by decide +kernel) rfl (Nat.le_of_ble_eq_true rfl) rfl ?_
  intro p e s m below meth c ls X hl hP
  obtain ⟨hx, hb, hml, hown, hts, -, -, hT, hZ, -⟩ := id X
  have hS : va_S (gw_A G s.heap.size) s.heap s.heap [] := va_S.rf
  have L71 : ∀ (n : Nat) (K : Int64 → Int32 → gw_S → Option (Int64 × gw_S)) (v71_1 : Int64) (v71_3 : Int32) (v71_4 : Int32) (σ : gw_S) (H : Heap) (locs : List Loc) (ls : Array Slot), f_X8_checksum_L71 n K v71_1 v71_3 v71_4 σ = some o → gw_P G σ H → va_S (gw_A G s.heap.size) s.heap H locs → lv_has ls 5 [(0, .ref (G.2.1 0)), (1, .long v71_1), (3, .int v71_3), (4, .int v71_4)] → (∀ (w1 : Int64) (w3 : Int32) (σ : gw_S) (H : Heap) (locs : List Loc) (ls : Array Slot), K w1 w3 σ = some o → gw_P G σ H → va_S (gw_A G s.heap.size) s.heap H locs → lv_has ls 5 [(0, .ref (G.2.1 0)), (1, .long w1), (3, .int w3)] → W p l e { frames := 2, cells := 0, slots := 0, locals := 43 } s m [.ref (G.2.1 0)].toArray below meth c H locs 0 0 (MQ below (gw_QL G s.heap.size o) [.ref (G.2.1 0)].toArray s 0 0 (gw_A G s.heap.size)) (F0 m 123 ls [])) → W p l e { frames := 2, cells := 0, slots := 0, locals := 43 } s m [.ref (G.2.1 0)].toArray below meth c H locs 0 0 (MQ below (gw_QL G s.heap.size o) [.ref (G.2.1 0)].toArray s 0 0 (gw_A G s.heap.size)) (F0 m 71 ls []) := by
    intro n K
    induction n with
    | zero =>
      intro v71_1 v71_3 v71_4 σ H locs ls h
      exact absurd h (by rw [f_X8_checksum_L71.eq_1]; exact fun h => nomatch h)
    | succ n ih =>
      intro v71_1 v71_3 v71_4 σ H locs ls h hP hS hl hK
      rw [f_X8_checksum_L71.eq_2] at h
      refine lv_iload hx hb dX8_checksum_71 (lv_at hl 3 rfl) ?_
      refine lv_aload_n hx hb dX8_checksum_73 rfl (lv_at hl 0 rfl) ?_
      refine va_get (D := G.1) (ci := 10) (v := .ref (G.2.1 4)) (C := RX8) (T := TX8) (N := 7) hx hb hts gx_X8 hown hT.2.1 hP 0 rfl rfl 1 (by decide) (hts _ gv_215) (fun _ h9 => h9) rfl dX8_checksum_74 ?_
      refine lv_iload_n hx hb dX8_checksum_77 rfl (lv_at hl 2 rfl) ?_
      obtain ⟨p5, gp5, h⟩ := Option.bind_eq_some_iff.mp h
      refine gw_ci (gw_rV (C := RX2) X hP hS (gc_X2_pairsOf l G v71_3 σ _ gp5) gk_X2_pairsOf gv_312 ⟨gv_313, gv_314⟩ (va_recv hT.2.1 hP (ci := 5) (q0 := 4) rfl rfl) rfl rfl (Nat.le_of_ble_eq_true rfl) hl.1 ⟨rfl, rfl⟩ ⟨Nat.le_of_ble_eq_true rfl, Nat.le_of_ble_eq_true rfl⟩ ⟨Nat.le_of_ble_eq_true rfl, Nat.le_of_ble_eq_true rfl⟩ dX8_checksum_78) hS (fun H locs hP hS => ?_)
      refine lv_icmp_ge (tgt := 123) hx hb dX8_checksum_81 (by decide) (fun c => ?_) (fun c => ?_)
      · have h := (if_pos c).symm.trans h
        exact hK v71_1 v71_3 p5.2 _ _ _ h hP hS (lv_sub hl [0, 1, 2] rfl)
      · have h := (if_neg c).symm.trans h
        refine lv_ldc2 (v := 31) hx hb hown (hts _ gv_301) dX8_checksum_84 ?_
        refine lv_lload_n hx hb dX8_checksum_87 rfl (lv_at hl 1 rfl) ?_
        refine lv_lmul hx hb dX8_checksum_88 ?_
        refine lv_aload_n hx hb dX8_checksum_89 rfl (lv_at hl 0 rfl) ?_
        refine va_get (D := G.1) (ci := 10) (v := .ref (G.2.1 4)) (C := RX8) (T := TX8) (N := 7) hx hb hts gx_X8 hown hT.2.1 hP 0 rfl rfl 1 (by decide) (hts _ gv_215) (fun _ h9 => h9) rfl dX8_checksum_90 ?_
        refine lv_iload_n hx hb dX8_checksum_93 rfl (lv_at hl 2 rfl) ?_
        refine lv_iload hx hb dX8_checksum_94 (lv_at hl 3 rfl) ?_
        obtain ⟨p6, gp6, h⟩ := Option.bind_eq_some_iff.mp h
        refine gw_ci (gw_rV (C := RX2) X hP hS (gc_X2_lower l G v71_3 v71_4 p5.2 _ gp6) gk_X2_lower gv_316 ⟨gv_317, gv_318⟩ (va_recv hT.2.1 hP (ci := 5) (q0 := 4) rfl rfl) rfl rfl (Nat.le_of_ble_eq_true rfl) hl.1 ⟨rfl, rfl⟩ ⟨Nat.le_of_ble_eq_true rfl, Nat.le_of_ble_eq_true rfl⟩ ⟨Nat.le_of_ble_eq_true rfl, Nat.le_of_ble_eq_true rfl⟩ dX8_checksum_96) hS (fun H locs hP hS => ?_)
        refine lv_i2l hx hb dX8_checksum_99 rfl ?_
        refine lv_ladd hx hb dX8_checksum_100 ?_
        refine lv_bipush (v := 16) hx hb dX8_checksum_101 (by decide) ?_
        refine lv_aload_n hx hb dX8_checksum_103 rfl (lv_at hl 0 rfl) ?_
        refine va_get (D := G.1) (ci := 10) (v := .ref (G.2.1 4)) (C := RX8) (T := TX8) (N := 7) hx hb hts gx_X8 hown hT.2.1 hP 0 rfl rfl 1 (by decide) (hts _ gv_215) (fun _ h9 => h9) rfl dX8_checksum_104 ?_
        refine lv_iload_n hx hb dX8_checksum_107 rfl (lv_at hl 2 rfl) ?_
        refine lv_iload hx hb dX8_checksum_108 (lv_at hl 3 rfl) ?_
        obtain ⟨p7, gp7, h⟩ := Option.bind_eq_some_iff.mp h
        refine gw_ci (gw_rV (C := RX2) X hP hS (gc_X2_promise l G v71_3 v71_4 p6.2 _ gp7) gk_X2_promise gv_320 ⟨gv_321, gv_322⟩ (va_recv hT.2.1 hP (ci := 5) (q0 := 4) rfl rfl) rfl rfl (Nat.le_of_ble_eq_true rfl) hl.1 ⟨rfl, rfl⟩ ⟨Nat.le_of_ble_eq_true rfl, Nat.le_of_ble_eq_true rfl⟩ ⟨Nat.le_of_ble_eq_true rfl, Nat.le_of_ble_eq_true rfl⟩ dX8_checksum_110) hS (fun H locs hP hS => ?_)
        refine lv_imul hx hb dX8_checksum_113 ?_
        refine lv_i2l hx hb dX8_checksum_114 rfl ?_
        refine lv_ladd hx hb dX8_checksum_115 ?_
        refine lv_lstore_n (lv' := [(1, .long ((((31 : Int64) * v71_1) + (p6.1).toInt64) + (((16 : Int32) * p7.1)).toInt64)), (0, .ref (G.2.1 0)), (3, .int v71_3), (4, .int v71_4)]) hx hb dX8_checksum_116 rfl hl (by decide) rfl (fun ls hl => ?_)
        refine lv_iinc (v := (v71_4 + (1 : Int32))) (lv' := [(4, .int (v71_4 + (1 : Int32))), (1, .long ((((31 : Int64) * v71_1) + (p6.1).toInt64) + (((16 : Int32) * p7.1)).toInt64)), (0, .ref (G.2.1 0)), (3, .int v71_3)]) hx hb dX8_checksum_117 hl (k := 3) rfl rfl (by decide) rfl (fun ls hl => ?_)
        refine lv_goto (tgt := 71) hx hb dX8_checksum_120 (by decide) ?_
        exact ih ((((31 : Int64) * v71_1) + (p6.1).toInt64) + (((16 : Int32) * p7.1)).toInt64) v71_3 (v71_4 + (1 : Int32)) p7.2 _ _ _ h hP hS (lv_sub hl [2, 1, 3, 0] rfl) hK
  have L41 : ∀ (n : Nat) (v41_1 : Int64) (v41_3 : Int32) (σ : gw_S) (H : Heap) (locs : List Loc) (ls : Array Slot), f_X8_checksum_L41 n v41_1 v41_3 σ = some o → gw_P G σ H → va_S (gw_A G s.heap.size) s.heap H locs → lv_has ls 5 [(0, .ref (G.2.1 0)), (1, .long v41_1), (3, .int v41_3)] → W p l e { frames := 2, cells := 0, slots := 0, locals := 43 } s m [.ref (G.2.1 0)].toArray below meth c H locs 0 0 (MQ below (gw_QL G s.heap.size o) [.ref (G.2.1 0)].toArray s 0 0 (gw_A G s.heap.size)) (F0 m 41 ls []) := by
    intro n
    induction n with
    | zero =>
      intro v41_1 v41_3 σ H locs ls h
      exact absurd h (by rw [f_X8_checksum_L41.eq_1]; exact fun h => nomatch h)
    | succ n ih =>
      intro v41_1 v41_3 σ H locs ls h hP hS hl
      rw [f_X8_checksum_L41.eq_2] at h
      refine lv_iload_n hx hb dX8_checksum_41 rfl (lv_at hl 2 rfl) ?_
      refine lv_aload_n hx hb dX8_checksum_42 rfl (lv_at hl 0 rfl) ?_
      refine va_get (D := G.1) (ci := 10) (v := .ref (G.2.1 4)) (C := RX8) (T := TX8) (N := 7) hx hb hts gx_X8 hown hT.2.1 hP 0 rfl rfl 1 (by decide) (hts _ gv_215) (fun _ h9 => h9) rfl dX8_checksum_43 ?_
      obtain ⟨p2, gp2, h⟩ := Option.bind_eq_some_iff.mp h
      refine gw_ci (gw_rV (C := RX2) X hP hS (gc_X2_size l G  σ _ gp2) gk_X2_size gv_303 ⟨gv_304, gv_305⟩ (va_recv hT.2.1 hP (ci := 5) (q0 := 4) rfl rfl) rfl rfl (Nat.le_of_ble_eq_true rfl) hl.1 ⟨rfl, rfl⟩ ⟨Nat.le_of_ble_eq_true rfl, Nat.le_of_ble_eq_true rfl⟩ ⟨Nat.le_of_ble_eq_true rfl, Nat.le_of_ble_eq_true rfl⟩ dX8_checksum_46) hS (fun H locs hP hS => ?_)
      refine lv_icmp_ge (tgt := 129) hx hb dX8_checksum_49 (by decide) (fun c => ?_) (fun c => ?_)
      · have h := (if_pos c).symm.trans h
        refine lv_ldc2 (v := 31) hx hb hown (hts _ gv_301) dX8_checksum_129 ?_
        refine lv_lload_n hx hb dX8_checksum_132 rfl (lv_at hl 1 rfl) ?_
        refine lv_lmul hx hb dX8_checksum_133 ?_
        refine lv_aload_n hx hb dX8_checksum_134 rfl (lv_at hl 0 rfl) ?_
        refine va_get (D := G.1) (ci := 10) (v := .ref (G.2.1 11)) (C := RX8) (T := TX8) (N := 7) hx hb hts gx_X8 hown hT.2.1 hP 0 rfl rfl 2 (by decide) (hts _ gv_216) (fun _ h9 => h9) rfl dX8_checksum_135 ?_
        obtain ⟨p3, gp3, h⟩ := Option.bind_eq_some_iff.mp h
        refine gw_ci (gw_rV (C := RX1) X hP hS (gc_X1_size l G  p2.2 _ gp3) gk_X1_size gv_324 ⟨gv_325, gv_326⟩ (va_recv hT.2.1 hP (ci := 4) (q0 := 11) rfl rfl) rfl rfl (Nat.le_of_ble_eq_true rfl) hl.1 ⟨rfl, rfl⟩ ⟨Nat.le_of_ble_eq_true rfl, Nat.le_of_ble_eq_true rfl⟩ ⟨Nat.le_of_ble_eq_true rfl, Nat.le_of_ble_eq_true rfl⟩ dX8_checksum_138) hS (fun H locs hP hS => ?_)
        refine lv_i2l hx hb dX8_checksum_141 rfl ?_
        refine lv_ladd hx hb dX8_checksum_142 ?_
        exact gw_rl X hP hS h dX8_checksum_143
      · have h := (if_neg c).symm.trans h
        refine lv_ldc2 (v := 31) hx hb hown (hts _ gv_301) dX8_checksum_52 ?_
        refine lv_lload_n hx hb dX8_checksum_55 rfl (lv_at hl 1 rfl) ?_
        refine lv_lmul hx hb dX8_checksum_56 ?_
        refine lv_aload_n hx hb dX8_checksum_57 rfl (lv_at hl 0 rfl) ?_
        refine va_get (D := G.1) (ci := 10) (v := .ref (G.2.1 4)) (C := RX8) (T := TX8) (N := 7) hx hb hts gx_X8 hown hT.2.1 hP 0 rfl rfl 1 (by decide) (hts _ gv_215) (fun _ h9 => h9) rfl dX8_checksum_58 ?_
        refine lv_iload_n hx hb dX8_checksum_61 rfl (lv_at hl 2 rfl) ?_
        obtain ⟨p4, gp4, h⟩ := Option.bind_eq_some_iff.mp h
        refine gw_ci (gw_rV (C := RX2) X hP hS (gc_X2_height l G v41_3 p2.2 _ gp4) gk_X2_height gv_307 ⟨gv_308, gv_309⟩ (va_recv hT.2.1 hP (ci := 5) (q0 := 4) rfl rfl) rfl rfl (Nat.le_of_ble_eq_true rfl) hl.1 ⟨rfl, rfl⟩ ⟨Nat.le_of_ble_eq_true rfl, Nat.le_of_ble_eq_true rfl⟩ ⟨Nat.le_of_ble_eq_true rfl, Nat.le_of_ble_eq_true rfl⟩ dX8_checksum_62) hS (fun H locs hP hS => ?_)
        refine lv_i2l hx hb dX8_checksum_65 rfl ?_
        refine lv_ladd hx hb dX8_checksum_66 ?_
        refine lv_lstore_n (lv' := [(1, .long (((31 : Int64) * v41_1) + (p4.1).toInt64)), (0, .ref (G.2.1 0)), (3, .int v41_3)]) hx hb dX8_checksum_67 rfl hl (by decide) rfl (fun ls hl => ?_)
        refine lv_iconst (v := 0) hx hb dX8_checksum_68 (by decide) ?_
        refine lv_istore (lv' := [(4, .int (0 : Int32)), (1, .long (((31 : Int64) * v41_1) + (p4.1).toInt64)), (0, .ref (G.2.1 0)), (3, .int v41_3)]) hx hb dX8_checksum_69 hl (by decide) rfl (fun ls hl => ?_)
        refine L71 64 _ (((31 : Int64) * v41_1) + (p4.1).toInt64) v41_3 (0 : Int32) p4.2 _ _ _ h hP hS (lv_sub hl [2, 1, 3, 0] rfl) (fun w71_1 w71_3 σ71 H locs ls h hP hS hl => ?_)
        refine lv_iinc (v := (w71_3 + (1 : Int32))) (lv' := [(3, .int (w71_3 + (1 : Int32))), (0, .ref (G.2.1 0)), (1, .long w71_1)]) hx hb dX8_checksum_123 hl (k := 2) rfl rfl (by decide) rfl (fun ls hl => ?_)
        refine lv_goto (tgt := 41) hx hb dX8_checksum_126 (by decide) ?_
        exact ih w71_1 (w71_3 + (1 : Int32)) σ71 _ _ _ h hP hS (lv_sub hl [1, 2, 0] rfl)
  have L6 : ∀ (n : Nat) (v6_1 : Int64) (v6_3 : Int32) (σ : gw_S) (H : Heap) (locs : List Loc) (ls : Array Slot), f_X8_checksum_L6 n v6_1 v6_3 σ = some o → gw_P G σ H → va_S (gw_A G s.heap.size) s.heap H locs → lv_has ls 5 [(0, .ref (G.2.1 0)), (1, .long v6_1), (3, .int v6_3)] → W p l e { frames := 2, cells := 0, slots := 0, locals := 43 } s m [.ref (G.2.1 0)].toArray below meth c H locs 0 0 (MQ below (gw_QL G s.heap.size o) [.ref (G.2.1 0)].toArray s 0 0 (gw_A G s.heap.size)) (F0 m 6 ls []) := by
    intro n
    induction n with
    | zero =>
      intro v6_1 v6_3 σ H locs ls h
      exact absurd h (by rw [f_X8_checksum_L6.eq_1]; exact fun h => nomatch h)
    | succ n ih =>
      intro v6_1 v6_3 σ H locs ls h hP hS hl
      rw [f_X8_checksum_L6.eq_2] at h
      refine lv_iload_n hx hb dX8_checksum_6 rfl (lv_at hl 2 rfl) ?_
      refine lv_aload_n hx hb dX8_checksum_7 rfl (lv_at hl 0 rfl) ?_
      refine va_get (D := G.1) (ci := 10) (v := .ref (G.2.1 1)) (C := RX8) (T := TX8) (N := 7) hx hb hts gx_X8 hown hT.2.1 hP 0 rfl rfl 0 (by decide) (hts _ gv_214) (fun _ h9 => h9) rfl dX8_checksum_8 ?_
      obtain ⟨p1, gp1, h⟩ := Option.bind_eq_some_iff.mp h
      refine gw_ci (gw_rV (C := RX3) X hP hS (gc_X3_size l G  σ _ gp1) gk_X3_size gv_258 ⟨gv_259, gv_260⟩ (va_recv hT.2.1 hP (ci := 6) (q0 := 1) rfl rfl) rfl rfl (Nat.le_of_ble_eq_true rfl) hl.1 ⟨rfl, rfl⟩ ⟨Nat.le_of_ble_eq_true rfl, Nat.le_of_ble_eq_true rfl⟩ ⟨Nat.le_of_ble_eq_true rfl, Nat.le_of_ble_eq_true rfl⟩ dX8_checksum_11) hS (fun H locs hP hS => ?_)
      refine lv_icmp_ge (tgt := 39) hx hb dX8_checksum_14 (by decide) (fun c => ?_) (fun c => ?_)
      · have h := (if_pos c).symm.trans h
        refine lv_iconst (v := 0) hx hb dX8_checksum_39 (by decide) ?_
        refine lv_istore_n (lv' := [(3, .int (0 : Int32)), (0, .ref (G.2.1 0)), (1, .long v6_1)]) hx hb dX8_checksum_40 rfl hl (by decide) rfl (fun ls hl => ?_)
        exact L41 64 v6_1 (0 : Int32) p1.2 _ _ _ h hP hS (lv_sub hl [1, 2, 0] rfl)
      · have h := (if_neg c).symm.trans h
        refine lv_ldc2 (v := 31) hx hb hown (hts _ gv_301) dX8_checksum_17 ?_
        refine lv_lload_n hx hb dX8_checksum_20 rfl (lv_at hl 1 rfl) ?_
        refine lv_lmul hx hb dX8_checksum_21 ?_
        refine lv_aload_n hx hb dX8_checksum_22 rfl (lv_at hl 0 rfl) ?_
        refine va_get (D := G.1) (ci := 10) (v := .ref (G.2.1 1)) (C := RX8) (T := TX8) (N := 7) hx hb hts gx_X8 hown hT.2.1 hP 0 rfl rfl 0 (by decide) (hts _ gv_214) (fun _ h9 => h9) rfl dX8_checksum_23 ?_
        refine lv_iload_n hx hb dX8_checksum_26 rfl (lv_at hl 2 rfl) ?_
        obtain ⟨p8, gp8, h⟩ := Option.bind_eq_some_iff.mp h
        refine gw_ci (gw_rV (C := RX3) X hP hS (gc_X3_down l G v6_3 p1.2 _ gp8) gk_X3_down gv_302 ⟨gv_271, gv_272⟩ (va_recv hT.2.1 hP (ci := 6) (q0 := 1) rfl rfl) rfl rfl (Nat.le_of_ble_eq_true rfl) hl.1 ⟨rfl, rfl⟩ ⟨Nat.le_of_ble_eq_true rfl, Nat.le_of_ble_eq_true rfl⟩ ⟨Nat.le_of_ble_eq_true rfl, Nat.le_of_ble_eq_true rfl⟩ dX8_checksum_27) hS (fun H locs hP hS => ?_)
        refine lv_i2l hx hb dX8_checksum_30 rfl ?_
        refine lv_ladd hx hb dX8_checksum_31 ?_
        refine lv_lstore_n (lv' := [(1, .long (((31 : Int64) * v6_1) + (p8.1).toInt64)), (0, .ref (G.2.1 0)), (3, .int v6_3)]) hx hb dX8_checksum_32 rfl hl (by decide) rfl (fun ls hl => ?_)
        refine lv_iinc (v := (v6_3 + (1 : Int32))) (lv' := [(3, .int (v6_3 + (1 : Int32))), (1, .long (((31 : Int64) * v6_1) + (p8.1).toInt64)), (0, .ref (G.2.1 0))]) hx hb dX8_checksum_33 hl (k := 2) rfl rfl (by decide) rfl (fun ls hl => ?_)
        refine lv_goto (tgt := 6) hx hb dX8_checksum_36 (by decide) ?_
        exact ih (((31 : Int64) * v6_1) + (p8.1).toInt64) (v6_3 + (1 : Int32)) p8.2 _ _ _ h hP hS (lv_sub hl [2, 1, 0] rfl)
  unfold f_X8_checksum at h
  refine lv_ldc2 (v := 7) hx hb hown (hts _ gv_300) dX8_checksum_0 ?_
  refine lv_lstore_n (lv' := [(1, .long (7 : Int64)), (0, .ref (G.2.1 0))]) hx hb dX8_checksum_3 rfl hl (by decide) rfl (fun ls hl => ?_)
  refine lv_iconst (v := 0) hx hb dX8_checksum_4 (by decide) ?_
  refine lv_istore_n (lv' := [(3, .int (0 : Int32)), (1, .long (7 : Int64)), (0, .ref (G.2.1 0))]) hx hb dX8_checksum_5 rfl hl (by decide) rfl (fun ls hl => ?_)
  exact L6 64 (7 : Int64) (0 : Int32) σ _ _ _ h hP hS (lv_sub hl [2, 1, 0] rfl)
def f_X8_isForcedAsValued_L2 : Nat → Int32 → Int32 → Int32 → gw_S → Option (Int32 × gw_S)
  | 0, _, _, _, _ => none
  | n + 1, v2_1, v2_2, v2_3, σ => ((f_X3_size  σ).bind fun p1 => (if p1.1 ≤ v2_3 then (some ((1 : Int32), p1.2)) else ((f_X8_contains v2_1 v2_3 p1.2).bind fun p2 => ((f_X3_endsOf v2_3 p2.2).bind fun p3 => ((f_X8_isPart p3.1 v2_2 p3.2).bind fun p4 => (if p2.1 = p4.1 then (f_X8_isForcedAsValued_L2 n v2_1 v2_2 (v2_3 + (1 : Int32)) p4.2) else (some ((0 : Int32), p4.2))))))))
def f_X8_isForcedAsValued (a0 : Int32) (a1 : Int32) (σ : gw_S) : Option (Int32 × gw_S) := (f_X8_isForcedAsValued_L2 64 a0 a1 (0 : Int32) σ)
set_option maxHeartbeats 4000000 in
set_option maxRecDepth 100000 in
theorem gc_X8_isForcedAsValued (l : Launch) (G : gw_G) (a0 : Int32) (a1 : Int32) (σ : gw_S) (o : (Int32 × gw_S)) (h : f_X8_isForcedAsValued a0 a1 σ = some o) : gw_M (fun sz => gw_QZ G sz o) l yX8_isForcedAsValued cX8_isForcedAsValued 4 (some .boolean) { frames := 2, cells := 0, slots := 0, locals := 42 } G [.ref (G.2.1 0), .int a0, .int a1] σ := by
  refine gw_en (own := RX8) (lv := [(0, .ref (G.2.1 0)), (1, .int a0), (2, .int a1)]) (by decide +kernel) rfl (Nat.le_of_ble_eq_true rfl) rfl ?_
  intro p e s m below meth c ls X hl hP
  obtain ⟨hx, hb, hml, hown, hts, -, -, hT, hZ, -⟩ := id X
  have hS : va_S (gw_A G s.heap.size) s.heap s.heap [] := va_S.rf
  have L2 : ∀ (n : Nat) (v2_1 : Int32) (v2_2 : Int32) (v2_3 : Int32) (σ : gw_S) (H : Heap) (locs : List Loc) (ls : Array Slot), f_X8_isForcedAsValued_L2 n v2_1 v2_2 v2_3 σ = some o → gw_P G σ H → va_S (gw_A G s.heap.size) s.heap H locs → lv_has ls 4 [(0, .ref (G.2.1 0)), (1, .int v2_1), (2, .int v2_2), (3, .int v2_3)] → W p l e { frames := 2, cells := 0, slots := 0, locals := 42 } s m [.ref (G.2.1 0), .int a0, .int a1].toArray below meth c H locs 0 0 (MQ below (gw_QZ G s.heap.size o) [.ref (G.2.1 0), .int a0, .int a1].toArray s 0 0 (gw_A G s.heap.size)) (F0 m 2 ls []) := by
    intro n
    induction n with
    | zero =>
      intro v2_1 v2_2 v2_3 σ H locs ls h
      exact absurd h (by rw [f_X8_isForcedAsValued_L2.eq_1]; exact fun h => nomatch h)
    | succ n ih =>
      intro v2_1 v2_2 v2_3 σ H locs ls h hP hS hl
      rw [f_X8_isForcedAsValued_L2.eq_2] at h
      refine lv_iload_n hx hb dX8_isForcedAsValued_2 rfl (lv_at hl 3 rfl) ?_
      refine lv_aload_n hx hb dX8_isForcedAsValued_3 rfl (lv_at hl 0 rfl) ?_
      refine va_get (D := G.1) (ci := 10) (v := .ref (G.2.1 1)) (C := RX8) (T := TX8) (N := 7) hx hb hts gx_X8 hown hT.2.1 hP 0 rfl rfl 0 (by decide) (hts _ gv_214) (fun _ h9 => h9) rfl dX8_isForcedAsValued_4 ?_
      obtain ⟨p1, gp1, h⟩ := Option.bind_eq_some_iff.mp h
      refine gw_ci (gw_rV (C := RX3) X hP hS (gc_X3_size l G  σ _ gp1) gk_X3_size gv_258 ⟨gv_259, gv_260⟩ (va_recv hT.2.1 hP (ci := 6) (q0 := 1) rfl rfl) rfl rfl (Nat.le_of_ble_eq_true rfl) hl.1 ⟨rfl, rfl⟩ ⟨Nat.le_of_ble_eq_true rfl, Nat.le_of_ble_eq_true rfl⟩ ⟨Nat.le_of_ble_eq_true rfl, Nat.le_of_ble_eq_true rfl⟩ dX8_isForcedAsValued_7) hS (fun H locs hP hS => ?_)
      refine lv_icmp_ge (tgt := 41) hx hb dX8_isForcedAsValued_10 (by decide) (fun c => ?_) (fun c => ?_)
      · have h := (if_pos c).symm.trans h
        refine lv_iconst (v := 1) hx hb dX8_isForcedAsValued_41 (by decide) ?_
        exact gw_rz X hP hS rfl h dX8_isForcedAsValued_42
      · have h := (if_neg c).symm.trans h
        refine lv_iload_n hx hb dX8_isForcedAsValued_13 rfl (lv_at hl 1 rfl) ?_
        refine lv_iload_n hx hb dX8_isForcedAsValued_14 rfl (lv_at hl 3 rfl) ?_
        obtain ⟨p2, gp2, h⟩ := Option.bind_eq_some_iff.mp h
        refine gw_cz (gw_rS X hP hS (gc_X8_contains l G v2_1 v2_3 p1.2 _ gp2) gk_X8_contains gv_485 gv_278 rfl rfl (Nat.le_of_ble_eq_true rfl) hl.1 ⟨rfl, rfl⟩ ⟨Nat.le_of_ble_eq_true rfl, Nat.le_of_ble_eq_true rfl⟩ ⟨Nat.le_of_ble_eq_true rfl, Nat.le_of_ble_eq_true rfl⟩ dX8_isForcedAsValued_15) hS (fun H locs hb_p2 hP hS => ?_)
        refine lv_aload_n hx hb dX8_isForcedAsValued_18 rfl (lv_at hl 0 rfl) ?_
        refine va_get (D := G.1) (ci := 10) (v := .ref (G.2.1 1)) (C := RX8) (T := TX8) (N := 7) hx hb hts gx_X8 hown hT.2.1 hP 0 rfl rfl 0 (by decide) (hts _ gv_214) (fun _ h9 => h9) rfl dX8_isForcedAsValued_19 ?_
        refine lv_iload_n hx hb dX8_isForcedAsValued_22 rfl (lv_at hl 3 rfl) ?_
        obtain ⟨p3, gp3, h⟩ := Option.bind_eq_some_iff.mp h
        refine gw_ci (gw_rV (C := RX3) X hP hS (gc_X3_endsOf l G v2_3 p2.2 _ gp3) gk_X3_endsOf gv_486 ⟨gv_398, gv_399⟩ (va_recv hT.2.1 hP (ci := 6) (q0 := 1) rfl rfl) rfl rfl (Nat.le_of_ble_eq_true rfl) hl.1 ⟨rfl, rfl⟩ ⟨Nat.le_of_ble_eq_true rfl, Nat.le_of_ble_eq_true rfl⟩ ⟨Nat.le_of_ble_eq_true rfl, Nat.le_of_ble_eq_true rfl⟩ dX8_isForcedAsValued_23) hS (fun H locs hP hS => ?_)
        refine lv_iload_n hx hb dX8_isForcedAsValued_26 rfl (lv_at hl 2 rfl) ?_
        obtain ⟨p4, gp4, h⟩ := Option.bind_eq_some_iff.mp h
        refine gw_cz (gw_rS X hP hS (gc_X8_isPart l G p3.1 v2_2 p3.2 _ gp4) gk_X8_isPart gv_487 gv_392 rfl rfl (Nat.le_of_ble_eq_true rfl) hl.1 ⟨rfl, rfl⟩ ⟨Nat.le_of_ble_eq_true rfl, Nat.le_of_ble_eq_true rfl⟩ ⟨Nat.le_of_ble_eq_true rfl, Nat.le_of_ble_eq_true rfl⟩ dX8_isForcedAsValued_27) hS (fun H locs hb_p4 hP hS => ?_)
        refine lv_icmp_eq (tgt := 35) hx hb dX8_isForcedAsValued_30 (by decide) (fun c => ?_) (fun c => ?_)
        · have h := (if_pos c).symm.trans h
          refine lv_iinc (v := (v2_3 + (1 : Int32))) (lv' := [(3, .int (v2_3 + (1 : Int32))), (0, .ref (G.2.1 0)), (1, .int v2_1), (2, .int v2_2)]) hx hb dX8_isForcedAsValued_35 hl (k := 3) rfl rfl (by decide) rfl (fun ls hl => ?_)
          refine lv_goto (tgt := 2) hx hb dX8_isForcedAsValued_38 (by decide) ?_
          exact ih v2_1 v2_2 (v2_3 + (1 : Int32)) p4.2 _ _ _ h hP hS (lv_sub hl [1, 2, 3, 0] rfl)
        · have h := (if_neg c).symm.trans h
          refine lv_iconst (v := 0) hx hb dX8_isForcedAsValued_33 (by decide) ?_
          exact gw_rz X hP hS rfl h dX8_isForcedAsValued_34
  unfold f_X8_isForcedAsValued at h
  refine lv_iconst (v := 0) hx hb dX8_isForcedAsValued_0 (by decide) ?_
  refine lv_istore_n (lv' := [(3, .int (0 : Int32)), (0, .ref (G.2.1 0)), (1, .int a0), (2, .int a1)]) hx hb dX8_isForcedAsValued_1 rfl hl (by decide) rfl (fun ls hl => ?_)
  exact L2 64 a0 a1 (0 : Int32) σ _ _ _ h hP hS (lv_sub hl [1, 2, 3, 0] rfl)
def f_X8_isAlikeAsBecome_L15 : Nat → (Int32 → Int32 → gw_S → Option (Int32 × gw_S)) → Int32 → Int32 → Int32 → gw_S → Option (Int32 × gw_S)
  | 0, _, _, _, _, _ => none
  | n + 1, K, v15_1, v15_2, v15_3, σ => ((f_X2_size  σ).bind fun p2 => (if p2.1 ≤ v15_3 then (K v15_1 v15_2 p2.2) else ((f_X5_alike_V v15_2 v15_3 p2.2).bind fun p3 => ((f_X8_contains p3.1 v15_1 p3.2).bind fun p4 => (if p4.1 = 0 then (f_X8_isAlikeAsBecome_L15 n K v15_1 v15_2 (v15_3 + (1 : Int32)) p4.2) else ((f_X7_codeOf v15_2 p4.2).bind fun p5 => ((f_X7_codeOf v15_3 p5.2).bind fun p6 => (if p5.1 = p6.1 then (f_X8_isAlikeAsBecome_L15 n K v15_1 v15_2 (v15_3 + (1 : Int32)) p6.2) else (some ((0 : Int32), p6.2))))))))))
def f_X8_isAlikeAsBecome_L2 : Nat → Int32 → Int32 → gw_S → Option (Int32 × gw_S)
  | 0, _, _, _ => none
  | n + 1, v2_1, v2_2, σ => ((f_X2_size  σ).bind fun p1 => (if p1.1 ≤ v2_2 then (some ((1 : Int32), p1.2)) else (f_X8_isAlikeAsBecome_L15 64 (fun w15_1 w15_2 σ15 => (f_X8_isAlikeAsBecome_L2 n w15_1 (w15_2 + (1 : Int32)) σ15)) v2_1 v2_2 (0 : Int32) p1.2)))
def f_X8_isAlikeAsBecome (a0 : Int32) (σ : gw_S) : Option (Int32 × gw_S) := (f_X8_isAlikeAsBecome_L2 64 a0 (0 : Int32) σ)
set_option maxHeartbeats 4000000 in
set_option maxRecDepth 100000 in
theorem gc_X8_isAlikeAsBecome (l : Launch) (G : gw_G) (a0 : Int32) (σ : gw_S) (o : (Int32 × gw_S)) (h : f_X8_isAlikeAsBecome a0 σ = some o) : gw_M (fun sz => gw_QZ G sz o) l yX8_isAlikeAsBecome cX8_isAlikeAsBecome 4 (some .boolean) { frames := 6, cells := 0, slots := 0, locals := 134 } G [.ref (G.2.1 0), .int a0] σ := by
  refine gw_en (own := RX8) (lv := [(0, .ref (G.2.1 0)), (1, .int a0)]) (by decide +kernel) rfl (Nat.le_of_ble_eq_true rfl) rfl ?_
  intro p e s m below meth c ls X hl hP
  obtain ⟨hx, hb, hml, hown, hts, -, -, hT, hZ, -⟩ := id X
  have hS : va_S (gw_A G s.heap.size) s.heap s.heap [] := va_S.rf
  have L15 : ∀ (n : Nat) (K : Int32 → Int32 → gw_S → Option (Int32 × gw_S)) (v15_1 : Int32) (v15_2 : Int32) (v15_3 : Int32) (σ : gw_S) (H : Heap) (locs : List Loc) (ls : Array Slot), f_X8_isAlikeAsBecome_L15 n K v15_1 v15_2 v15_3 σ = some o → gw_P G σ H → va_S (gw_A G s.heap.size) s.heap H locs → lv_has ls 4 [(0, .ref (G.2.1 0)), (1, .int v15_1), (2, .int v15_2), (3, .int v15_3)] → (∀ (w1 : Int32) (w2 : Int32) (σ : gw_S) (H : Heap) (locs : List Loc) (ls : Array Slot), K w1 w2 σ = some o → gw_P G σ H → va_S (gw_A G s.heap.size) s.heap H locs → lv_has ls 4 [(0, .ref (G.2.1 0)), (1, .int w1), (2, .int w2)] → W p l e { frames := 6, cells := 0, slots := 0, locals := 134 } s m [.ref (G.2.1 0), .int a0].toArray below meth c H locs 0 0 (MQ below (gw_QZ G s.heap.size o) [.ref (G.2.1 0), .int a0].toArray s 0 0 (gw_A G s.heap.size)) (F0 m 69 ls [])) → W p l e { frames := 6, cells := 0, slots := 0, locals := 134 } s m [.ref (G.2.1 0), .int a0].toArray below meth c H locs 0 0 (MQ below (gw_QZ G s.heap.size o) [.ref (G.2.1 0), .int a0].toArray s 0 0 (gw_A G s.heap.size)) (F0 m 15 ls []) := by
    intro n K
    induction n with
    | zero =>
      intro v15_1 v15_2 v15_3 σ H locs ls h
      exact absurd h (by rw [f_X8_isAlikeAsBecome_L15.eq_1]; exact fun h => nomatch h)
    | succ n ih =>
      intro v15_1 v15_2 v15_3 σ H locs ls h hP hS hl hK
      rw [f_X8_isAlikeAsBecome_L15.eq_2] at h
      refine lv_iload_n hx hb dX8_isAlikeAsBecome_15 rfl (lv_at hl 3 rfl) ?_
      refine lv_aload_n hx hb dX8_isAlikeAsBecome_16 rfl (lv_at hl 0 rfl) ?_
      refine va_get (D := G.1) (ci := 10) (v := .ref (G.2.1 4)) (C := RX8) (T := TX8) (N := 7) hx hb hts gx_X8 hown hT.2.1 hP 0 rfl rfl 1 (by decide) (hts _ gv_215) (fun _ h9 => h9) rfl dX8_isAlikeAsBecome_17 ?_
      obtain ⟨p2, gp2, h⟩ := Option.bind_eq_some_iff.mp h
      refine gw_ci (gw_rV (C := RX2) X hP hS (gc_X2_size l G  σ _ gp2) gk_X2_size gv_303 ⟨gv_304, gv_305⟩ (va_recv hT.2.1 hP (ci := 5) (q0 := 4) rfl rfl) rfl rfl (Nat.le_of_ble_eq_true rfl) hl.1 ⟨rfl, rfl⟩ ⟨Nat.le_of_ble_eq_true rfl, Nat.le_of_ble_eq_true rfl⟩ ⟨Nat.le_of_ble_eq_true rfl, Nat.le_of_ble_eq_true rfl⟩ dX8_isAlikeAsBecome_20) hS (fun H locs hP hS => ?_)
      refine lv_icmp_ge (tgt := 69) hx hb dX8_isAlikeAsBecome_23 (by decide) (fun c => ?_) (fun c => ?_)
      · have h := (if_pos c).symm.trans h
        exact hK v15_1 v15_2 p2.2 _ _ _ h hP hS (lv_sub hl [0, 1, 2] rfl)
      · have h := (if_neg c).symm.trans h
        refine lv_aload_n hx hb dX8_isAlikeAsBecome_26 rfl (lv_at hl 0 rfl) ?_
        refine va_get (D := G.1) (ci := 10) (v := .ref (G.2.1 18)) (C := RX8) (T := TX8) (N := 7) hx hb hts gx_X8 hown hT.2.1 hP 0 rfl rfl 3 (by decide) (hts _ gv_217) (fun _ h9 => h9) rfl dX8_isAlikeAsBecome_27 ?_
        refine lv_iload_n hx hb dX8_isAlikeAsBecome_30 rfl (lv_at hl 2 rfl) ?_
        refine lv_iload_n hx hb dX8_isAlikeAsBecome_31 rfl (lv_at hl 3 rfl) ?_
        obtain ⟨p3, gp3, h⟩ := Option.bind_eq_some_iff.mp h
        refine gw_ci (gw_rU (x := ⟨"Genericwood$Way", "alike", "(II)I"⟩) (owner := "Genericwood$Way") (C := RX4) X hP hS (gc_X5_alike_V l G v15_2 v15_3 p2.2 _ gp3) gk_X5_alike ⟨by decide +kernel, by decide +kernel⟩ gv_541 ⟨gv_543, gv_545, gv_542⟩ (va_Decl.of (hts _ gv_542) (hts _ gk_X5_alike.1)) (va_recv hT.2.1 hP (ci := 7) (q0 := 18) rfl rfl) rfl rfl (Nat.le_of_ble_eq_true rfl) hl.1 ⟨rfl, rfl⟩ ⟨Nat.le_of_ble_eq_true rfl, Nat.le_of_ble_eq_true rfl⟩ ⟨Nat.le_of_ble_eq_true rfl, Nat.le_of_ble_eq_true rfl⟩ dX8_isAlikeAsBecome_32) hS (fun H locs hP hS => ?_)
        refine lv_iload_n hx hb dX8_isAlikeAsBecome_35 rfl (lv_at hl 1 rfl) ?_
        obtain ⟨p4, gp4, h⟩ := Option.bind_eq_some_iff.mp h
        refine gw_cz (gw_rS X hP hS (gc_X8_contains l G p3.1 v15_1 p3.2 _ gp4) gk_X8_contains gv_485 gv_278 rfl rfl (Nat.le_of_ble_eq_true rfl) hl.1 ⟨rfl, rfl⟩ ⟨Nat.le_of_ble_eq_true rfl, Nat.le_of_ble_eq_true rfl⟩ ⟨Nat.le_of_ble_eq_true rfl, Nat.le_of_ble_eq_true rfl⟩ dX8_isAlikeAsBecome_36) hS (fun H locs hb_p4 hP hS => ?_)
        refine lv_if_eq (tgt := 63) hx hb dX8_isAlikeAsBecome_39 (by decide) (fun c => ?_) (fun c => ?_)
        · have h := (if_pos c).symm.trans h
          refine lv_iinc (v := (v15_3 + (1 : Int32))) (lv' := [(3, .int (v15_3 + (1 : Int32))), (0, .ref (G.2.1 0)), (1, .int v15_1), (2, .int v15_2)]) hx hb dX8_isAlikeAsBecome_63 hl (k := 3) rfl rfl (by decide) rfl (fun ls hl => ?_)
          refine lv_goto (tgt := 15) hx hb dX8_isAlikeAsBecome_66 (by decide) ?_
          exact ih v15_1 v15_2 (v15_3 + (1 : Int32)) p4.2 _ _ _ h hP hS (lv_sub hl [1, 2, 3, 0] rfl) hK
        · have h := (if_neg c).symm.trans h
          refine lv_aload_n hx hb dX8_isAlikeAsBecome_42 rfl (lv_at hl 0 rfl) ?_
          refine va_get (D := G.1) (ci := 10) (v := .ref (G.2.1 30)) (C := RX8) (T := TX8) (N := 7) hx hb hts gx_X8 hown hT.2.1 hP 0 rfl rfl 6 (by decide) (hts _ gv_220) (fun _ h9 => h9) rfl dX8_isAlikeAsBecome_43 ?_
          refine lv_iload_n hx hb dX8_isAlikeAsBecome_46 rfl (lv_at hl 2 rfl) ?_
          obtain ⟨p5, gp5, h⟩ := Option.bind_eq_some_iff.mp h
          refine gw_ci (gw_rV (C := RX7) X hP hS (gc_X7_codeOf l G v15_2 p4.2 _ gp5) gk_X7_codeOf gv_548 ⟨gv_509, gv_510⟩ (va_recv hT.2.1 hP (ci := 9) (q0 := 30) rfl rfl) rfl rfl (Nat.le_of_ble_eq_true rfl) hl.1 ⟨rfl, rfl⟩ ⟨Nat.le_of_ble_eq_true rfl, Nat.le_of_ble_eq_true rfl⟩ ⟨Nat.le_of_ble_eq_true rfl, Nat.le_of_ble_eq_true rfl⟩ dX8_isAlikeAsBecome_47) hS (fun H locs hP hS => ?_)
          refine lv_aload_n hx hb dX8_isAlikeAsBecome_50 rfl (lv_at hl 0 rfl) ?_
          refine va_get (D := G.1) (ci := 10) (v := .ref (G.2.1 30)) (C := RX8) (T := TX8) (N := 7) hx hb hts gx_X8 hown hT.2.1 hP 0 rfl rfl 6 (by decide) (hts _ gv_220) (fun _ h9 => h9) rfl dX8_isAlikeAsBecome_51 ?_
          refine lv_iload_n hx hb dX8_isAlikeAsBecome_54 rfl (lv_at hl 3 rfl) ?_
          obtain ⟨p6, gp6, h⟩ := Option.bind_eq_some_iff.mp h
          refine gw_ci (gw_rV (C := RX7) X hP hS (gc_X7_codeOf l G v15_3 p5.2 _ gp6) gk_X7_codeOf gv_548 ⟨gv_509, gv_510⟩ (va_recv hT.2.1 hP (ci := 9) (q0 := 30) rfl rfl) rfl rfl (Nat.le_of_ble_eq_true rfl) hl.1 ⟨rfl, rfl⟩ ⟨Nat.le_of_ble_eq_true rfl, Nat.le_of_ble_eq_true rfl⟩ ⟨Nat.le_of_ble_eq_true rfl, Nat.le_of_ble_eq_true rfl⟩ dX8_isAlikeAsBecome_55) hS (fun H locs hP hS => ?_)
          refine lv_icmp_eq (tgt := 63) hx hb dX8_isAlikeAsBecome_58 (by decide) (fun c => ?_) (fun c => ?_)
          · have h := (if_pos c).symm.trans h
            refine lv_iinc (v := (v15_3 + (1 : Int32))) (lv' := [(3, .int (v15_3 + (1 : Int32))), (0, .ref (G.2.1 0)), (1, .int v15_1), (2, .int v15_2)]) hx hb dX8_isAlikeAsBecome_63 hl (k := 3) rfl rfl (by decide) rfl (fun ls hl => ?_)
            refine lv_goto (tgt := 15) hx hb dX8_isAlikeAsBecome_66 (by decide) ?_
            exact ih v15_1 v15_2 (v15_3 + (1 : Int32)) p6.2 _ _ _ h hP hS (lv_sub hl [1, 2, 3, 0] rfl) hK
          · have h := (if_neg c).symm.trans h
            refine lv_iconst (v := 0) hx hb dX8_isAlikeAsBecome_61 (by decide) ?_
            exact gw_rz X hP hS rfl h dX8_isAlikeAsBecome_62
  have L2 : ∀ (n : Nat) (v2_1 : Int32) (v2_2 : Int32) (σ : gw_S) (H : Heap) (locs : List Loc) (ls : Array Slot), f_X8_isAlikeAsBecome_L2 n v2_1 v2_2 σ = some o → gw_P G σ H → va_S (gw_A G s.heap.size) s.heap H locs → lv_has ls 4 [(0, .ref (G.2.1 0)), (1, .int v2_1), (2, .int v2_2)] → W p l e { frames := 6, cells := 0, slots := 0, locals := 134 } s m [.ref (G.2.1 0), .int a0].toArray below meth c H locs 0 0 (MQ below (gw_QZ G s.heap.size o) [.ref (G.2.1 0), .int a0].toArray s 0 0 (gw_A G s.heap.size)) (F0 m 2 ls []) := by
    intro n
    induction n with
    | zero =>
      intro v2_1 v2_2 σ H locs ls h
      exact absurd h (by rw [f_X8_isAlikeAsBecome_L2.eq_1]; exact fun h => nomatch h)
    | succ n ih =>
      intro v2_1 v2_2 σ H locs ls h hP hS hl
      rw [f_X8_isAlikeAsBecome_L2.eq_2] at h
      refine lv_iload_n hx hb dX8_isAlikeAsBecome_2 rfl (lv_at hl 2 rfl) ?_
      refine lv_aload_n hx hb dX8_isAlikeAsBecome_3 rfl (lv_at hl 0 rfl) ?_
      refine va_get (D := G.1) (ci := 10) (v := .ref (G.2.1 4)) (C := RX8) (T := TX8) (N := 7) hx hb hts gx_X8 hown hT.2.1 hP 0 rfl rfl 1 (by decide) (hts _ gv_215) (fun _ h9 => h9) rfl dX8_isAlikeAsBecome_4 ?_
      obtain ⟨p1, gp1, h⟩ := Option.bind_eq_some_iff.mp h
      refine gw_ci (gw_rV (C := RX2) X hP hS (gc_X2_size l G  σ _ gp1) gk_X2_size gv_303 ⟨gv_304, gv_305⟩ (va_recv hT.2.1 hP (ci := 5) (q0 := 4) rfl rfl) rfl rfl (Nat.le_of_ble_eq_true rfl) hl.1 ⟨rfl, rfl⟩ ⟨Nat.le_of_ble_eq_true rfl, Nat.le_of_ble_eq_true rfl⟩ ⟨Nat.le_of_ble_eq_true rfl, Nat.le_of_ble_eq_true rfl⟩ dX8_isAlikeAsBecome_7) hS (fun H locs hP hS => ?_)
      refine lv_icmp_ge (tgt := 75) hx hb dX8_isAlikeAsBecome_10 (by decide) (fun c => ?_) (fun c => ?_)
      · have h := (if_pos c).symm.trans h
        refine lv_iconst (v := 1) hx hb dX8_isAlikeAsBecome_75 (by decide) ?_
        exact gw_rz X hP hS rfl h dX8_isAlikeAsBecome_76
      · have h := (if_neg c).symm.trans h
        refine lv_iconst (v := 0) hx hb dX8_isAlikeAsBecome_13 (by decide) ?_
        refine lv_istore_n (lv' := [(3, .int (0 : Int32)), (0, .ref (G.2.1 0)), (1, .int v2_1), (2, .int v2_2)]) hx hb dX8_isAlikeAsBecome_14 rfl hl (by decide) rfl (fun ls hl => ?_)
        refine L15 64 _ v2_1 v2_2 (0 : Int32) p1.2 _ _ _ h hP hS (lv_sub hl [1, 2, 3, 0] rfl) (fun w15_1 w15_2 σ15 H locs ls h hP hS hl => ?_)
        refine lv_iinc (v := (w15_2 + (1 : Int32))) (lv' := [(2, .int (w15_2 + (1 : Int32))), (0, .ref (G.2.1 0)), (1, .int w15_1)]) hx hb dX8_isAlikeAsBecome_69 hl (k := 2) rfl rfl (by decide) rfl (fun ls hl => ?_)
        refine lv_goto (tgt := 2) hx hb dX8_isAlikeAsBecome_72 (by decide) ?_
        exact ih w15_1 (w15_2 + (1 : Int32)) σ15 _ _ _ h hP hS (lv_sub hl [1, 2, 0] rfl)
  unfold f_X8_isAlikeAsBecome at h
  refine lv_iconst (v := 0) hx hb dX8_isAlikeAsBecome_0 (by decide) ?_
  refine lv_istore_n (lv' := [(2, .int (0 : Int32)), (0, .ref (G.2.1 0)), (1, .int a0)]) hx hb dX8_isAlikeAsBecome_1 rfl hl (by decide) rfl (fun ls hl => ?_)
  exact L2 64 a0 (0 : Int32) σ _ _ _ h hP hS (lv_sub hl [1, 2, 0] rfl)
def f_X8_isSound_L79 : Nat → Int32 → Int32 → gw_S → Option (Int32 × gw_S)
  | 0, _, _, _ => none
  | n + 1, v79_1, v79_2, σ => ((f_X3_size  σ).bind fun p3 => (if p3.1 ≤ v79_2 then (some ((1 : Int32), p3.2)) else ((f_X8_contains v79_1 v79_2 p3.2).bind fun p4 => (if p4.1 = 0 then (f_X8_isSound_L79 n v79_1 (v79_2 + (1 : Int32)) p4.2) else ((f_X7_enter v79_2 (0 : Int32) p4.2).bind fun p5 => ((f_X8_isAlikeAsBecome v79_2 p5).bind fun p6 => (if p6.1 = 0 then (some ((0 : Int32), p6.2)) else (f_X8_isSound_L79 n v79_1 (v79_2 + (1 : Int32)) p6.2))))))))
def f_X8_isSound_L2 : Nat → Int32 → gw_S → Option (Int32 × gw_S)
  | 0, _, _ => none
  | n + 1, v2_1, σ => ((f_X1_size  σ).bind fun p1 => (if p1.1 ≤ v2_1 then ((f_X3_ends  p1.2).bind fun p2 => (f_X8_isSound_L79 64 p2.1 (0 : Int32) p2.2)) else ((f_X1_open v2_1 p1.2).bind fun p7 => (if p7.1 = 0 then ((f_X5_judge_V v2_1 p7.2).bind fun p8 => ((f_X5_judge_F v2_1 p8.2).bind fun p9 => ((f_X8_isForcedAsValued p9.1 p8.1 p9.2).bind fun p10 => (if p10.1 = 0 then (some ((0 : Int32), p10.2)) else ((f_X7_worldsOf v2_1 p10.2).bind fun p11 => (if p8.1 = p11.1 then (f_X8_isSound_L2 n (v2_1 + (1 : Int32)) p11.2) else (some ((0 : Int32), p11.2)))))))) else (f_X8_isSound_L2 n (v2_1 + (1 : Int32)) p7.2)))))
def f_X8_isSound (σ : gw_S) : Option (Int32 × gw_S) := (f_X8_isSound_L2 64 (0 : Int32) σ)
set_option maxHeartbeats 4000000 in
set_option maxRecDepth 100000 in
theorem gc_X8_isSound (l : Launch) (G : gw_G) (σ : gw_S) (o : (Int32 × gw_S)) (h : f_X8_isSound σ = some o) : gw_M (fun sz => gw_QZ G sz o) l yX8_isSound cX8_isSound 3 (some .boolean) { frames := 302, cells := 0, slots := 0, locals := 5045 } G [.ref (G.2.1 0)] σ := by
  refine gw_en (own := RX8) (lv := [(0, .ref (G.2.1 0))]) (by decide +kernel) rfl (Nat.le_of_ble_eq_true rfl) rfl ?_
  intro p e s m below meth c ls X hl hP
  obtain ⟨hx, hb, hml, hown, hts, -, -, hT, hZ, -⟩ := id X
  have hS : va_S (gw_A G s.heap.size) s.heap s.heap [] := va_S.rf
  have L79 : ∀ (n : Nat) (v79_1 : Int32) (v79_2 : Int32) (σ : gw_S) (H : Heap) (locs : List Loc) (ls : Array Slot), f_X8_isSound_L79 n v79_1 v79_2 σ = some o → gw_P G σ H → va_S (gw_A G s.heap.size) s.heap H locs → lv_has ls 3 [(0, .ref (G.2.1 0)), (1, .int v79_1), (2, .int v79_2)] → W p l e { frames := 302, cells := 0, slots := 0, locals := 5045 } s m [.ref (G.2.1 0)].toArray below meth c H locs 0 0 (MQ below (gw_QZ G s.heap.size o) [.ref (G.2.1 0)].toArray s 0 0 (gw_A G s.heap.size)) (F0 m 79 ls []) := by
    intro n
    induction n with
    | zero =>
      intro v79_1 v79_2 σ H locs ls h
      exact absurd h (by rw [f_X8_isSound_L79.eq_1]; exact fun h => nomatch h)
    | succ n ih =>
      intro v79_1 v79_2 σ H locs ls h hP hS hl
      rw [f_X8_isSound_L79.eq_2] at h
      refine lv_iload_n hx hb dX8_isSound_79 rfl (lv_at hl 2 rfl) ?_
      refine lv_aload_n hx hb dX8_isSound_80 rfl (lv_at hl 0 rfl) ?_
      refine va_get (D := G.1) (ci := 10) (v := .ref (G.2.1 1)) (C := RX8) (T := TX8) (N := 7) hx hb hts gx_X8 hown hT.2.1 hP 0 rfl rfl 0 (by decide) (hts _ gv_214) (fun _ h9 => h9) rfl dX8_isSound_81 ?_
      obtain ⟨p3, gp3, h⟩ := Option.bind_eq_some_iff.mp h
      refine gw_ci (gw_rV (C := RX3) X hP hS (gc_X3_size l G  σ _ gp3) gk_X3_size gv_258 ⟨gv_259, gv_260⟩ (va_recv hT.2.1 hP (ci := 6) (q0 := 1) rfl rfl) rfl rfl (Nat.le_of_ble_eq_true rfl) hl.1 ⟨rfl, rfl⟩ ⟨Nat.le_of_ble_eq_true rfl, Nat.le_of_ble_eq_true rfl⟩ ⟨Nat.le_of_ble_eq_true rfl, Nat.le_of_ble_eq_true rfl⟩ dX8_isSound_84) hS (fun H locs hP hS => ?_)
      refine lv_icmp_ge (tgt := 123) hx hb dX8_isSound_87 (by decide) (fun c => ?_) (fun c => ?_)
      · have h := (if_pos c).symm.trans h
        refine lv_iconst (v := 1) hx hb dX8_isSound_123 (by decide) ?_
        exact gw_rz X hP hS rfl h dX8_isSound_124
      · have h := (if_neg c).symm.trans h
        refine lv_iload_n hx hb dX8_isSound_90 rfl (lv_at hl 1 rfl) ?_
        refine lv_iload_n hx hb dX8_isSound_91 rfl (lv_at hl 2 rfl) ?_
        obtain ⟨p4, gp4, h⟩ := Option.bind_eq_some_iff.mp h
        refine gw_cz (gw_rS X hP hS (gc_X8_contains l G v79_1 v79_2 p3.2 _ gp4) gk_X8_contains gv_485 gv_278 rfl rfl (Nat.le_of_ble_eq_true rfl) hl.1 ⟨rfl, rfl⟩ ⟨Nat.le_of_ble_eq_true rfl, Nat.le_of_ble_eq_true rfl⟩ ⟨Nat.le_of_ble_eq_true rfl, Nat.le_of_ble_eq_true rfl⟩ dX8_isSound_92) hS (fun H locs hb_p4 hP hS => ?_)
        refine lv_if_eq (tgt := 117) hx hb dX8_isSound_95 (by decide) (fun c => ?_) (fun c => ?_)
        · have h := (if_pos c).symm.trans h
          refine lv_iinc (v := (v79_2 + (1 : Int32))) (lv' := [(2, .int (v79_2 + (1 : Int32))), (0, .ref (G.2.1 0)), (1, .int v79_1)]) hx hb dX8_isSound_117 hl (k := 2) rfl rfl (by decide) rfl (fun ls hl => ?_)
          refine lv_goto (tgt := 79) hx hb dX8_isSound_120 (by decide) ?_
          exact ih v79_1 (v79_2 + (1 : Int32)) p4.2 _ _ _ h hP hS (lv_sub hl [1, 2, 0] rfl)
        · have h := (if_neg c).symm.trans h
          refine lv_aload_n hx hb dX8_isSound_98 rfl (lv_at hl 0 rfl) ?_
          refine va_get (D := G.1) (ci := 10) (v := .ref (G.2.1 30)) (C := RX8) (T := TX8) (N := 7) hx hb hts gx_X8 hown hT.2.1 hP 0 rfl rfl 6 (by decide) (hts _ gv_220) (fun _ h9 => h9) rfl dX8_isSound_99 ?_
          refine lv_iload_n hx hb dX8_isSound_102 rfl (lv_at hl 2 rfl) ?_
          refine lv_iconst (v := 0) hx hb dX8_isSound_103 (by decide) ?_
          obtain ⟨p5, gp5, h⟩ := Option.bind_eq_some_iff.mp h
          refine gw_cv (gw_rV (C := RX7) X hP hS (gc_X7_enter l G v79_2 (0 : Int32) p4.2 _ gp5) gk_X7_enter gv_536 ⟨gv_496, gv_497⟩ (va_recv hT.2.1 hP (ci := 9) (q0 := 30) rfl rfl) rfl rfl (Nat.le_of_ble_eq_true rfl) hl.1 ⟨rfl, rfl⟩ ⟨Nat.le_of_ble_eq_true rfl, Nat.le_of_ble_eq_true rfl⟩ ⟨Nat.le_of_ble_eq_true rfl, Nat.le_of_ble_eq_true rfl⟩ dX8_isSound_104) hS (fun H locs hP hS => ?_)
          refine lv_aload_n hx hb dX8_isSound_107 rfl (lv_at hl 0 rfl) ?_
          refine lv_iload_n hx hb dX8_isSound_108 rfl (lv_at hl 2 rfl) ?_
          obtain ⟨p6, gp6, h⟩ := Option.bind_eq_some_iff.mp h
          refine gw_cz (gw_rV (C := RX8) X hP hS (gc_X8_isAlikeAsBecome l G v79_2 p5 _ gp6) gk_X8_isAlikeAsBecome gv_537 ⟨gv_539, gv_s5⟩ (va_recv hT.2.1 hP (ci := 10) (q0 := 0) rfl rfl) rfl rfl (Nat.le_of_ble_eq_true rfl) hl.1 ⟨rfl, rfl⟩ ⟨Nat.le_of_ble_eq_true rfl, Nat.le_of_ble_eq_true rfl⟩ ⟨Nat.le_of_ble_eq_true rfl, Nat.le_of_ble_eq_true rfl⟩ dX8_isSound_109) hS (fun H locs hb_p6 hP hS => ?_)
          refine lv_if_ne (tgt := 117) hx hb dX8_isSound_112 (by decide) (fun c => ?_) (fun c => ?_)
          · have h := (if_neg c).symm.trans h
            refine lv_iinc (v := (v79_2 + (1 : Int32))) (lv' := [(2, .int (v79_2 + (1 : Int32))), (0, .ref (G.2.1 0)), (1, .int v79_1)]) hx hb dX8_isSound_117 hl (k := 2) rfl rfl (by decide) rfl (fun ls hl => ?_)
            refine lv_goto (tgt := 79) hx hb dX8_isSound_120 (by decide) ?_
            exact ih v79_1 (v79_2 + (1 : Int32)) p6.2 _ _ _ h hP hS (lv_sub hl [1, 2, 0] rfl)
          · have h := (if_pos c).symm.trans h
            refine lv_iconst (v := 0) hx hb dX8_isSound_115 (by decide) ?_
            exact gw_rz X hP hS rfl h dX8_isSound_116
  have L2 : ∀ (n : Nat) (v2_1 : Int32) (σ : gw_S) (H : Heap) (locs : List Loc) (ls : Array Slot), f_X8_isSound_L2 n v2_1 σ = some o → gw_P G σ H → va_S (gw_A G s.heap.size) s.heap H locs → lv_has ls 3 [(0, .ref (G.2.1 0)), (1, .int v2_1)] → W p l e { frames := 302, cells := 0, slots := 0, locals := 5045 } s m [.ref (G.2.1 0)].toArray below meth c H locs 0 0 (MQ below (gw_QZ G s.heap.size o) [.ref (G.2.1 0)].toArray s 0 0 (gw_A G s.heap.size)) (F0 m 2 ls []) := by
    intro n
    induction n with
    | zero =>
      intro v2_1 σ H locs ls h
      exact absurd h (by rw [f_X8_isSound_L2.eq_1]; exact fun h => nomatch h)
    | succ n ih =>
      intro v2_1 σ H locs ls h hP hS hl
      rw [f_X8_isSound_L2.eq_2] at h
      refine lv_iload_n hx hb dX8_isSound_2 rfl (lv_at hl 1 rfl) ?_
      refine lv_aload_n hx hb dX8_isSound_3 rfl (lv_at hl 0 rfl) ?_
      refine va_get (D := G.1) (ci := 10) (v := .ref (G.2.1 11)) (C := RX8) (T := TX8) (N := 7) hx hb hts gx_X8 hown hT.2.1 hP 0 rfl rfl 2 (by decide) (hts _ gv_216) (fun _ h9 => h9) rfl dX8_isSound_4 ?_
      obtain ⟨p1, gp1, h⟩ := Option.bind_eq_some_iff.mp h
      refine gw_ci (gw_rV (C := RX1) X hP hS (gc_X1_size l G  σ _ gp1) gk_X1_size gv_324 ⟨gv_325, gv_326⟩ (va_recv hT.2.1 hP (ci := 4) (q0 := 11) rfl rfl) rfl rfl (Nat.le_of_ble_eq_true rfl) hl.1 ⟨rfl, rfl⟩ ⟨Nat.le_of_ble_eq_true rfl, Nat.le_of_ble_eq_true rfl⟩ ⟨Nat.le_of_ble_eq_true rfl, Nat.le_of_ble_eq_true rfl⟩ dX8_isSound_7) hS (fun H locs hP hS => ?_)
      refine lv_icmp_ge (tgt := 69) hx hb dX8_isSound_10 (by decide) (fun c => ?_) (fun c => ?_)
      · have h := (if_pos c).symm.trans h
        refine lv_aload_n hx hb dX8_isSound_69 rfl (lv_at hl 0 rfl) ?_
        refine va_get (D := G.1) (ci := 10) (v := .ref (G.2.1 1)) (C := RX8) (T := TX8) (N := 7) hx hb hts gx_X8 hown hT.2.1 hP 0 rfl rfl 0 (by decide) (hts _ gv_214) (fun _ h9 => h9) rfl dX8_isSound_70 ?_
        obtain ⟨p2, gp2, h⟩ := Option.bind_eq_some_iff.mp h
        refine gw_ci (gw_rV (C := RX3) X hP hS (gc_X3_ends l G  p1.2 _ gp2) gk_X3_ends gv_240 ⟨gv_241, gv_242⟩ (va_recv hT.2.1 hP (ci := 6) (q0 := 1) rfl rfl) rfl rfl (Nat.le_of_ble_eq_true rfl) hl.1 ⟨rfl, rfl⟩ ⟨Nat.le_of_ble_eq_true rfl, Nat.le_of_ble_eq_true rfl⟩ ⟨Nat.le_of_ble_eq_true rfl, Nat.le_of_ble_eq_true rfl⟩ dX8_isSound_73) hS (fun H locs hP hS => ?_)
        refine lv_istore_n (lv' := [(1, .int p2.1), (0, .ref (G.2.1 0))]) hx hb dX8_isSound_76 rfl hl (by decide) rfl (fun ls hl => ?_)
        refine lv_iconst (v := 0) hx hb dX8_isSound_77 (by decide) ?_
        refine lv_istore_n (lv' := [(2, .int (0 : Int32)), (1, .int p2.1), (0, .ref (G.2.1 0))]) hx hb dX8_isSound_78 rfl hl (by decide) rfl (fun ls hl => ?_)
        exact L79 64 p2.1 (0 : Int32) p2.2 _ _ _ h hP hS (lv_sub hl [2, 1, 0] rfl)
      · have h := (if_neg c).symm.trans h
        refine lv_aload_n hx hb dX8_isSound_13 rfl (lv_at hl 0 rfl) ?_
        refine va_get (D := G.1) (ci := 10) (v := .ref (G.2.1 11)) (C := RX8) (T := TX8) (N := 7) hx hb hts gx_X8 hown hT.2.1 hP 0 rfl rfl 2 (by decide) (hts _ gv_216) (fun _ h9 => h9) rfl dX8_isSound_14 ?_
        refine lv_iload_n hx hb dX8_isSound_17 rfl (lv_at hl 1 rfl) ?_
        obtain ⟨p7, gp7, h⟩ := Option.bind_eq_some_iff.mp h
        refine gw_ci (gw_rV (C := RX1) X hP hS (gc_X1_open l G v2_1 p1.2 _ gp7) gk_X1_open gv_332 ⟨gv_333, gv_334⟩ (va_recv hT.2.1 hP (ci := 4) (q0 := 11) rfl rfl) rfl rfl (Nat.le_of_ble_eq_true rfl) hl.1 ⟨rfl, rfl⟩ ⟨Nat.le_of_ble_eq_true rfl, Nat.le_of_ble_eq_true rfl⟩ ⟨Nat.le_of_ble_eq_true rfl, Nat.le_of_ble_eq_true rfl⟩ dX8_isSound_18) hS (fun H locs hP hS => ?_)
        refine lv_if_ne (tgt := 63) hx hb dX8_isSound_21 (by decide) (fun c => ?_) (fun c => ?_)
        · have h := (if_neg c).symm.trans h
          refine lv_iinc (v := (v2_1 + (1 : Int32))) (lv' := [(1, .int (v2_1 + (1 : Int32))), (0, .ref (G.2.1 0))]) hx hb dX8_isSound_63 hl (k := 1) rfl rfl (by decide) rfl (fun ls hl => ?_)
          refine lv_goto (tgt := 2) hx hb dX8_isSound_66 (by decide) ?_
          exact ih (v2_1 + (1 : Int32)) p7.2 _ _ _ h hP hS (lv_sub hl [1, 0] rfl)
        · have h := (if_pos c).symm.trans h
          refine lv_aload_n hx hb dX8_isSound_24 rfl (lv_at hl 0 rfl) ?_
          refine va_get (D := G.1) (ci := 10) (v := .ref (G.2.1 18)) (C := RX8) (T := TX8) (N := 7) hx hb hts gx_X8 hown hT.2.1 hP 0 rfl rfl 3 (by decide) (hts _ gv_217) (fun _ h9 => h9) rfl dX8_isSound_25 ?_
          refine lv_iload_n hx hb dX8_isSound_28 rfl (lv_at hl 1 rfl) ?_
          obtain ⟨p8, gp8, h⟩ := Option.bind_eq_some_iff.mp h
          refine gw_ci (gw_rU (x := ⟨"Genericwood$Way", "judge", "(I)I"⟩) (owner := "Genericwood$Way") (C := RX4) X hP hS (gc_X5_judge_V l G v2_1 p7.2 _ gp8) gk_X5_judge ⟨by decide +kernel, by decide +kernel⟩ gv_337 ⟨gv_339, gv_341, gv_338⟩ (va_Decl.of (hts _ gv_338) (hts _ gk_X5_judge.1)) (va_recv hT.2.1 hP (ci := 7) (q0 := 18) rfl rfl) rfl rfl (Nat.le_of_ble_eq_true rfl) hl.1 ⟨rfl, rfl⟩ ⟨Nat.le_of_ble_eq_true rfl, Nat.le_of_ble_eq_true rfl⟩ ⟨Nat.le_of_ble_eq_true rfl, Nat.le_of_ble_eq_true rfl⟩ dX8_isSound_29) hS (fun H locs hP hS => ?_)
          refine lv_istore_n (lv' := [(2, .int p8.1), (0, .ref (G.2.1 0)), (1, .int v2_1)]) hx hb dX8_isSound_32 rfl hl (by decide) rfl (fun ls hl => ?_)
          refine lv_aload_n hx hb dX8_isSound_33 rfl (lv_at hl 1 rfl) ?_
          refine lv_aload_n hx hb dX8_isSound_34 rfl (lv_at hl 1 rfl) ?_
          refine va_get (D := G.1) (ci := 10) (v := .ref (G.2.1 22)) (C := RX8) (T := TX8) (N := 7) hx hb hts gx_X8 hown hT.2.1 hP 0 rfl rfl 4 (by decide) (hts _ gv_218) (fun _ h9 => h9) rfl dX8_isSound_35 ?_
          refine lv_iload_n hx hb dX8_isSound_38 rfl (lv_at hl 2 rfl) ?_
          obtain ⟨p9, gp9, h⟩ := Option.bind_eq_some_iff.mp h
          refine gw_ci (gw_rU (x := ⟨"Genericwood$Way", "judge", "(I)I"⟩) (owner := "Genericwood$Way") (C := RX0) X hP hS (gc_X5_judge_F l G v2_1 p8.2 _ gp9) gk_X5_judge ⟨by decide +kernel, by decide +kernel⟩ gv_337 ⟨gv_339, gv_340, gv_338⟩ (va_Decl.of (hts _ gv_338) (hts _ gk_X5_judge.1)) (va_recv hT.2.1 hP (ci := 3) (q0 := 22) rfl rfl) rfl rfl (Nat.le_of_ble_eq_true rfl) hl.1 ⟨rfl, rfl⟩ ⟨Nat.le_of_ble_eq_true rfl, Nat.le_of_ble_eq_true rfl⟩ ⟨Nat.le_of_ble_eq_true rfl, Nat.le_of_ble_eq_true rfl⟩ dX8_isSound_39) hS (fun H locs hP hS => ?_)
          refine lv_iload_n hx hb dX8_isSound_42 rfl (lv_at hl 0 rfl) ?_
          obtain ⟨p10, gp10, h⟩ := Option.bind_eq_some_iff.mp h
          refine gw_cz (gw_rV (C := RX8) X hP hS (gc_X8_isForcedAsValued l G p9.1 p8.1 p9.2 _ gp10) gk_X8_isForcedAsValued gv_481 ⟨gv_483, gv_s1⟩ (va_recv hT.2.1 hP (ci := 10) (q0 := 0) rfl rfl) rfl rfl (Nat.le_of_ble_eq_true rfl) hl.1 ⟨rfl, rfl⟩ ⟨Nat.le_of_ble_eq_true rfl, Nat.le_of_ble_eq_true rfl⟩ ⟨Nat.le_of_ble_eq_true rfl, Nat.le_of_ble_eq_true rfl⟩ dX8_isSound_43) hS (fun H locs hb_p10 hP hS => ?_)
          refine lv_if_eq (tgt := 61) hx hb dX8_isSound_46 (by decide) (fun c => ?_) (fun c => ?_)
          · have h := (if_pos c).symm.trans h
            refine lv_iconst (v := 0) hx hb dX8_isSound_61 (by decide) ?_
            exact gw_rz X hP hS rfl h dX8_isSound_62
          · have h := (if_neg c).symm.trans h
            refine lv_iload_n hx hb dX8_isSound_49 rfl (lv_at hl 0 rfl) ?_
            refine lv_aload_n hx hb dX8_isSound_50 rfl (lv_at hl 1 rfl) ?_
            refine va_get (D := G.1) (ci := 10) (v := .ref (G.2.1 30)) (C := RX8) (T := TX8) (N := 7) hx hb hts gx_X8 hown hT.2.1 hP 0 rfl rfl 6 (by decide) (hts _ gv_220) (fun _ h9 => h9) rfl dX8_isSound_51 ?_
            refine lv_iload_n hx hb dX8_isSound_54 rfl (lv_at hl 2 rfl) ?_
            obtain ⟨p11, gp11, h⟩ := Option.bind_eq_some_iff.mp h
            refine gw_ci (gw_rV (C := RX7) X hP hS (gc_X7_worldsOf l G v2_1 p10.2 _ gp11) gk_X7_worldsOf gv_488 ⟨gv_489, gv_490⟩ (va_recv hT.2.1 hP (ci := 9) (q0 := 30) rfl rfl) rfl rfl (Nat.le_of_ble_eq_true rfl) hl.1 ⟨rfl, rfl⟩ ⟨Nat.le_of_ble_eq_true rfl, Nat.le_of_ble_eq_true rfl⟩ ⟨Nat.le_of_ble_eq_true rfl, Nat.le_of_ble_eq_true rfl⟩ dX8_isSound_55) hS (fun H locs hP hS => ?_)
            refine lv_icmp_eq (tgt := 63) hx hb dX8_isSound_58 (by decide) (fun c => ?_) (fun c => ?_)
            · have h := (if_pos c).symm.trans h
              refine lv_iinc (v := (v2_1 + (1 : Int32))) (lv' := [(1, .int (v2_1 + (1 : Int32))), (2, .int p8.1), (0, .ref (G.2.1 0))]) hx hb dX8_isSound_63 hl (k := 2) rfl rfl (by decide) rfl (fun ls hl => ?_)
              refine lv_goto (tgt := 2) hx hb dX8_isSound_66 (by decide) ?_
              exact ih (v2_1 + (1 : Int32)) p11.2 _ _ _ h hP hS (lv_sub hl [2, 0] rfl)
            · have h := (if_neg c).symm.trans h
              refine lv_iconst (v := 0) hx hb dX8_isSound_61 (by decide) ?_
              exact gw_rz X hP hS rfl h dX8_isSound_62
  unfold f_X8_isSound at h
  refine lv_iconst (v := 0) hx hb dX8_isSound_0 (by decide) ?_
  refine lv_istore_n (lv' := [(1, .int (0 : Int32)), (0, .ref (G.2.1 0))]) hx hb dX8_isSound_1 rfl hl (by decide) rfl (fun ls hl => ?_)
  exact L2 64 (0 : Int32) σ _ _ _ h hP hS (lv_sub hl [1, 0] rfl)
