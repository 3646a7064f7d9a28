theorem gv_139 : Cond.fieldLink RX4 7 "Genericwood$Valued" "order" "LGenericwood$Order;" ∈ gw_L := gw_tab 139 (by decide +kernel) (by decide +kernel)
theorem gv_140 : Cond.sameField "Genericwood$Valued" "Genericwood$Way" "order" "LGenericwood$Order;" ∈ gw_L := gw_tab 140 (by decide +kernel) (by decide +kernel)
theorem gv_243 : Cond.code yX3_ends cX3_ends 1 (some .int) ∈ gw_L := gw_tab 243 (by decide +kernel) (by decide +kernel)
theorem gk_X3_ends : gw_K yX3_ends cX3_ends 1 (some .int) 0 := ⟨gv_243, gv_2, by decide +kernel, by decide +kernel⟩
theorem gv_241 : Cond.instanceMethod yX3_ends ∈ gw_L := gw_tab 241 (by decide +kernel) (by decide +kernel)
theorem gv_377 : Cond.methodLink RX4 13 yX3_ends ∈ gw_L := gw_tab 377 (by decide +kernel) (by decide +kernel)
theorem gv_242 : Cond.selects RX3 yX3_ends yX3_ends ∈ gw_L := gw_tab 242 (by decide +kernel) (by decide +kernel)
theorem gv_400 : Cond.code yX3_endsOf cX3_endsOf 2 (some .int) ∈ gw_L := gw_tab 400 (by decide +kernel) (by decide +kernel)
theorem gk_X3_endsOf : gw_K yX3_endsOf cX3_endsOf 2 (some .int) 1 := ⟨gv_400, gv_2, by decide +kernel, by decide +kernel⟩
theorem gv_398 : Cond.instanceMethod yX3_endsOf ∈ gw_L := gw_tab 398 (by decide +kernel) (by decide +kernel)
theorem gv_397 : Cond.methodLink RX4 19 yX3_endsOf ∈ gw_L := gw_tab 397 (by decide +kernel) (by decide +kernel)
theorem gv_399 : Cond.selects RX3 yX3_endsOf yX3_endsOf ∈ gw_L := gw_tab 399 (by decide +kernel) (by decide +kernel)
theorem gv_137 : Cond.fieldLink RX6 7 "Genericwood$Weak" "order" "LGenericwood$Order;" ∈ gw_L := gw_tab 137 (by decide +kernel) (by decide +kernel)
theorem gv_138 : Cond.sameField "Genericwood$Weak" "Genericwood$Way" "order" "LGenericwood$Order;" ∈ gw_L := gw_tab 138 (by decide +kernel) (by decide +kernel)
theorem gv_373 : Cond.code yX3_all cX3_all 1 (some .int) ∈ gw_L := gw_tab 373 (by decide +kernel) (by decide +kernel)
theorem gk_X3_all : gw_K yX3_all cX3_all 1 (some .int) 0 := ⟨gv_373, gv_2, by decide +kernel, by decide +kernel⟩
theorem gv_371 : Cond.instanceMethod yX3_all ∈ gw_L := gw_tab 371 (by decide +kernel) (by decide +kernel)
theorem gv_370 : Cond.methodLink RX6 13 yX3_all ∈ gw_L := gw_tab 370 (by decide +kernel) (by decide +kernel)
theorem gv_372 : Cond.selects RX3 yX3_all yX3_all ∈ gw_L := gw_tab 372 (by decide +kernel) (by decide +kernel)
theorem gv_428 : Cond.code yX3_avoiding cX3_avoiding 4 (some .int) ∈ gw_L := gw_tab 428 (by decide +kernel) (by decide +kernel)
theorem gk_X3_avoiding : gw_K yX3_avoiding cX3_avoiding 4 (some .int) 1 := ⟨gv_428, gv_2, by decide +kernel, by decide +kernel⟩
theorem gv_426 : Cond.instanceMethod yX3_avoiding ∈ gw_L := gw_tab 426 (by decide +kernel) (by decide +kernel)
theorem gv_468 : Cond.methodLink RX6 19 yX3_avoiding ∈ gw_L := gw_tab 468 (by decide +kernel) (by decide +kernel)
theorem gv_427 : Cond.selects RX3 yX3_avoiding yX3_avoiding ∈ gw_L := gw_tab 427 (by decide +kernel) (by decide +kernel)
theorem gv_390 : Cond.methodLink RX6 23 yX3_down ∈ gw_L := gw_tab 390 (by decide +kernel) (by decide +kernel)
theorem gv_389 : Cond.methodLink RX6 26 yX3_size ∈ gw_L := gw_tab 389 (by decide +kernel) (by decide +kernel)
theorem gv_391 : Cond.methodLinkNest RX6 29 yX8_isPart "Genericwood" ∈ gw_L := gw_tab 391 (by decide +kernel) (by decide +kernel)
theorem gv_392 : Cond.static yX8_isPart ∈ gw_L := gw_tab 392 (by decide +kernel) (by decide +kernel)
theorem gv_393 : Cond.code yX8_isPart cX8_isPart 2 (some .boolean) ∈ gw_L := gw_tab 393 (by decide +kernel) (by decide +kernel)
theorem gk_X8_isPart : gw_K yX8_isPart cX8_isPart 2 (some .boolean) 2 := ⟨gv_393, gv_1, by decide +kernel, by decide +kernel⟩
theorem gv_141 : Cond.fieldLink RX0 7 "Genericwood$Forced" "order" "LGenericwood$Order;" ∈ gw_L := gw_tab 141 (by decide +kernel) (by decide +kernel)
theorem gv_142 : Cond.sameField "Genericwood$Forced" "Genericwood$Way" "order" "LGenericwood$Order;" ∈ gw_L := gw_tab 142 (by decide +kernel) (by decide +kernel)
theorem gv_425 : Cond.methodLink RX0 13 yX3_avoiding ∈ gw_L := gw_tab 425 (by decide +kernel) (by decide +kernel)
def f_X4_whole_V (σ : gw_S) : Option (Int32 × gw_S) := ((f_X3_ends  σ).bind fun p1 => (some (p1.1, p1.2)))
set_option maxHeartbeats 4000000 in
set_option maxRecDepth 100000 in
theorem gc_X4_whole_V (l : Launch) (G : gw_G) (σ : gw_S) (o : (Int32 × gw_S)) (h : f_X4_whole_V σ = some o) : gw_M (fun sz => gw_QI G sz o) l yX4_whole cX4_whole 1 (some .int) { frames := 1, cells := 0, slots := 0, locals := 20 } G [.ref (G.2.1 18)] σ := by
  refine gw_en (own := RX4) (lv := [(0, .ref (G.2.1 18))]) (by decide +kernel) rfl (Nat.le_of_ble_eq_true rfl) rfl ?_
  intro p e s m below meth c ls X hl hP
  obtain ⟨hx, hb, hml, hown, hts, -, -, hT, hZ, -⟩ := id X
  have hS : va_S (gw_A G s.heap.size) s.heap s.heap [] := va_S.rf
  unfold f_X4_whole_V at h
  refine lv_aload_n hx hb dX4_whole_0 rfl (lv_at hl 0 rfl) ?_
  refine va_get (D := G.1) (ci := 7) (v := .ref (G.2.1 1)) (C := RX4) (T := TX4) (N := 7) hx hb hts gx_X4 hown hT.2.1 hP 18 rfl rfl 0 (by decide) (hts _ gv_139) (fun x9 h9 => u_same (hts _ gv_140) x9 h9) rfl dX4_whole_1 ?_
  obtain ⟨p1, gp1, h⟩ := Option.bind_eq_some_iff.mp h
  refine gw_ci (gw_rV (C := RX3) X hP hS (gc_X3_ends l G  σ _ gp1) gk_X3_ends gv_377 ⟨gv_241, gv_242⟩ (va_recv hT.2.1 hP (ci := 6) (q0 := 1) rfl rfl) rfl rfl (Nat.le_of_ble_eq_true rfl) hl.1 ⟨rfl, rfl⟩ ⟨Nat.le_of_ble_eq_true rfl, Nat.le_of_ble_eq_true rfl⟩ ⟨Nat.le_of_ble_eq_true rfl, Nat.le_of_ble_eq_true rfl⟩ dX4_whole_4) hS (fun H locs hP hS => ?_)
  exact gw_ri X hP hS h dX4_whole_7
def f_X4_denied_V (a0 : Int32) (σ : gw_S) : Option (Int32 × gw_S) := ((f_X3_ends  σ).bind fun p1 => (some ((p1.1 &&& (a0 ^^^ (-1 : Int32))), p1.2)))
set_option maxHeartbeats 4000000 in
set_option maxRecDepth 100000 in
theorem gc_X4_denied_V (l : Launch) (G : gw_G) (a0 : Int32) (σ : gw_S) (o : (Int32 × gw_S)) (h : f_X4_denied_V a0 σ = some o) : gw_M (fun sz => gw_QI G sz o) l yX4_denied cX4_denied 2 (some .int) { frames := 1, cells := 0, slots := 0, locals := 20 } G [.ref (G.2.1 18), .int a0] σ := by
  refine gw_en (own := RX4) (lv := [(0, .ref (G.2.1 18)), (1, .int a0)]) (by decide +kernel) rfl (Nat.le_of_ble_eq_true rfl) rfl ?_
  intro p e s m below meth c ls X hl hP
  obtain ⟨hx, hb, hml, hown, hts, -, -, hT, hZ, -⟩ := id X
  have hS : va_S (gw_A G s.heap.size) s.heap s.heap [] := va_S.rf
  unfold f_X4_denied_V at h
  refine lv_aload_n hx hb dX4_denied_0 rfl (lv_at hl 0 rfl) ?_
  refine va_get (D := G.1) (ci := 7) (v := .ref (G.2.1 1)) (C := RX4) (T := TX4) (N := 7) hx hb hts gx_X4 hown hT.2.1 hP 18 rfl rfl 0 (by decide) (hts _ gv_139) (fun x9 h9 => u_same (hts _ gv_140) x9 h9) rfl dX4_denied_1 ?_
  obtain ⟨p1, gp1, h⟩ := Option.bind_eq_some_iff.mp h
  refine gw_ci (gw_rV (C := RX3) X hP hS (gc_X3_ends l G  σ _ gp1) gk_X3_ends gv_377 ⟨gv_241, gv_242⟩ (va_recv hT.2.1 hP (ci := 6) (q0 := 1) rfl rfl) rfl rfl (Nat.le_of_ble_eq_true rfl) hl.1 ⟨rfl, rfl⟩ ⟨Nat.le_of_ble_eq_true rfl, Nat.le_of_ble_eq_true rfl⟩ ⟨Nat.le_of_ble_eq_true rfl, Nat.le_of_ble_eq_true rfl⟩ dX4_denied_4) hS (fun H locs hP hS => ?_)
  refine lv_iload_n hx hb dX4_denied_7 rfl (lv_at hl 1 rfl) ?_
  refine lv_iconst (v := -1) hx hb dX4_denied_8 (by decide) ?_
  refine lv_ixor hx hb dX4_denied_9 ?_
  refine lv_iand hx hb dX4_denied_10 ?_
  exact gw_ri X hP hS h dX4_denied_11
def f_X4_along_V (a0 : Int32) (a1 : Int32) (σ : gw_S) : Option (Int32 × gw_S) := ((f_X3_endsOf a0 σ).bind fun p1 => (some ((p1.1 &&& a1), p1.2)))
set_option maxHeartbeats 4000000 in
set_option maxRecDepth 100000 in
theorem gc_X4_along_V (l : Launch) (G : gw_G) (a0 : Int32) (a1 : Int32) (σ : gw_S) (o : (Int32 × gw_S)) (h : f_X4_along_V a0 a1 σ = some o) : gw_M (fun sz => gw_QI G sz o) l yX4_along cX4_along 3 (some .int) { frames := 2, cells := 0, slots := 0, locals := 42 } G [.ref (G.2.1 18), .int a0, .int a1] σ := by
  refine gw_en (own := RX4) (lv := [(0, .ref (G.2.1 18)), (1, .int a0), (2, .int a1)]) (by decide +kernel) rfl (Nat.le_of_ble_eq_true rfl) rfl ?_
  intro p e s m below meth c ls X hl hP
  obtain ⟨hx, hb, hml, hown, hts, -, -, hT, hZ, -⟩ := id X
  have hS : va_S (gw_A G s.heap.size) s.heap s.heap [] := va_S.rf
  unfold f_X4_along_V at h
  refine lv_aload_n hx hb dX4_along_0 rfl (lv_at hl 0 rfl) ?_
  refine va_get (D := G.1) (ci := 7) (v := .ref (G.2.1 1)) (C := RX4) (T := TX4) (N := 7) hx hb hts gx_X4 hown hT.2.1 hP 18 rfl rfl 0 (by decide) (hts _ gv_139) (fun x9 h9 => u_same (hts _ gv_140) x9 h9) rfl dX4_along_1 ?_
  refine lv_iload_n hx hb dX4_along_4 rfl (lv_at hl 1 rfl) ?_
  obtain ⟨p1, gp1, h⟩ := Option.bind_eq_some_iff.mp h
  refine gw_ci (gw_rV (C := RX3) X hP hS (gc_X3_endsOf l G a0 σ _ gp1) gk_X3_endsOf gv_397 ⟨gv_398, gv_399⟩ (va_recv hT.2.1 hP (ci := 6) (q0 := 1) rfl rfl) rfl rfl (Nat.le_of_ble_eq_true rfl) hl.1 ⟨rfl, rfl⟩ ⟨Nat.le_of_ble_eq_true rfl, Nat.le_of_ble_eq_true rfl⟩ ⟨Nat.le_of_ble_eq_true rfl, Nat.le_of_ble_eq_true rfl⟩ dX4_along_5) hS (fun H locs hP hS => ?_)
  refine lv_iload_n hx hb dX4_along_8 rfl (lv_at hl 2 rfl) ?_
  refine lv_iand hx hb dX4_along_9 ?_
  exact gw_ri X hP hS h dX4_along_10
def f_X4_unless_V (a0 : Int32) (a1 : Int32) (σ : gw_S) : Option (Int32 × gw_S) := ((f_X3_ends  σ).bind fun p1 => ((f_X3_endsOf a0 p1.2).bind fun p2 => (some (((p1.1 &&& (p2.1 ^^^ (-1 : Int32))) ||| a1), p2.2))))
set_option maxHeartbeats 4000000 in
set_option maxRecDepth 100000 in
theorem gc_X4_unless_V (l : Launch) (G : gw_G) (a0 : Int32) (a1 : Int32) (σ : gw_S) (o : (Int32 × gw_S)) (h : f_X4_unless_V a0 a1 σ = some o) : gw_M (fun sz => gw_QI G sz o) l yX4_unless cX4_unless 3 (some .int) { frames := 2, cells := 0, slots := 0, locals := 42 } G [.ref (G.2.1 18), .int a0, .int a1] σ := by
  refine gw_en (own := RX4) (lv := [(0, .ref (G.2.1 18)), (1, .int a0), (2, .int a1)]) (by decide +kernel) rfl (Nat.le_of_ble_eq_true rfl) rfl ?_
  intro p e s m below meth c ls X hl hP
  obtain ⟨hx, hb, hml, hown, hts, -, -, hT, hZ, -⟩ := id X
  have hS : va_S (gw_A G s.heap.size) s.heap s.heap [] := va_S.rf
  unfold f_X4_unless_V at h
  refine lv_aload_n hx hb dX4_unless_0 rfl (lv_at hl 0 rfl) ?_
  refine va_get (D := G.1) (ci := 7) (v := .ref (G.2.1 1)) (C := RX4) (T := TX4) (N := 7) hx hb hts gx_X4 hown hT.2.1 hP 18 rfl rfl 0 (by decide) (hts _ gv_139) (fun x9 h9 => u_same (hts _ gv_140) x9 h9) rfl dX4_unless_1 ?_
  obtain ⟨p1, gp1, h⟩ := Option.bind_eq_some_iff.mp h
  refine gw_ci (gw_rV (C := RX3) X hP hS (gc_X3_ends l G  σ _ gp1) gk_X3_ends gv_377 ⟨gv_241, gv_242⟩ (va_recv hT.2.1 hP (ci := 6) (q0 := 1) rfl rfl) rfl rfl (Nat.le_of_ble_eq_true rfl) hl.1 ⟨rfl, rfl⟩ ⟨Nat.le_of_ble_eq_true rfl, Nat.le_of_ble_eq_true rfl⟩ ⟨Nat.le_of_ble_eq_true rfl, Nat.le_of_ble_eq_true rfl⟩ dX4_unless_4) hS (fun H locs hP hS => ?_)
  refine lv_aload_n hx hb dX4_unless_7 rfl (lv_at hl 0 rfl) ?_
  refine va_get (D := G.1) (ci := 7) (v := .ref (G.2.1 1)) (C := RX4) (T := TX4) (N := 7) hx hb hts gx_X4 hown hT.2.1 hP 18 rfl rfl 0 (by decide) (hts _ gv_139) (fun x9 h9 => u_same (hts _ gv_140) x9 h9) rfl dX4_unless_8 ?_
  refine lv_iload_n hx hb dX4_unless_11 rfl (lv_at hl 1 rfl) ?_
  obtain ⟨p2, gp2, h⟩ := Option.bind_eq_some_iff.mp h
  refine gw_ci (gw_rV (C := RX3) X hP hS (gc_X3_endsOf l G a0 p1.2 _ gp2) gk_X3_endsOf gv_397 ⟨gv_398, gv_399⟩ (va_recv hT.2.1 hP (ci := 6) (q0 := 1) rfl rfl) rfl rfl (Nat.le_of_ble_eq_true rfl) hl.1 ⟨rfl, rfl⟩ ⟨Nat.le_of_ble_eq_true rfl, Nat.le_of_ble_eq_true rfl⟩ ⟨Nat.le_of_ble_eq_true rfl, Nat.le_of_ble_eq_true rfl⟩ dX4_unless_12) hS (fun H locs hP hS => ?_)
  refine lv_iconst (v := -1) hx hb dX4_unless_15 (by decide) ?_
  refine lv_ixor hx hb dX4_unless_16 ?_
  refine lv_iand hx hb dX4_unless_17 ?_
  refine lv_iload_n hx hb dX4_unless_18 rfl (lv_at hl 2 rfl) ?_
  refine lv_ior hx hb dX4_unless_19 ?_
  exact gw_ri X hP hS h dX4_unless_20
def f_X4_settled_V (a0 : Int32) (σ : gw_S) : Option (Int32 × gw_S) := (some (a0, σ))
set_option maxHeartbeats 4000000 in
set_option maxRecDepth 100000 in
theorem gc_X4_settled_V (l : Launch) (G : gw_G) (a0 : Int32) (σ : gw_S) (o : (Int32 × gw_S)) (h : f_X4_settled_V a0 σ = some o) : gw_M (fun sz => gw_QI G sz o) l yX4_settled cX4_settled 2 (some .int) { frames := 0, cells := 0, slots := 0, locals := 0 } G [.ref (G.2.1 18), .int a0] σ := by
  refine gw_en (own := RX4) (lv := [(0, .ref (G.2.1 18)), (1, .int a0)]) (by decide +kernel) rfl (Nat.le_of_ble_eq_true rfl) rfl ?_
  intro p e s m below meth c ls X hl hP
  obtain ⟨hx, hb, hml, hown, hts, -, -, hT, hZ, -⟩ := id X
  have hS : va_S (gw_A G s.heap.size) s.heap s.heap [] := va_S.rf
  unfold f_X4_settled_V at h
  refine lv_iload_n hx hb dX4_settled_0 rfl (lv_at hl 1 rfl) ?_
  exact gw_ri X hP hS h dX4_settled_1
def f_X6_whole_F (σ : gw_S) : Option (Int32 × gw_S) := ((f_X3_all  σ).bind fun p1 => (some (p1.1, p1.2)))
set_option maxHeartbeats 4000000 in
set_option maxRecDepth 100000 in
theorem gc_X6_whole_F (l : Launch) (G : gw_G) (σ : gw_S) (o : (Int32 × gw_S)) (h : f_X6_whole_F σ = some o) : gw_M (fun sz => gw_QI G sz o) l yX6_whole cX6_whole 1 (some .int) { frames := 1, cells := 0, slots := 0, locals := 20 } G [.ref (G.2.1 22)] σ := by
  refine gw_en (own := RX6) (lv := [(0, .ref (G.2.1 22))]) (by decide +kernel) rfl (Nat.le_of_ble_eq_true rfl) rfl ?_
  intro p e s m below meth c ls X hl hP
  obtain ⟨hx, hb, hml, hown, hts, -, -, hT, hZ, -⟩ := id X
  have hS : va_S (gw_A G s.heap.size) s.heap s.heap [] := va_S.rf
  unfold f_X6_whole_F at h
  refine lv_aload_n hx hb dX6_whole_0 rfl (lv_at hl 0 rfl) ?_
  refine va_get (D := G.1) (ci := 3) (v := .ref (G.2.1 1)) (C := RX0) (T := TX0) (N := 7) hx hb hts gx_X0 hown hT.2.1 hP 22 rfl rfl 0 (by decide) (hts _ gv_137) (fun x9 h9 => u_same (hts _ gv_138) x9 h9) rfl dX6_whole_1 ?_
  obtain ⟨p1, gp1, h⟩ := Option.bind_eq_some_iff.mp h
  refine gw_ci (gw_rV (C := RX3) X hP hS (gc_X3_all l G  σ _ gp1) gk_X3_all gv_370 ⟨gv_371, gv_372⟩ (va_recv hT.2.1 hP (ci := 6) (q0 := 1) rfl rfl) rfl rfl (Nat.le_of_ble_eq_true rfl) hl.1 ⟨rfl, rfl⟩ ⟨Nat.le_of_ble_eq_true rfl, Nat.le_of_ble_eq_true rfl⟩ ⟨Nat.le_of_ble_eq_true rfl, Nat.le_of_ble_eq_true rfl⟩ dX6_whole_4) hS (fun H locs hP hS => ?_)
  exact gw_ri X hP hS h dX6_whole_7
def f_X6_denied_F (a0 : Int32) (σ : gw_S) : Option (Int32 × gw_S) := ((f_X3_avoiding a0 σ).bind fun p1 => (some (p1.1, p1.2)))
set_option maxHeartbeats 4000000 in
set_option maxRecDepth 100000 in
theorem gc_X6_denied_F (l : Launch) (G : gw_G) (a0 : Int32) (σ : gw_S) (o : (Int32 × gw_S)) (h : f_X6_denied_F a0 σ = some o) : gw_M (fun sz => gw_QI G sz o) l yX6_denied cX6_denied 2 (some .int) { frames := 2, cells := 0, slots := 0, locals := 44 } G [.ref (G.2.1 22), .int a0] σ := by
  refine gw_en (own := RX6) (lv := [(0, .ref (G.2.1 22)), (1, .int a0)]) (by decide +kernel) rfl (Nat.le_of_ble_eq_true rfl) rfl ?_
  intro p e s m below meth c ls X hl hP
  obtain ⟨hx, hb, hml, hown, hts, -, -, hT, hZ, -⟩ := id X
  have hS : va_S (gw_A G s.heap.size) s.heap s.heap [] := va_S.rf
  unfold f_X6_denied_F at h
  refine lv_aload_n hx hb dX6_denied_0 rfl (lv_at hl 0 rfl) ?_
  refine va_get (D := G.1) (ci := 3) (v := .ref (G.2.1 1)) (C := RX0) (T := TX0) (N := 7) hx hb hts gx_X0 hown hT.2.1 hP 22 rfl rfl 0 (by decide) (hts _ gv_137) (fun x9 h9 => u_same (hts _ gv_138) x9 h9) rfl dX6_denied_1 ?_
  refine lv_iload_n hx hb dX6_denied_4 rfl (lv_at hl 1 rfl) ?_
  obtain ⟨p1, gp1, h⟩ := Option.bind_eq_some_iff.mp h
  refine gw_ci (gw_rV (C := RX3) X hP hS (gc_X3_avoiding l G a0 σ _ gp1) gk_X3_avoiding gv_468 ⟨gv_426, gv_427⟩ (va_recv hT.2.1 hP (ci := 6) (q0 := 1) rfl rfl) rfl rfl (Nat.le_of_ble_eq_true rfl) hl.1 ⟨rfl, rfl⟩ ⟨Nat.le_of_ble_eq_true rfl, Nat.le_of_ble_eq_true rfl⟩ ⟨Nat.le_of_ble_eq_true rfl, Nat.le_of_ble_eq_true rfl⟩ dX6_denied_5) hS (fun H locs hP hS => ?_)
  exact gw_ri X hP hS h dX6_denied_8
def f_X6_along_F (a0 : Int32) (a1 : Int32) (σ : gw_S) : Option (Int32 × gw_S) := ((f_X3_down a0 σ).bind fun p1 => (some ((p1.1 &&& a1), p1.2)))
set_option maxHeartbeats 4000000 in
set_option maxRecDepth 100000 in
theorem gc_X6_along_F (l : Launch) (G : gw_G) (a0 : Int32) (a1 : Int32) (σ : gw_S) (o : (Int32 × gw_S)) (h : f_X6_along_F a0 a1 σ = some o) : gw_M (fun sz => gw_QI G sz o) l yX6_along cX6_along 3 (some .int) { frames := 2, cells := 0, slots := 0, locals := 42 } G [.ref (G.2.1 22), .int a0, .int a1] σ := by
  refine gw_en (own := RX6) (lv := [(0, .ref (G.2.1 22)), (1, .int a0), (2, .int a1)]) (by decide +kernel) rfl (Nat.le_of_ble_eq_true rfl) rfl ?_
  intro p e s m below meth c ls X hl hP
  obtain ⟨hx, hb, hml, hown, hts, -, -, hT, hZ, -⟩ := id X
  have hS : va_S (gw_A G s.heap.size) s.heap s.heap [] := va_S.rf
  unfold f_X6_along_F at h
  refine lv_aload_n hx hb dX6_along_0 rfl (lv_at hl 0 rfl) ?_
  refine va_get (D := G.1) (ci := 3) (v := .ref (G.2.1 1)) (C := RX0) (T := TX0) (N := 7) hx hb hts gx_X0 hown hT.2.1 hP 22 rfl rfl 0 (by decide) (hts _ gv_137) (fun x9 h9 => u_same (hts _ gv_138) x9 h9) rfl dX6_along_1 ?_
  refine lv_iload_n hx hb dX6_along_4 rfl (lv_at hl 1 rfl) ?_
  obtain ⟨p1, gp1, h⟩ := Option.bind_eq_some_iff.mp h
  refine gw_ci (gw_rV (C := RX3) X hP hS (gc_X3_down l G a0 σ _ gp1) gk_X3_down gv_390 ⟨gv_271, gv_272⟩ (va_recv hT.2.1 hP (ci := 6) (q0 := 1) rfl rfl) rfl rfl (Nat.le_of_ble_eq_true rfl) hl.1 ⟨rfl, rfl⟩ ⟨Nat.le_of_ble_eq_true rfl, Nat.le_of_ble_eq_true rfl⟩ ⟨Nat.le_of_ble_eq_true rfl, Nat.le_of_ble_eq_true rfl⟩ dX6_along_5) hS (fun H locs hP hS => ?_)
  refine lv_iload_n hx hb dX6_along_8 rfl (lv_at hl 2 rfl) ?_
  refine lv_iand hx hb dX6_along_9 ?_
  exact gw_ri X hP hS h dX6_along_10
def f_X6_unless_F_L5 : Nat → Int32 → Int32 → Int32 → Int32 → gw_S → Option (Int32 × gw_S)
  | 0, _, _, _, _, _ => none
  | n + 1, v5_1, v5_2, v5_3, v5_4, σ => ((f_X3_size  σ).bind fun p1 => (if p1.1 ≤ v5_4 then (some (v5_3, p1.2)) else ((f_X3_down v5_4 p1.2).bind fun p2 => ((f_X3_down v5_1 p2.2).bind fun p3 => ((f_X8_isPart (p2.1 &&& p3.1) v5_2 p3.2).bind fun p4 => (if p4.1 = 0 then (f_X6_unless_F_L5 n v5_1 v5_2 v5_3 (v5_4 + (1 : Int32)) p4.2) else (f_X6_unless_F_L5 n v5_1 v5_2 (v5_3 ||| ((1 : Int32) <<< (v5_4 &&& 31))) (v5_4 + (1 : Int32)) p4.2)))))))
def f_X6_unless_F (a0 : Int32) (a1 : Int32) (σ : gw_S) : Option (Int32 × gw_S) := (f_X6_unless_F_L5 64 a0 a1 (0 : Int32) (0 : Int32) σ)
set_option maxHeartbeats 4000000 in
set_option maxRecDepth 100000 in
theorem gc_X6_unless_F (l : Launch) (G : gw_G) (a0 : Int32) (a1 : Int32) (σ : gw_S) (o : (Int32 × gw_S)) (h : f_X6_unless_F a0 a1 σ = some o) : gw_M (fun sz => gw_QI G sz o) l yX6_unless cX6_unless 5 (some .int) { frames := 2, cells := 0, slots := 0, locals := 42 } G [.ref (G.2.1 22), .int a0, .int a1] σ := by
  refine gw_en (own := RX6) (lv := [(0, .ref (G.2.1 22)), (1, .int a0), (2, .int a1)]) (by decide +kernel) rfl (Nat.le_of_ble_eq_true rfl) rfl ?_
  intro p e s m below meth c ls X hl hP
  obtain ⟨hx, hb, hml, hown, hts, -, -, hT, hZ, -⟩ := id X
  have hS : va_S (gw_A G s.heap.size) s.heap s.heap [] := va_S.rf
  have L5 : ∀ (n : Nat) (v5_1 : Int32) (v5_2 : Int32) (v5_3 : Int32) (v5_4 : Int32) (σ : gw_S) (H : Heap) (locs : List Loc) (ls : Array Slot), f_X6_unless_F_L5 n v5_1 v5_2 v5_3 v5_4 σ = some o → gw_P G σ H → va_S (gw_A G s.heap.size) s.heap H locs → lv_has ls 5 [(0, .ref (G.2.1 22)), (1, .int v5_1), (2, .int v5_2), (3, .int v5_3), (4, .int v5_4)] → W p l e { frames := 2, cells := 0, slots := 0, locals := 42 } s m [.ref (G.2.1 22), .int a0, .int a1].toArray below meth c H locs 0 0 (MQ below (gw_QI G s.heap.size o) [.ref (G.2.1 22), .int a0, .int a1].toArray s 0 0 (gw_A G s.heap.size)) (F0 m 5 ls []) := by
    intro n
    induction n with
    | zero =>
      intro v5_1 v5_2 v5_3 v5_4 σ H locs ls h
      exact absurd h (by rw [f_X6_unless_F_L5.eq_1]; exact fun h => nomatch h)
    | succ n ih =>
      intro v5_1 v5_2 v5_3 v5_4 σ H locs ls h hP hS hl
      rw [f_X6_unless_F_L5.eq_2] at h
      refine lv_iload hx hb dX6_unless_5 (lv_at hl 4 rfl) ?_
      refine lv_aload_n hx hb dX6_unless_7 rfl (lv_at hl 0 rfl) ?_
      refine va_get (D := G.1) (ci := 3) (v := .ref (G.2.1 1)) (C := RX0) (T := TX0) (N := 7) hx hb hts gx_X0 hown hT.2.1 hP 22 rfl rfl 0 (by decide) (hts _ gv_137) (fun x9 h9 => u_same (hts _ gv_138) x9 h9) rfl dX6_unless_8 ?_
      obtain ⟨p1, gp1, h⟩ := Option.bind_eq_some_iff.mp h
      refine gw_ci (gw_rV (C := RX3) X hP hS (gc_X3_size l G  σ _ gp1) gk_X3_size gv_389 ⟨gv_259, gv_260⟩ (va_recv hT.2.1 hP (ci := 6) (q0 := 1) rfl rfl) rfl rfl (Nat.le_of_ble_eq_true rfl) hl.1 ⟨rfl, rfl⟩ ⟨Nat.le_of_ble_eq_true rfl, Nat.le_of_ble_eq_true rfl⟩ ⟨Nat.le_of_ble_eq_true rfl, Nat.le_of_ble_eq_true rfl⟩ dX6_unless_11) hS (fun H locs hP hS => ?_)
      refine lv_icmp_ge (tgt := 55) hx hb dX6_unless_14 (by decide) (fun c => ?_) (fun c => ?_)
      · have h := (if_pos c).symm.trans h
        refine lv_iload_n hx hb dX6_unless_55 rfl (lv_at hl 3 rfl) ?_
        exact gw_ri X hP hS h dX6_unless_56
      · have h := (if_neg c).symm.trans h
        refine lv_aload_n hx hb dX6_unless_17 rfl (lv_at hl 0 rfl) ?_
        refine va_get (D := G.1) (ci := 3) (v := .ref (G.2.1 1)) (C := RX0) (T := TX0) (N := 7) hx hb hts gx_X0 hown hT.2.1 hP 22 rfl rfl 0 (by decide) (hts _ gv_137) (fun x9 h9 => u_same (hts _ gv_138) x9 h9) rfl dX6_unless_18 ?_
        refine lv_iload hx hb dX6_unless_21 (lv_at hl 4 rfl) ?_
        obtain ⟨p2, gp2, h⟩ := Option.bind_eq_some_iff.mp h
        refine gw_ci (gw_rV (C := RX3) X hP hS (gc_X3_down l G v5_4 p1.2 _ gp2) gk_X3_down gv_390 ⟨gv_271, gv_272⟩ (va_recv hT.2.1 hP (ci := 6) (q0 := 1) rfl rfl) rfl rfl (Nat.le_of_ble_eq_true rfl) hl.1 ⟨rfl, rfl⟩ ⟨Nat.le_of_ble_eq_true rfl, Nat.le_of_ble_eq_true rfl⟩ ⟨Nat.le_of_ble_eq_true rfl, Nat.le_of_ble_eq_true rfl⟩ dX6_unless_23) hS (fun H locs hP hS => ?_)
        refine lv_aload_n hx hb dX6_unless_26 rfl (lv_at hl 0 rfl) ?_
        refine va_get (D := G.1) (ci := 3) (v := .ref (G.2.1 1)) (C := RX0) (T := TX0) (N := 7) hx hb hts gx_X0 hown hT.2.1 hP 22 rfl rfl 0 (by decide) (hts _ gv_137) (fun x9 h9 => u_same (hts _ gv_138) x9 h9) rfl dX6_unless_27 ?_
        refine lv_iload_n hx hb dX6_unless_30 rfl (lv_at hl 1 rfl) ?_
        obtain ⟨p3, gp3, h⟩ := Option.bind_eq_some_iff.mp h
        refine gw_ci (gw_rV (C := RX3) X hP hS (gc_X3_down l G v5_1 p2.2 _ gp3) gk_X3_down gv_390 ⟨gv_271, gv_272⟩ (va_recv hT.2.1 hP (ci := 6) (q0 := 1) rfl rfl) rfl rfl (Nat.le_of_ble_eq_true rfl) hl.1 ⟨rfl, rfl⟩ ⟨Nat.le_of_ble_eq_true rfl, Nat.le_of_ble_eq_true rfl⟩ ⟨Nat.le_of_ble_eq_true rfl, Nat.le_of_ble_eq_true rfl⟩ dX6_unless_31) hS (fun H locs hP hS => ?_)
        refine lv_iand hx hb dX6_unless_34 ?_
        refine lv_iload_n hx hb dX6_unless_35 rfl (lv_at hl 2 rfl) ?_
        obtain ⟨p4, gp4, h⟩ := Option.bind_eq_some_iff.mp h
        refine gw_cz (gw_rN (host := "Genericwood") X hP hS (gc_X8_isPart l G (p2.1 &&& p3.1) v5_2 p3.2 _ gp4) gk_X8_isPart gv_391 gv_392 rfl rfl (Nat.le_of_ble_eq_true rfl) hl.1 ⟨rfl, rfl⟩ ⟨Nat.le_of_ble_eq_true rfl, Nat.le_of_ble_eq_true rfl⟩ ⟨Nat.le_of_ble_eq_true rfl, Nat.le_of_ble_eq_true rfl⟩ dX6_unless_36) hS (fun H locs hb_p4 hP hS => ?_)
        refine lv_if_eq (tgt := 49) hx hb dX6_unless_39 (by decide) (fun c => ?_) (fun c => ?_)
        · have h := (if_pos c).symm.trans h
          refine lv_iinc (v := (v5_4 + (1 : Int32))) (lv' := [(4, .int (v5_4 + (1 : Int32))), (0, .ref (G.2.1 22)), (1, .int v5_1), (2, .int v5_2), (3, .int v5_3)]) hx hb dX6_unless_49 hl (k := 4) rfl rfl (by decide) rfl (fun ls hl => ?_)
          refine lv_goto (tgt := 5) hx hb dX6_unless_52 (by decide) ?_
          exact ih v5_1 v5_2 v5_3 (v5_4 + (1 : Int32)) p4.2 _ _ _ h hP hS (lv_sub hl [1, 2, 3, 4, 0] rfl)
        · have h := (if_neg c).symm.trans h
          refine lv_iload_n hx hb dX6_unless_42 rfl (lv_at hl 3 rfl) ?_
          refine lv_iconst (v := 1) hx hb dX6_unless_43 (by decide) ?_
          refine lv_iload hx hb dX6_unless_44 (lv_at hl 4 rfl) ?_
          refine lv_ishl hx hb dX6_unless_46 ?_
          refine lv_ior hx hb dX6_unless_47 ?_
          refine lv_istore_n (lv' := [(3, .int (v5_3 ||| ((1 : Int32) <<< (v5_4 &&& 31)))), (0, .ref (G.2.1 22)), (1, .int v5_1), (2, .int v5_2), (4, .int v5_4)]) hx hb dX6_unless_48 rfl hl (by decide) rfl (fun ls hl => ?_)
          refine lv_iinc (v := (v5_4 + (1 : Int32))) (lv' := [(4, .int (v5_4 + (1 : Int32))), (3, .int (v5_3 ||| ((1 : Int32) <<< (v5_4 &&& 31)))), (0, .ref (G.2.1 22)), (1, .int v5_1), (2, .int v5_2)]) hx hb dX6_unless_49 hl (k := 4) rfl rfl (by decide) rfl (fun ls hl => ?_)
          refine lv_goto (tgt := 5) hx hb dX6_unless_52 (by decide) ?_
          exact ih v5_1 v5_2 (v5_3 ||| ((1 : Int32) <<< (v5_4 &&& 31))) (v5_4 + (1 : Int32)) p4.2 _ _ _ h hP hS (lv_sub hl [2, 3, 4, 1, 0] rfl)
  unfold f_X6_unless_F at h
  refine lv_iconst (v := 0) hx hb dX6_unless_0 (by decide) ?_
  refine lv_istore_n (lv' := [(3, .int (0 : Int32)), (0, .ref (G.2.1 22)), (1, .int a0), (2, .int a1)]) hx hb dX6_unless_1 rfl hl (by decide) rfl (fun ls hl => ?_)
  refine lv_iconst (v := 0) hx hb dX6_unless_2 (by decide) ?_
  refine lv_istore (lv' := [(4, .int (0 : Int32)), (3, .int (0 : Int32)), (0, .ref (G.2.1 22)), (1, .int a0), (2, .int a1)]) hx hb dX6_unless_3 hl (by decide) rfl (fun ls hl => ?_)
  exact L5 64 a0 a1 (0 : Int32) (0 : Int32) σ _ _ _ h hP hS (lv_sub hl [2, 3, 4, 1, 0] rfl)
def f_X6_whole_W (σ : gw_S) : Option (Int32 × gw_S) := ((f_X3_all  σ).bind fun p1 => (some (p1.1, p1.2)))
set_option maxHeartbeats 4000000 in
set_option maxRecDepth 100000 in
theorem gc_X6_whole_W (l : Launch) (G : gw_G) (σ : gw_S) (o : (Int32 × gw_S)) (h : f_X6_whole_W σ = some o) : gw_M (fun sz => gw_QI G sz o) l yX6_whole cX6_whole 1 (some .int) { frames := 1, cells := 0, slots := 0, locals := 20 } G [.ref (G.2.1 26)] σ := by
  refine gw_en (own := RX6) (lv := [(0, .ref (G.2.1 26))]) (by decide +kernel) rfl (Nat.le_of_ble_eq_true rfl) rfl ?_
  intro p e s m below meth c ls X hl hP
  obtain ⟨hx, hb, hml, hown, hts, -, -, hT, hZ, -⟩ := id X
  have hS : va_S (gw_A G s.heap.size) s.heap s.heap [] := va_S.rf
  unfold f_X6_whole_W at h
  refine lv_aload_n hx hb dX6_whole_0 rfl (lv_at hl 0 rfl) ?_
  refine va_get (D := G.1) (ci := 8) (v := .ref (G.2.1 1)) (C := RX6) (T := TX6) (N := 7) hx hb hts gx_X6 hown hT.2.1 hP 26 rfl rfl 0 (by decide) (hts _ gv_137) (fun x9 h9 => u_same (hts _ gv_138) x9 h9) rfl dX6_whole_1 ?_
  obtain ⟨p1, gp1, h⟩ := Option.bind_eq_some_iff.mp h
  refine gw_ci (gw_rV (C := RX3) X hP hS (gc_X3_all l G  σ _ gp1) gk_X3_all gv_370 ⟨gv_371, gv_372⟩ (va_recv hT.2.1 hP (ci := 6) (q0 := 1) rfl rfl) rfl rfl (Nat.le_of_ble_eq_true rfl) hl.1 ⟨rfl, rfl⟩ ⟨Nat.le_of_ble_eq_true rfl, Nat.le_of_ble_eq_true rfl⟩ ⟨Nat.le_of_ble_eq_true rfl, Nat.le_of_ble_eq_true rfl⟩ dX6_whole_4) hS (fun H locs hP hS => ?_)
  exact gw_ri X hP hS h dX6_whole_7
def f_X6_denied_W (a0 : Int32) (σ : gw_S) : Option (Int32 × gw_S) := ((f_X3_avoiding a0 σ).bind fun p1 => (some (p1.1, p1.2)))
set_option maxHeartbeats 4000000 in
set_option maxRecDepth 100000 in
theorem gc_X6_denied_W (l : Launch) (G : gw_G) (a0 : Int32) (σ : gw_S) (o : (Int32 × gw_S)) (h : f_X6_denied_W a0 σ = some o) : gw_M (fun sz => gw_QI G sz o) l yX6_denied cX6_denied 2 (some .int) { frames := 2, cells := 0, slots := 0, locals := 44 } G [.ref (G.2.1 26), .int a0] σ := by
  refine gw_en (own := RX6) (lv := [(0, .ref (G.2.1 26)), (1, .int a0)]) (by decide +kernel) rfl (Nat.le_of_ble_eq_true rfl) rfl ?_
  intro p e s m below meth c ls X hl hP
  obtain ⟨hx, hb, hml, hown, hts, -, -, hT, hZ, -⟩ := id X
  have hS : va_S (gw_A G s.heap.size) s.heap s.heap [] := va_S.rf
  unfold f_X6_denied_W at h
  refine lv_aload_n hx hb dX6_denied_0 rfl (lv_at hl 0 rfl) ?_
  refine va_get (D := G.1) (ci := 8) (v := .ref (G.2.1 1)) (C := RX6) (T := TX6) (N := 7) hx hb hts gx_X6 hown hT.2.1 hP 26 rfl rfl 0 (by decide) (hts _ gv_137) (fun x9 h9 => u_same (hts _ gv_138) x9 h9) rfl dX6_denied_1 ?_
  refine lv_iload_n hx hb dX6_denied_4 rfl (lv_at hl 1 rfl) ?_
  obtain ⟨p1, gp1, h⟩ := Option.bind_eq_some_iff.mp h
  refine gw_ci (gw_rV (C := RX3) X hP hS (gc_X3_avoiding l G a0 σ _ gp1) gk_X3_avoiding gv_468 ⟨gv_426, gv_427⟩ (va_recv hT.2.1 hP (ci := 6) (q0 := 1) rfl rfl) rfl rfl (Nat.le_of_ble_eq_true rfl) hl.1 ⟨rfl, rfl⟩ ⟨Nat.le_of_ble_eq_true rfl, Nat.le_of_ble_eq_true rfl⟩ ⟨Nat.le_of_ble_eq_true rfl, Nat.le_of_ble_eq_true rfl⟩ dX6_denied_5) hS (fun H locs hP hS => ?_)
  exact gw_ri X hP hS h dX6_denied_8
def f_X6_along_W (a0 : Int32) (a1 : Int32) (σ : gw_S) : Option (Int32 × gw_S) := ((f_X3_down a0 σ).bind fun p1 => (some ((p1.1 &&& a1), p1.2)))
set_option maxHeartbeats 4000000 in
set_option maxRecDepth 100000 in
theorem gc_X6_along_W (l : Launch) (G : gw_G) (a0 : Int32) (a1 : Int32) (σ : gw_S) (o : (Int32 × gw_S)) (h : f_X6_along_W a0 a1 σ = some o) : gw_M (fun sz => gw_QI G sz o) l yX6_along cX6_along 3 (some .int) { frames := 2, cells := 0, slots := 0, locals := 42 } G [.ref (G.2.1 26), .int a0, .int a1] σ := by
  refine gw_en (own := RX6) (lv := [(0, .ref (G.2.1 26)), (1, .int a0), (2, .int a1)]) (by decide +kernel) rfl (Nat.le_of_ble_eq_true rfl) rfl ?_
  intro p e s m below meth c ls X hl hP
  obtain ⟨hx, hb, hml, hown, hts, -, -, hT, hZ, -⟩ := id X
  have hS : va_S (gw_A G s.heap.size) s.heap s.heap [] := va_S.rf
  unfold f_X6_along_W at h
  refine lv_aload_n hx hb dX6_along_0 rfl (lv_at hl 0 rfl) ?_
  refine va_get (D := G.1) (ci := 8) (v := .ref (G.2.1 1)) (C := RX6) (T := TX6) (N := 7) hx hb hts gx_X6 hown hT.2.1 hP 26 rfl rfl 0 (by decide) (hts _ gv_137) (fun x9 h9 => u_same (hts _ gv_138) x9 h9) rfl dX6_along_1 ?_
  refine lv_iload_n hx hb dX6_along_4 rfl (lv_at hl 1 rfl) ?_
  obtain ⟨p1, gp1, h⟩ := Option.bind_eq_some_iff.mp h
  refine gw_ci (gw_rV (C := RX3) X hP hS (gc_X3_down l G a0 σ _ gp1) gk_X3_down gv_390 ⟨gv_271, gv_272⟩ (va_recv hT.2.1 hP (ci := 6) (q0 := 1) rfl rfl) rfl rfl (Nat.le_of_ble_eq_true rfl) hl.1 ⟨rfl, rfl⟩ ⟨Nat.le_of_ble_eq_true rfl, Nat.le_of_ble_eq_true rfl⟩ ⟨Nat.le_of_ble_eq_true rfl, Nat.le_of_ble_eq_true rfl⟩ dX6_along_5) hS (fun H locs hP hS => ?_)
  refine lv_iload_n hx hb dX6_along_8 rfl (lv_at hl 2 rfl) ?_
  refine lv_iand hx hb dX6_along_9 ?_
  exact gw_ri X hP hS h dX6_along_10
def f_X6_unless_W_L5 : Nat → Int32 → Int32 → Int32 → Int32 → gw_S → Option (Int32 × gw_S)
  | 0, _, _, _, _, _ => none
  | n + 1, v5_1, v5_2, v5_3, v5_4, σ => ((f_X3_size  σ).bind fun p1 => (if p1.1 ≤ v5_4 then (some (v5_3, p1.2)) else ((f_X3_down v5_4 p1.2).bind fun p2 => ((f_X3_down v5_1 p2.2).bind fun p3 => ((f_X8_isPart (p2.1 &&& p3.1) v5_2 p3.2).bind fun p4 => (if p4.1 = 0 then (f_X6_unless_W_L5 n v5_1 v5_2 v5_3 (v5_4 + (1 : Int32)) p4.2) else (f_X6_unless_W_L5 n v5_1 v5_2 (v5_3 ||| ((1 : Int32) <<< (v5_4 &&& 31))) (v5_4 + (1 : Int32)) p4.2)))))))
def f_X6_unless_W (a0 : Int32) (a1 : Int32) (σ : gw_S) : Option (Int32 × gw_S) := (f_X6_unless_W_L5 64 a0 a1 (0 : Int32) (0 : Int32) σ)
set_option maxHeartbeats 4000000 in
set_option maxRecDepth 100000 in
theorem gc_X6_unless_W (l : Launch) (G : gw_G) (a0 : Int32) (a1 : Int32) (σ : gw_S) (o : (Int32 × gw_S)) (h : f_X6_unless_W a0 a1 σ = some o) : gw_M (fun sz => gw_QI G sz o) l yX6_unless cX6_unless 5 (some .int) { frames := 2, cells := 0, slots := 0, locals := 42 } G [.ref (G.2.1 26), .int a0, .int a1] σ := by
  refine gw_en (own := RX6) (lv := [(0, .ref (G.2.1 26)), (1, .int a0), (2, .int a1)]) (by decide +kernel) rfl (Nat.le_of_ble_eq_true rfl) rfl ?_
  intro p e s m below meth c ls X hl hP
  obtain ⟨hx, hb, hml, hown, hts, -, -, hT, hZ, -⟩ := id X
  have hS : va_S (gw_A G s.heap.size) s.heap s.heap [] := va_S.rf
  have L5 : ∀ (n : Nat) (v5_1 : Int32) (v5_2 : Int32) (v5_3 : Int32) (v5_4 : Int32) (σ : gw_S) (H : Heap) (locs : List Loc) (ls : Array Slot), f_X6_unless_W_L5 n v5_1 v5_2 v5_3 v5_4 σ = some o → gw_P G σ H → va_S (gw_A G s.heap.size) s.heap H locs → lv_has ls 5 [(0, .ref (G.2.1 26)), (1, .int v5_1), (2, .int v5_2), (3, .int v5_3), (4, .int v5_4)] → W p l e { frames := 2, cells := 0, slots := 0, locals := 42 } s m [.ref (G.2.1 26), .int a0, .int a1].toArray below meth c H locs 0 0 (MQ below (gw_QI G s.heap.size o) [.ref (G.2.1 26), .int a0, .int a1].toArray s 0 0 (gw_A G s.heap.size)) (F0 m 5 ls []) := by
    intro n
    induction n with
    | zero =>
      intro v5_1 v5_2 v5_3 v5_4 σ H locs ls h
      exact absurd h (by rw [f_X6_unless_W_L5.eq_1]; exact fun h => nomatch h)
    | succ n ih =>
      intro v5_1 v5_2 v5_3 v5_4 σ H locs ls h hP hS hl
      rw [f_X6_unless_W_L5.eq_2] at h
      refine lv_iload hx hb dX6_unless_5 (lv_at hl 4 rfl) ?_
      refine lv_aload_n hx hb dX6_unless_7 rfl (lv_at hl 0 rfl) ?_
      refine va_get (D := G.1) (ci := 8) (v := .ref (G.2.1 1)) (C := RX6) (T := TX6) (N := 7) hx hb hts gx_X6 hown hT.2.1 hP 26 rfl rfl 0 (by decide) (hts _ gv_137) (fun x9 h9 => u_same (hts _ gv_138) x9 h9) rfl dX6_unless_8 ?_
      obtain ⟨p1, gp1, h⟩ := Option.bind_eq_some_iff.mp h
      refine gw_ci (gw_rV (C := RX3) X hP hS (gc_X3_size l G  σ _ gp1) gk_X3_size gv_389 ⟨gv_259, gv_260⟩ (va_recv hT.2.1 hP (ci := 6) (q0 := 1) rfl rfl) rfl rfl (Nat.le_of_ble_eq_true rfl) hl.1 ⟨rfl, rfl⟩ ⟨Nat.le_of_ble_eq_true rfl, Nat.le_of_ble_eq_true rfl⟩ ⟨Nat.le_of_ble_eq_true rfl, Nat.le_of_ble_eq_true rfl⟩ dX6_unless_11) hS (fun H locs hP hS => ?_)
      refine lv_icmp_ge (tgt := 55) hx hb dX6_unless_14 (by decide) (fun c => ?_) (fun c => ?_)
      · have h := (if_pos c).symm.trans h
        refine lv_iload_n hx hb dX6_unless_55 rfl (lv_at hl 3 rfl) ?_
        exact gw_ri X hP hS h dX6_unless_56
      · have h := (if_neg c).symm.trans h
        refine lv_aload_n hx hb dX6_unless_17 rfl (lv_at hl 0 rfl) ?_
        refine va_get (D := G.1) (ci := 8) (v := .ref (G.2.1 1)) (C := RX6) (T := TX6) (N := 7) hx hb hts gx_X6 hown hT.2.1 hP 26 rfl rfl 0 (by decide) (hts _ gv_137) (fun x9 h9 => u_same (hts _ gv_138) x9 h9) rfl dX6_unless_18 ?_
        refine lv_iload hx hb dX6_unless_21 (lv_at hl 4 rfl) ?_
        obtain ⟨p2, gp2, h⟩ := Option.bind_eq_some_iff.mp h
        refine gw_ci (gw_rV (C := RX3) X hP hS (gc_X3_down l G v5_4 p1.2 _ gp2) gk_X3_down gv_390 ⟨gv_271, gv_272⟩ (va_recv hT.2.1 hP (ci := 6) (q0 := 1) rfl rfl) rfl rfl (Nat.le_of_ble_eq_true rfl) hl.1 ⟨rfl, rfl⟩ ⟨Nat.le_of_ble_eq_true rfl, Nat.le_of_ble_eq_true rfl⟩ ⟨Nat.le_of_ble_eq_true rfl, Nat.le_of_ble_eq_true rfl⟩ dX6_unless_23) hS (fun H locs hP hS => ?_)
        refine lv_aload_n hx hb dX6_unless_26 rfl (lv_at hl 0 rfl) ?_
        refine va_get (D := G.1) (ci := 8) (v := .ref (G.2.1 1)) (C := RX6) (T := TX6) (N := 7) hx hb hts gx_X6 hown hT.2.1 hP 26 rfl rfl 0 (by decide) (hts _ gv_137) (fun x9 h9 => u_same (hts _ gv_138) x9 h9) rfl dX6_unless_27 ?_
        refine lv_iload_n hx hb dX6_unless_30 rfl (lv_at hl 1 rfl) ?_
        obtain ⟨p3, gp3, h⟩ := Option.bind_eq_some_iff.mp h
        refine gw_ci (gw_rV (C := RX3) X hP hS (gc_X3_down l G v5_1 p2.2 _ gp3) gk_X3_down gv_390 ⟨gv_271, gv_272⟩ (va_recv hT.2.1 hP (ci := 6) (q0 := 1) rfl rfl) rfl rfl (Nat.le_of_ble_eq_true rfl) hl.1 ⟨rfl, rfl⟩ ⟨Nat.le_of_ble_eq_true rfl, Nat.le_of_ble_eq_true rfl⟩ ⟨Nat.le_of_ble_eq_true rfl, Nat.le_of_ble_eq_true rfl⟩ dX6_unless_31) hS (fun H locs hP hS => ?_)
        refine lv_iand hx hb dX6_unless_34 ?_
        refine lv_iload_n hx hb dX6_unless_35 rfl (lv_at hl 2 rfl) ?_
        obtain ⟨p4, gp4, h⟩ := Option.bind_eq_some_iff.mp h
        refine gw_cz (gw_rN (host := "Genericwood") X hP hS (gc_X8_isPart l G (p2.1 &&& p3.1) v5_2 p3.2 _ gp4) gk_X8_isPart gv_391 gv_392 rfl rfl (Nat.le_of_ble_eq_true rfl) hl.1 ⟨rfl, rfl⟩ ⟨Nat.le_of_ble_eq_true rfl, Nat.le_of_ble_eq_true rfl⟩ ⟨Nat.le_of_ble_eq_true rfl, Nat.le_of_ble_eq_true rfl⟩ dX6_unless_36) hS (fun H locs hb_p4 hP hS => ?_)
        refine lv_if_eq (tgt := 49) hx hb dX6_unless_39 (by decide) (fun c => ?_) (fun c => ?_)
        · have h := (if_pos c).symm.trans h
          refine lv_iinc (v := (v5_4 + (1 : Int32))) (lv' := [(4, .int (v5_4 + (1 : Int32))), (0, .ref (G.2.1 26)), (1, .int v5_1), (2, .int v5_2), (3, .int v5_3)]) hx hb dX6_unless_49 hl (k := 4) rfl rfl (by decide) rfl (fun ls hl => ?_)
          refine lv_goto (tgt := 5) hx hb dX6_unless_52 (by decide) ?_
          exact ih v5_1 v5_2 v5_3 (v5_4 + (1 : Int32)) p4.2 _ _ _ h hP hS (lv_sub hl [1, 2, 3, 4, 0] rfl)
        · have h := (if_neg c).symm.trans h
          refine lv_iload_n hx hb dX6_unless_42 rfl (lv_at hl 3 rfl) ?_
          refine lv_iconst (v := 1) hx hb dX6_unless_43 (by decide) ?_
          refine lv_iload hx hb dX6_unless_44 (lv_at hl 4 rfl) ?_
          refine lv_ishl hx hb dX6_unless_46 ?_
          refine lv_ior hx hb dX6_unless_47 ?_
          refine lv_istore_n (lv' := [(3, .int (v5_3 ||| ((1 : Int32) <<< (v5_4 &&& 31)))), (0, .ref (G.2.1 26)), (1, .int v5_1), (2, .int v5_2), (4, .int v5_4)]) hx hb dX6_unless_48 rfl hl (by decide) rfl (fun ls hl => ?_)
          refine lv_iinc (v := (v5_4 + (1 : Int32))) (lv' := [(4, .int (v5_4 + (1 : Int32))), (3, .int (v5_3 ||| ((1 : Int32) <<< (v5_4 &&& 31)))), (0, .ref (G.2.1 26)), (1, .int v5_1), (2, .int v5_2)]) hx hb dX6_unless_49 hl (k := 4) rfl rfl (by decide) rfl (fun ls hl => ?_)
          refine lv_goto (tgt := 5) hx hb dX6_unless_52 (by decide) ?_
          exact ih v5_1 v5_2 (v5_3 ||| ((1 : Int32) <<< (v5_4 &&& 31))) (v5_4 + (1 : Int32)) p4.2 _ _ _ h hP hS (lv_sub hl [2, 3, 4, 1, 0] rfl)
  unfold f_X6_unless_W at h
  refine lv_iconst (v := 0) hx hb dX6_unless_0 (by decide) ?_
  refine lv_istore_n (lv' := [(3, .int (0 : Int32)), (0, .ref (G.2.1 26)), (1, .int a0), (2, .int a1)]) hx hb dX6_unless_1 rfl hl (by decide) rfl (fun ls hl => ?_)
  refine lv_iconst (v := 0) hx hb dX6_unless_2 (by decide) ?_
  refine lv_istore (lv' := [(4, .int (0 : Int32)), (3, .int (0 : Int32)), (0, .ref (G.2.1 26)), (1, .int a0), (2, .int a1)]) hx hb dX6_unless_3 hl (by decide) rfl (fun ls hl => ?_)
  exact L5 64 a0 a1 (0 : Int32) (0 : Int32) σ _ _ _ h hP hS (lv_sub hl [2, 3, 4, 1, 0] rfl)
def f_X6_settled_W (a0 : Int32) (σ : gw_S) : Option (Int32 × gw_S) := (some (a0, σ))
set_option maxHeartbeats 4000000 in
set_option maxRecDepth 100000 in
theorem gc_X6_settled_W (l : Launch) (G : gw_G) (a0 : Int32) (σ : gw_S) (o : (Int32 × gw_S)) (h : f_X6_settled_W a0 σ = some o) : gw_M (fun sz => gw_QI G sz o) l yX6_settled cX6_settled 2 (some .int) { frames := 0, cells := 0, slots := 0, locals := 0 } G [.ref (G.2.1 26), .int a0] σ := by
  refine gw_en (own := RX6) (lv := [(0, .ref (G.2.1 26)), (1, .int a0)]) (by decide +kernel) rfl (Nat.le_of_ble_eq_true rfl) rfl ?_
  intro p e s m below meth c ls X hl hP
  obtain ⟨hx, hb, hml, hown, hts, -, -, hT, hZ, -⟩ := id X
  have hS : va_S (gw_A G s.heap.size) s.heap s.heap [] := va_S.rf
  unfold f_X6_settled_W at h
  refine lv_iload_n hx hb dX6_settled_0 rfl (lv_at hl 1 rfl) ?_
  exact gw_ri X hP hS h dX6_settled_1
def f_X0_settled_F (a0 : Int32) (σ : gw_S) : Option (Int32 × gw_S) := ((f_X3_avoiding a0 σ).bind fun p1 => ((f_X3_avoiding p1.1 p1.2).bind fun p2 => (some (p2.1, p2.2))))
set_option maxHeartbeats 4000000 in
set_option maxRecDepth 100000 in
theorem gc_X0_settled_F (l : Launch) (G : gw_G) (a0 : Int32) (σ : gw_S) (o : (Int32 × gw_S)) (h : f_X0_settled_F a0 σ = some o) : gw_M (fun sz => gw_QI G sz o) l yX0_settled cX0_settled 2 (some .int) { frames := 2, cells := 0, slots := 0, locals := 44 } G [.ref (G.2.1 22), .int a0] σ := by
  refine gw_en (own := RX0) (lv := [(0, .ref (G.2.1 22)), (1, .int a0)]) (by decide +kernel) rfl (Nat.le_of_ble_eq_true rfl) rfl ?_
  intro p e s m below meth c ls X hl hP
  obtain ⟨hx, hb, hml, hown, hts, -, -, hT, hZ, -⟩ := id X
  have hS : va_S (gw_A G s.heap.size) s.heap s.heap [] := va_S.rf
  unfold f_X0_settled_F at h
  refine lv_aload_n hx hb dX0_settled_0 rfl (lv_at hl 0 rfl) ?_
  refine va_get (D := G.1) (ci := 3) (v := .ref (G.2.1 1)) (C := RX0) (T := TX0) (N := 7) hx hb hts gx_X0 hown hT.2.1 hP 22 rfl rfl 0 (by decide) (hts _ gv_141) (fun x9 h9 => u_same (hts _ gv_142) x9 h9) rfl dX0_settled_1 ?_
  refine lv_aload_n hx hb dX0_settled_4 rfl (lv_at hl 0 rfl) ?_
  refine va_get (D := G.1) (ci := 3) (v := .ref (G.2.1 1)) (C := RX0) (T := TX0) (N := 7) hx hb hts gx_X0 hown hT.2.1 hP 22 rfl rfl 0 (by decide) (hts _ gv_141) (fun x9 h9 => u_same (hts _ gv_142) x9 h9) rfl dX0_settled_5 ?_
  refine lv_iload_n hx hb dX0_settled_8 rfl (lv_at hl 1 rfl) ?_
  obtain ⟨p1, gp1, h⟩ := Option.bind_eq_some_iff.mp h
  refine gw_ci (gw_rV (C := RX3) X hP hS (gc_X3_avoiding l G a0 σ _ gp1) gk_X3_avoiding gv_425 ⟨gv_426, gv_427⟩ (va_recv hT.2.1 hP (ci := 6) (q0 := 1) rfl rfl) rfl rfl (Nat.le_of_ble_eq_true rfl) hl.1 ⟨rfl, rfl⟩ ⟨Nat.le_of_ble_eq_true rfl, Nat.le_of_ble_eq_true rfl⟩ ⟨Nat.le_of_ble_eq_true rfl, Nat.le_of_ble_eq_true rfl⟩ dX0_settled_9) hS (fun H locs hP hS => ?_)
  obtain ⟨p2, gp2, h⟩ := Option.bind_eq_some_iff.mp h
  refine gw_ci (gw_rV (C := RX3) X hP hS (gc_X3_avoiding l G p1.1 p1.2 _ gp2) gk_X3_avoiding gv_425 ⟨gv_426, gv_427⟩ (va_recv hT.2.1 hP (ci := 6) (q0 := 1) rfl rfl) rfl rfl (Nat.le_of_ble_eq_true rfl) hl.1 ⟨rfl, rfl⟩ ⟨Nat.le_of_ble_eq_true rfl, Nat.le_of_ble_eq_true rfl⟩ ⟨Nat.le_of_ble_eq_true rfl, Nat.le_of_ble_eq_true rfl⟩ dX0_settled_12) hS (fun H locs hP hS => ?_)
  exact gw_ri X hP hS h dX0_settled_15
