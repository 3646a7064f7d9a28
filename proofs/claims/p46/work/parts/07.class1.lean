theorem gv_975 : Cond.methodLink RX8 325 yX8_isLetter ∈ gw_L := gw_tab 975 (by decide +kernel) (by decide +kernel)
theorem gv_460 : Cond.static yX8_isLetter ∈ gw_L := gw_tab 460 (by decide +kernel) (by decide +kernel)
theorem gv_461 : Cond.code yX8_isLetter cX8_isLetter 1 (some .boolean) ∈ gw_L := gw_tab 461 (by decide +kernel) (by decide +kernel)
theorem gv_1 : Cond.initialized yX8_isLetter.cls ∈ gw_L := gw_tab 1 (by decide +kernel) (by decide +kernel)
theorem gk_X8_isLetter : gw_K yX8_isLetter cX8_isLetter 1 (some .boolean) 1 := ⟨gv_461, gv_1, by decide +kernel, by decide +kernel⟩
theorem gv_251 : Cond.constant RJ6 265 (1431655765) ∈ gw_L := gw_tab 251 (by decide +kernel) (by decide +kernel)
theorem gv_252 : Cond.constant RJ6 266 (858993459) ∈ gw_L := gw_tab 252 (by decide +kernel) (by decide +kernel)
theorem gv_253 : Cond.constant RJ6 267 (252645135) ∈ gw_L := gw_tab 253 (by decide +kernel) (by decide +kernel)
theorem gv_48 : Cond.fieldLink RX3 18 "Genericwood$Order" "count" "I" ∈ gw_L := gw_tab 48 (by decide +kernel) (by decide +kernel)
theorem gv_49 : Cond.fieldLink RX3 22 "Genericwood$Order" "changes" "I" ∈ gw_L := gw_tab 49 (by decide +kernel) (by decide +kernel)
theorem gv_51 : Cond.fieldLink RX3 9 "Genericwood$Order" "downs" "[I" ∈ gw_L := gw_tab 51 (by decide +kernel) (by decide +kernel)
theorem gv_274 : Cond.methodLinkNest RX3 32 yX8_at "Genericwood" ∈ gw_L := gw_tab 274 (by decide +kernel) (by decide +kernel)
theorem gv_275 : Cond.static yX8_at ∈ gw_L := gw_tab 275 (by decide +kernel) (by decide +kernel)
theorem gv_276 : Cond.code yX8_at cX8_at 2 (some .int) ∈ gw_L := gw_tab 276 (by decide +kernel) (by decide +kernel)
theorem gk_X8_at : gw_K yX8_at cX8_at 2 (some .int) 2 := ⟨gv_276, gv_1, by decide +kernel, by decide +kernel⟩
theorem gv_273 : Cond.code yX3_down cX3_down 2 (some .int) ∈ gw_L := gw_tab 273 (by decide +kernel) (by decide +kernel)
theorem gv_2 : Cond.initialized yX3_down.cls ∈ gw_L := gw_tab 2 (by decide +kernel) (by decide +kernel)
theorem gk_X3_down : gw_K yX3_down cX3_down 2 (some .int) 1 := ⟨gv_273, gv_2, by decide +kernel, by decide +kernel⟩
theorem gv_271 : Cond.instanceMethod yX3_down ∈ gw_L := gw_tab 271 (by decide +kernel) (by decide +kernel)
theorem gv_270 : Cond.methodLink RX3 40 yX3_down ∈ gw_L := gw_tab 270 (by decide +kernel) (by decide +kernel)
theorem gv_272 : Cond.selects RX3 yX3_down yX3_down ∈ gw_L := gw_tab 272 (by decide +kernel) (by decide +kernel)
theorem gv_277 : Cond.methodLinkNest RX3 44 yX8_contains "Genericwood" ∈ gw_L := gw_tab 277 (by decide +kernel) (by decide +kernel)
theorem gv_278 : Cond.static yX8_contains ∈ gw_L := gw_tab 278 (by decide +kernel) (by decide +kernel)
theorem gv_279 : Cond.code yX8_contains cX8_contains 2 (some .boolean) ∈ gw_L := gw_tab 279 (by decide +kernel) (by decide +kernel)
theorem gk_X8_contains : gw_K yX8_contains cX8_contains 2 (some .boolean) 2 := ⟨gv_279, gv_1, by decide +kernel, by decide +kernel⟩
theorem gv_269 : Cond.code yX3_stands cX3_stands 3 (some .boolean) ∈ gw_L := gw_tab 269 (by decide +kernel) (by decide +kernel)
theorem gk_X3_stands : gw_K yX3_stands cX3_stands 3 (some .boolean) 2 := ⟨gv_269, gv_2, by decide +kernel, by decide +kernel⟩
theorem gv_267 : Cond.instanceMethod yX3_stands ∈ gw_L := gw_tab 267 (by decide +kernel) (by decide +kernel)
theorem gv_689 : Cond.methodLink RX3 36 yX3_stands ∈ gw_L := gw_tab 689 (by decide +kernel) (by decide +kernel)
theorem gv_268 : Cond.selects RX3 yX3_stands yX3_stands ∈ gw_L := gw_tab 268 (by decide +kernel) (by decide +kernel)
theorem gv_50 : Cond.fieldLink RX3 29 "Genericwood$Order" "ends" "I" ∈ gw_L := gw_tab 50 (by decide +kernel) (by decide +kernel)
theorem gv_631 : Cond.methodLinkNest RX3 25 yX8_put "Genericwood" ∈ gw_L := gw_tab 631 (by decide +kernel) (by decide +kernel)
theorem gv_403 : Cond.static yX8_put ∈ gw_L := gw_tab 403 (by decide +kernel) (by decide +kernel)
theorem gv_404 : Cond.code yX8_put cX8_put 3 none ∈ gw_L := gw_tab 404 (by decide +kernel) (by decide +kernel)
theorem gk_X8_put : gw_K yX8_put cX8_put 3 none 3 := ⟨gv_404, gv_1, by decide +kernel, by decide +kernel⟩
theorem gv_694 : Cond.methodLink RX3 47 yJ6_bitCount_0f7a4 ∈ gw_L := gw_tab 694 (by decide +kernel) (by decide +kernel)
theorem gv_249 : Cond.static yJ6_bitCount_0f7a4 ∈ gw_L := gw_tab 249 (by decide +kernel) (by decide +kernel)
theorem gv_250 : Cond.code yJ6_bitCount_0f7a4 cJ6_bitCount_0f7a4 1 (some .int) ∈ gw_L := gw_tab 250 (by decide +kernel) (by decide +kernel)
theorem gv_19 : Cond.initialized yJ6_bitCount_0f7a4.cls ∈ gw_L := gw_tab 19 (by decide +kernel) (by decide +kernel)
theorem gk_J6_bitCount_0f7a4 : gw_K yJ6_bitCount_0f7a4 cJ6_bitCount_0f7a4 1 (some .int) 1 := ⟨gv_250, gv_19, by decide +kernel, by decide +kernel⟩
theorem gv_52 : Cond.fieldLink RX3 15 "Genericwood$Order" "images" "[I" ∈ gw_L := gw_tab 52 (by decide +kernel) (by decide +kernel)
theorem gv_505 : Cond.code yX3_image cX3_image 2 (some .int) ∈ gw_L := gw_tab 505 (by decide +kernel) (by decide +kernel)
theorem gk_X3_image : gw_K yX3_image cX3_image 2 (some .int) 1 := ⟨gv_505, gv_2, by decide +kernel, by decide +kernel⟩
theorem gv_503 : Cond.instanceMethod yX3_image ∈ gw_L := gw_tab 503 (by decide +kernel) (by decide +kernel)
theorem gv_1103 : Cond.methodLink RX3 52 yX3_image ∈ gw_L := gw_tab 1103 (by decide +kernel) (by decide +kernel)
theorem gv_504 : Cond.selects RX3 yX3_image yX3_image ∈ gw_L := gw_tab 504 (by decide +kernel) (by decide +kernel)
def f_X8_contains (a0 : Int32) (a1 : Int32) (σ : gw_S) : Option (Int32 × gw_S) := (if a1 < 0 then (some ((0 : Int32), σ)) else (if (32 : Int32) ≤ a1 then (some ((0 : Int32), σ)) else (if (((a0).toUInt32 >>> ((a1).toUInt32 &&& Int32.toUInt32 31)).toInt32 &&& (1 : Int32)) = 0 then (some ((0 : Int32), σ)) else (some ((1 : Int32), σ)))))
set_option maxHeartbeats 4000000 in
set_option maxRecDepth 100000 in
theorem gc_X8_contains (l : Launch) (G : gw_G) (a0 : Int32) (a1 : Int32) (σ : gw_S) (o : (Int32 × gw_S)) (h : f_X8_contains a0 a1 σ = some o) : gw_M (fun sz => gw_QZ G sz o) l yX8_contains cX8_contains 2 (some .boolean) { frames := 0, cells := 0, slots := 0, locals := 0 } G [.int a0, .int a1] σ := by
  refine gw_en (own := RX8) (lv := [(0, .int a0), (1, .int a1)]) (by decide +kernel) rfl (Nat.le_of_ble_eq_true rfl) rfl ?_
  intro p e s m below meth c ls X hl hP
  obtain ⟨hx, hb, hml, hown, hts, -, -, hT, hZ, -⟩ := id X
  have hS : va_S (gw_A G s.heap.size) s.heap s.heap [] := va_S.rf
  unfold f_X8_contains at h
  refine lv_iload_n hx hb dX8_contains_0 rfl (lv_at hl 1 rfl) ?_
  refine lv_if_lt (tgt := 22) hx hb dX8_contains_1 (by decide) (fun c => ?_) (fun c => ?_)
  · have h := (if_pos c).symm.trans h
    refine lv_iconst (v := 0) hx hb dX8_contains_22 (by decide) ?_
    exact gw_rz X hP hS rfl h dX8_contains_23
  · have h := (if_neg c).symm.trans h
    refine lv_iload_n hx hb dX8_contains_4 rfl (lv_at hl 1 rfl) ?_
    refine lv_bipush (v := 32) hx hb dX8_contains_5 (by decide) ?_
    refine lv_icmp_ge (tgt := 22) hx hb dX8_contains_7 (by decide) (fun c => ?_) (fun c => ?_)
    · have h := (if_pos c).symm.trans h
      refine lv_iconst (v := 0) hx hb dX8_contains_22 (by decide) ?_
      exact gw_rz X hP hS rfl h dX8_contains_23
    · have h := (if_neg c).symm.trans h
      refine lv_iload_n hx hb dX8_contains_10 rfl (lv_at hl 0 rfl) ?_
      refine lv_iload_n hx hb dX8_contains_11 rfl (lv_at hl 1 rfl) ?_
      refine lv_iushr hx hb dX8_contains_12 rfl ?_
      refine lv_iconst (v := 1) hx hb dX8_contains_13 (by decide) ?_
      refine lv_iand hx hb dX8_contains_14 ?_
      refine lv_if_eq (tgt := 22) hx hb dX8_contains_15 (by decide) (fun c => ?_) (fun c => ?_)
      · have h := (if_pos c).symm.trans h
        refine lv_iconst (v := 0) hx hb dX8_contains_22 (by decide) ?_
        exact gw_rz X hP hS rfl h dX8_contains_23
      · have h := (if_neg c).symm.trans h
        refine lv_iconst (v := 1) hx hb dX8_contains_18 (by decide) ?_
        refine lv_goto (tgt := 23) hx hb dX8_contains_19 (by decide) ?_
        exact gw_rz X hP hS rfl h dX8_contains_23
def f_X8_isPart (a0 : Int32) (a1 : Int32) (σ : gw_S) : Option (Int32 × gw_S) := (if (a0 &&& (a1 ^^^ (-1 : Int32))) = 0 then (some ((1 : Int32), σ)) else (some ((0 : Int32), σ)))
set_option maxHeartbeats 4000000 in
set_option maxRecDepth 100000 in
theorem gc_X8_isPart (l : Launch) (G : gw_G) (a0 : Int32) (a1 : Int32) (σ : gw_S) (o : (Int32 × gw_S)) (h : f_X8_isPart a0 a1 σ = some o) : gw_M (fun sz => gw_QZ G sz o) l yX8_isPart cX8_isPart 2 (some .boolean) { frames := 0, cells := 0, slots := 0, locals := 0 } G [.int a0, .int a1] σ := by
  refine gw_en (own := RX8) (lv := [(0, .int a0), (1, .int a1)]) (by decide +kernel) rfl (Nat.le_of_ble_eq_true rfl) rfl ?_
  intro p e s m below meth c ls X hl hP
  obtain ⟨hx, hb, hml, hown, hts, -, -, hT, hZ, -⟩ := id X
  have hS : va_S (gw_A G s.heap.size) s.heap s.heap [] := va_S.rf
  unfold f_X8_isPart at h
  refine lv_iload_n hx hb dX8_isPart_0 rfl (lv_at hl 0 rfl) ?_
  refine lv_iload_n hx hb dX8_isPart_1 rfl (lv_at hl 1 rfl) ?_
  refine lv_iconst (v := -1) hx hb dX8_isPart_2 (by decide) ?_
  refine lv_ixor hx hb dX8_isPart_3 ?_
  refine lv_iand hx hb dX8_isPart_4 ?_
  refine lv_if_ne (tgt := 12) hx hb dX8_isPart_5 (by decide) (fun c => ?_) (fun c => ?_)
  · have h := (if_neg c).symm.trans h
    refine lv_iconst (v := 0) hx hb dX8_isPart_12 (by decide) ?_
    exact gw_rz X hP hS rfl h dX8_isPart_13
  · have h := (if_pos c).symm.trans h
    refine lv_iconst (v := 1) hx hb dX8_isPart_8 (by decide) ?_
    refine lv_goto (tgt := 13) hx hb dX8_isPart_9 (by decide) ?_
    exact gw_rz X hP hS rfl h dX8_isPart_13
def f_X8_isLetter (a0 : Int32) (σ : gw_S) : Option (Int32 × gw_S) := (if a0 < (100 : Int32) then (some ((0 : Int32), σ)) else (if (104 : Int32) ≤ a0 then (some ((0 : Int32), σ)) else (some ((1 : Int32), σ))))
set_option maxHeartbeats 4000000 in
set_option maxRecDepth 100000 in
theorem gc_X8_isLetter (l : Launch) (G : gw_G) (a0 : Int32) (σ : gw_S) (o : (Int32 × gw_S)) (h : f_X8_isLetter a0 σ = some o) : gw_M (fun sz => gw_QZ G sz o) l yX8_isLetter cX8_isLetter 1 (some .boolean) { frames := 0, cells := 0, slots := 0, locals := 0 } G [.int a0] σ := by
  refine gw_en (own := RX8) (lv := [(0, .int a0)]) (by decide +kernel) rfl (Nat.le_of_ble_eq_true rfl) rfl ?_
  intro p e s m below meth c ls X hl hP
  obtain ⟨hx, hb, hml, hown, hts, -, -, hT, hZ, -⟩ := id X
  have hS : va_S (gw_A G s.heap.size) s.heap s.heap [] := va_S.rf
  unfold f_X8_isLetter at h
  refine lv_iload_n hx hb dX8_isLetter_0 rfl (lv_at hl 0 rfl) ?_
  refine lv_bipush (v := 100) hx hb dX8_isLetter_1 (by decide) ?_
  refine lv_icmp_lt (tgt := 16) hx hb dX8_isLetter_3 (by decide) (fun c => ?_) (fun c => ?_)
  · have h := (if_pos c).symm.trans h
    refine lv_iconst (v := 0) hx hb dX8_isLetter_16 (by decide) ?_
    exact gw_rz X hP hS rfl h dX8_isLetter_17
  · have h := (if_neg c).symm.trans h
    refine lv_iload_n hx hb dX8_isLetter_6 rfl (lv_at hl 0 rfl) ?_
    refine lv_bipush (v := 104) hx hb dX8_isLetter_7 (by decide) ?_
    refine lv_icmp_ge (tgt := 16) hx hb dX8_isLetter_9 (by decide) (fun c => ?_) (fun c => ?_)
    · have h := (if_pos c).symm.trans h
      refine lv_iconst (v := 0) hx hb dX8_isLetter_16 (by decide) ?_
      exact gw_rz X hP hS rfl h dX8_isLetter_17
    · have h := (if_neg c).symm.trans h
      refine lv_iconst (v := 1) hx hb dX8_isLetter_12 (by decide) ?_
      refine lv_goto (tgt := 17) hx hb dX8_isLetter_13 (by decide) ?_
      exact gw_rz X hP hS rfl h dX8_isLetter_17
def f_X8_letterOf (a0 : Int32) (σ : gw_S) : Option (Int32 × gw_S) := ((f_X8_isLetter a0 σ).bind fun p1 => (if p1.1 = 0 then (some ((0 : Int32), p1.2)) else (some (((1 : Int32) <<< ((a0 - (100 : Int32)) &&& 31)), p1.2))))
set_option maxHeartbeats 4000000 in
set_option maxRecDepth 100000 in
theorem gc_X8_letterOf (l : Launch) (G : gw_G) (a0 : Int32) (σ : gw_S) (o : (Int32 × gw_S)) (h : f_X8_letterOf a0 σ = some o) : gw_M (fun sz => gw_QI G sz o) l yX8_letterOf cX8_letterOf 1 (some .int) { frames := 1, cells := 0, slots := 0, locals := 20 } G [.int a0] σ := by
  refine gw_en (own := RX8) (lv := [(0, .int a0)]) (by decide +kernel) rfl (Nat.le_of_ble_eq_true rfl) rfl ?_
  intro p e s m below meth c ls X hl hP
  obtain ⟨hx, hb, hml, hown, hts, -, -, hT, hZ, -⟩ := id X
  have hS : va_S (gw_A G s.heap.size) s.heap s.heap [] := va_S.rf
  unfold f_X8_letterOf at h
  refine lv_iload_n hx hb dX8_letterOf_0 rfl (lv_at hl 0 rfl) ?_
  obtain ⟨p1, gp1, h⟩ := Option.bind_eq_some_iff.mp h
  refine gw_cz (gw_rS X hP hS (gc_X8_isLetter l G a0 σ _ gp1) gk_X8_isLetter gv_975 gv_460 rfl rfl (Nat.le_of_ble_eq_true rfl) hl.1 ⟨rfl, rfl⟩ ⟨Nat.le_of_ble_eq_true rfl, Nat.le_of_ble_eq_true rfl⟩ ⟨Nat.le_of_ble_eq_true rfl, Nat.le_of_ble_eq_true rfl⟩ dX8_letterOf_1) hS (fun H locs hb_p1 hP hS => ?_)
  refine lv_if_eq (tgt := 16) hx hb dX8_letterOf_4 (by decide) (fun c => ?_) (fun c => ?_)
  · have h := (if_pos c).symm.trans h
    refine lv_iconst (v := 0) hx hb dX8_letterOf_16 (by decide) ?_
    exact gw_ri X hP hS h dX8_letterOf_17
  · have h := (if_neg c).symm.trans h
    refine lv_iconst (v := 1) hx hb dX8_letterOf_7 (by decide) ?_
    refine lv_iload_n hx hb dX8_letterOf_8 rfl (lv_at hl 0 rfl) ?_
    refine lv_bipush (v := 100) hx hb dX8_letterOf_9 (by decide) ?_
    refine lv_isub hx hb dX8_letterOf_11 ?_
    refine lv_ishl hx hb dX8_letterOf_12 ?_
    refine lv_goto (tgt := 17) hx hb dX8_letterOf_13 (by decide) ?_
    exact gw_ri X hP hS h dX8_letterOf_17
def f_J6_bitCount_0f7a4 (a0 : Int32) (σ : gw_S) : Option (Int32 × gw_S) := (some (((((((((a0 - (((a0).toUInt32 >>> (((1 : Int32)).toUInt32 &&& Int32.toUInt32 31)).toInt32 &&& (1431655765 : Int32))) &&& (858993459 : Int32)) + ((((a0 - (((a0).toUInt32 >>> (((1 : Int32)).toUInt32 &&& Int32.toUInt32 31)).toInt32 &&& (1431655765 : Int32)))).toUInt32 >>> (((2 : Int32)).toUInt32 &&& Int32.toUInt32 31)).toInt32 &&& (858993459 : Int32))) + (((((a0 - (((a0).toUInt32 >>> (((1 : Int32)).toUInt32 &&& Int32.toUInt32 31)).toInt32 &&& (1431655765 : Int32))) &&& (858993459 : Int32)) + ((((a0 - (((a0).toUInt32 >>> (((1 : Int32)).toUInt32 &&& Int32.toUInt32 31)).toInt32 &&& (1431655765 : Int32)))).toUInt32 >>> (((2 : Int32)).toUInt32 &&& Int32.toUInt32 31)).toInt32 &&& (858993459 : Int32)))).toUInt32 >>> (((4 : Int32)).toUInt32 &&& Int32.toUInt32 31)).toInt32) &&& (252645135 : Int32)) + (((((((a0 - (((a0).toUInt32 >>> (((1 : Int32)).toUInt32 &&& Int32.toUInt32 31)).toInt32 &&& (1431655765 : Int32))) &&& (858993459 : Int32)) + ((((a0 - (((a0).toUInt32 >>> (((1 : Int32)).toUInt32 &&& Int32.toUInt32 31)).toInt32 &&& (1431655765 : Int32)))).toUInt32 >>> (((2 : Int32)).toUInt32 &&& Int32.toUInt32 31)).toInt32 &&& (858993459 : Int32))) + (((((a0 - (((a0).toUInt32 >>> (((1 : Int32)).toUInt32 &&& Int32.toUInt32 31)).toInt32 &&& (1431655765 : Int32))) &&& (858993459 : Int32)) + ((((a0 - (((a0).toUInt32 >>> (((1 : Int32)).toUInt32 &&& Int32.toUInt32 31)).toInt32 &&& (1431655765 : Int32)))).toUInt32 >>> (((2 : Int32)).toUInt32 &&& Int32.toUInt32 31)).toInt32 &&& (858993459 : Int32)))).toUInt32 >>> (((4 : Int32)).toUInt32 &&& Int32.toUInt32 31)).toInt32) &&& (252645135 : Int32))).toUInt32 >>> (((8 : Int32)).toUInt32 &&& Int32.toUInt32 31)).toInt32) + ((((((((a0 - (((a0).toUInt32 >>> (((1 : Int32)).toUInt32 &&& Int32.toUInt32 31)).toInt32 &&& (1431655765 : Int32))) &&& (858993459 : Int32)) + ((((a0 - (((a0).toUInt32 >>> (((1 : Int32)).toUInt32 &&& Int32.toUInt32 31)).toInt32 &&& (1431655765 : Int32)))).toUInt32 >>> (((2 : Int32)).toUInt32 &&& Int32.toUInt32 31)).toInt32 &&& (858993459 : Int32))) + (((((a0 - (((a0).toUInt32 >>> (((1 : Int32)).toUInt32 &&& Int32.toUInt32 31)).toInt32 &&& (1431655765 : Int32))) &&& (858993459 : Int32)) + ((((a0 - (((a0).toUInt32 >>> (((1 : Int32)).toUInt32 &&& Int32.toUInt32 31)).toInt32 &&& (1431655765 : Int32)))).toUInt32 >>> (((2 : Int32)).toUInt32 &&& Int32.toUInt32 31)).toInt32 &&& (858993459 : Int32)))).toUInt32 >>> (((4 : Int32)).toUInt32 &&& Int32.toUInt32 31)).toInt32) &&& (252645135 : Int32)) + (((((((a0 - (((a0).toUInt32 >>> (((1 : Int32)).toUInt32 &&& Int32.toUInt32 31)).toInt32 &&& (1431655765 : Int32))) &&& (858993459 : Int32)) + ((((a0 - (((a0).toUInt32 >>> (((1 : Int32)).toUInt32 &&& Int32.toUInt32 31)).toInt32 &&& (1431655765 : Int32)))).toUInt32 >>> (((2 : Int32)).toUInt32 &&& Int32.toUInt32 31)).toInt32 &&& (858993459 : Int32))) + (((((a0 - (((a0).toUInt32 >>> (((1 : Int32)).toUInt32 &&& Int32.toUInt32 31)).toInt32 &&& (1431655765 : Int32))) &&& (858993459 : Int32)) + ((((a0 - (((a0).toUInt32 >>> (((1 : Int32)).toUInt32 &&& Int32.toUInt32 31)).toInt32 &&& (1431655765 : Int32)))).toUInt32 >>> (((2 : Int32)).toUInt32 &&& Int32.toUInt32 31)).toInt32 &&& (858993459 : Int32)))).toUInt32 >>> (((4 : Int32)).toUInt32 &&& Int32.toUInt32 31)).toInt32) &&& (252645135 : Int32))).toUInt32 >>> (((8 : Int32)).toUInt32 &&& Int32.toUInt32 31)).toInt32)).toUInt32 >>> (((16 : Int32)).toUInt32 &&& Int32.toUInt32 31)).toInt32) &&& (63 : Int32)), σ))
set_option maxHeartbeats 4000000 in
set_option maxRecDepth 100000 in
theorem gc_J6_bitCount_0f7a4 (l : Launch) (G : gw_G) (a0 : Int32) (σ : gw_S) (o : (Int32 × gw_S)) (h : f_J6_bitCount_0f7a4 a0 σ = some o) : gw_M (fun sz => gw_QI G sz o) l yJ6_bitCount_0f7a4 cJ6_bitCount_0f7a4 1 (some .int) { frames := 0, cells := 0, slots := 0, locals := 0 } G [.int a0] σ := by
  refine gw_en (own := RJ6) (lv := [(0, .int a0)]) (by decide +kernel) rfl (Nat.le_of_ble_eq_true rfl) rfl ?_
  intro p e s m below meth c ls X hl hP
  obtain ⟨hx, hb, hml, hown, hts, -, -, hT, hZ, -⟩ := id X
  have hS : va_S (gw_A G s.heap.size) s.heap s.heap [] := va_S.rf
  unfold f_J6_bitCount_0f7a4 at h
  refine lv_iload_n hx hb dJ6_bitCount_0f7a4_0 rfl (lv_at hl 0 rfl) ?_
  refine lv_iload_n hx hb dJ6_bitCount_0f7a4_1 rfl (lv_at hl 0 rfl) ?_
  refine lv_iconst (v := 1) hx hb dJ6_bitCount_0f7a4_2 (by decide) ?_
  refine lv_iushr hx hb dJ6_bitCount_0f7a4_3 rfl ?_
  refine lv_ldcw (v := 1431655765) hx hb hown (hts _ gv_251) dJ6_bitCount_0f7a4_4 ?_
  refine lv_iand hx hb dJ6_bitCount_0f7a4_7 ?_
  refine lv_isub hx hb dJ6_bitCount_0f7a4_8 ?_
  refine lv_istore_n (lv' := [(0, .int (a0 - (((a0).toUInt32 >>> (((1 : Int32)).toUInt32 &&& Int32.toUInt32 31)).toInt32 &&& (1431655765 : Int32))))]) hx hb dJ6_bitCount_0f7a4_9 rfl hl (by decide) rfl (fun ls hl => ?_)
  refine lv_iload_n hx hb dJ6_bitCount_0f7a4_10 rfl (lv_at hl 0 rfl) ?_
  refine lv_ldcw (v := 858993459) hx hb hown (hts _ gv_252) dJ6_bitCount_0f7a4_11 ?_
  refine lv_iand hx hb dJ6_bitCount_0f7a4_14 ?_
  refine lv_iload_n hx hb dJ6_bitCount_0f7a4_15 rfl (lv_at hl 0 rfl) ?_
  refine lv_iconst (v := 2) hx hb dJ6_bitCount_0f7a4_16 (by decide) ?_
  refine lv_iushr hx hb dJ6_bitCount_0f7a4_17 rfl ?_
  refine lv_ldcw (v := 858993459) hx hb hown (hts _ gv_252) dJ6_bitCount_0f7a4_18 ?_
  refine lv_iand hx hb dJ6_bitCount_0f7a4_21 ?_
  refine lv_iadd hx hb dJ6_bitCount_0f7a4_22 ?_
  refine lv_istore_n (lv' := [(0, .int (((a0 - (((a0).toUInt32 >>> (((1 : Int32)).toUInt32 &&& Int32.toUInt32 31)).toInt32 &&& (1431655765 : Int32))) &&& (858993459 : Int32)) + ((((a0 - (((a0).toUInt32 >>> (((1 : Int32)).toUInt32 &&& Int32.toUInt32 31)).toInt32 &&& (1431655765 : Int32)))).toUInt32 >>> (((2 : Int32)).toUInt32 &&& Int32.toUInt32 31)).toInt32 &&& (858993459 : Int32))))]) hx hb dJ6_bitCount_0f7a4_23 rfl hl (by decide) rfl (fun ls hl => ?_)
  refine lv_iload_n hx hb dJ6_bitCount_0f7a4_24 rfl (lv_at hl 0 rfl) ?_
  refine lv_iload_n hx hb dJ6_bitCount_0f7a4_25 rfl (lv_at hl 0 rfl) ?_
  refine lv_iconst (v := 4) hx hb dJ6_bitCount_0f7a4_26 (by decide) ?_
  refine lv_iushr hx hb dJ6_bitCount_0f7a4_27 rfl ?_
  refine lv_iadd hx hb dJ6_bitCount_0f7a4_28 ?_
  refine lv_ldcw (v := 252645135) hx hb hown (hts _ gv_253) dJ6_bitCount_0f7a4_29 ?_
  refine lv_iand hx hb dJ6_bitCount_0f7a4_32 ?_
  refine lv_istore_n (lv' := [(0, .int (((((a0 - (((a0).toUInt32 >>> (((1 : Int32)).toUInt32 &&& Int32.toUInt32 31)).toInt32 &&& (1431655765 : Int32))) &&& (858993459 : Int32)) + ((((a0 - (((a0).toUInt32 >>> (((1 : Int32)).toUInt32 &&& Int32.toUInt32 31)).toInt32 &&& (1431655765 : Int32)))).toUInt32 >>> (((2 : Int32)).toUInt32 &&& Int32.toUInt32 31)).toInt32 &&& (858993459 : Int32))) + (((((a0 - (((a0).toUInt32 >>> (((1 : Int32)).toUInt32 &&& Int32.toUInt32 31)).toInt32 &&& (1431655765 : Int32))) &&& (858993459 : Int32)) + ((((a0 - (((a0).toUInt32 >>> (((1 : Int32)).toUInt32 &&& Int32.toUInt32 31)).toInt32 &&& (1431655765 : Int32)))).toUInt32 >>> (((2 : Int32)).toUInt32 &&& Int32.toUInt32 31)).toInt32 &&& (858993459 : Int32)))).toUInt32 >>> (((4 : Int32)).toUInt32 &&& Int32.toUInt32 31)).toInt32) &&& (252645135 : Int32)))]) hx hb dJ6_bitCount_0f7a4_33 rfl hl (by decide) rfl (fun ls hl => ?_)
  refine lv_iload_n hx hb dJ6_bitCount_0f7a4_34 rfl (lv_at hl 0 rfl) ?_
  refine lv_iload_n hx hb dJ6_bitCount_0f7a4_35 rfl (lv_at hl 0 rfl) ?_
  refine lv_bipush (v := 8) hx hb dJ6_bitCount_0f7a4_36 (by decide) ?_
  refine lv_iushr hx hb dJ6_bitCount_0f7a4_38 rfl ?_
  refine lv_iadd hx hb dJ6_bitCount_0f7a4_39 ?_
  refine lv_istore_n (lv' := [(0, .int ((((((a0 - (((a0).toUInt32 >>> (((1 : Int32)).toUInt32 &&& Int32.toUInt32 31)).toInt32 &&& (1431655765 : Int32))) &&& (858993459 : Int32)) + ((((a0 - (((a0).toUInt32 >>> (((1 : Int32)).toUInt32 &&& Int32.toUInt32 31)).toInt32 &&& (1431655765 : Int32)))).toUInt32 >>> (((2 : Int32)).toUInt32 &&& Int32.toUInt32 31)).toInt32 &&& (858993459 : Int32))) + (((((a0 - (((a0).toUInt32 >>> (((1 : Int32)).toUInt32 &&& Int32.toUInt32 31)).toInt32 &&& (1431655765 : Int32))) &&& (858993459 : Int32)) + ((((a0 - (((a0).toUInt32 >>> (((1 : Int32)).toUInt32 &&& Int32.toUInt32 31)).toInt32 &&& (1431655765 : Int32)))).toUInt32 >>> (((2 : Int32)).toUInt32 &&& Int32.toUInt32 31)).toInt32 &&& (858993459 : Int32)))).toUInt32 >>> (((4 : Int32)).toUInt32 &&& Int32.toUInt32 31)).toInt32) &&& (252645135 : Int32)) + (((((((a0 - (((a0).toUInt32 >>> (((1 : Int32)).toUInt32 &&& Int32.toUInt32 31)).toInt32 &&& (1431655765 : Int32))) &&& (858993459 : Int32)) + ((((a0 - (((a0).toUInt32 >>> (((1 : Int32)).toUInt32 &&& Int32.toUInt32 31)).toInt32 &&& (1431655765 : Int32)))).toUInt32 >>> (((2 : Int32)).toUInt32 &&& Int32.toUInt32 31)).toInt32 &&& (858993459 : Int32))) + (((((a0 - (((a0).toUInt32 >>> (((1 : Int32)).toUInt32 &&& Int32.toUInt32 31)).toInt32 &&& (1431655765 : Int32))) &&& (858993459 : Int32)) + ((((a0 - (((a0).toUInt32 >>> (((1 : Int32)).toUInt32 &&& Int32.toUInt32 31)).toInt32 &&& (1431655765 : Int32)))).toUInt32 >>> (((2 : Int32)).toUInt32 &&& Int32.toUInt32 31)).toInt32 &&& (858993459 : Int32)))).toUInt32 >>> (((4 : Int32)).toUInt32 &&& Int32.toUInt32 31)).toInt32) &&& (252645135 : Int32))).toUInt32 >>> (((8 : Int32)).toUInt32 &&& Int32.toUInt32 31)).toInt32))]) hx hb dJ6_bitCount_0f7a4_40 rfl hl (by decide) rfl (fun ls hl => ?_)
  refine lv_iload_n hx hb dJ6_bitCount_0f7a4_41 rfl (lv_at hl 0 rfl) ?_
  refine lv_iload_n hx hb dJ6_bitCount_0f7a4_42 rfl (lv_at hl 0 rfl) ?_
  refine lv_bipush (v := 16) hx hb dJ6_bitCount_0f7a4_43 (by decide) ?_
  refine lv_iushr hx hb dJ6_bitCount_0f7a4_45 rfl ?_
  refine lv_iadd hx hb dJ6_bitCount_0f7a4_46 ?_
  refine lv_istore_n (lv' := [(0, .int (((((((a0 - (((a0).toUInt32 >>> (((1 : Int32)).toUInt32 &&& Int32.toUInt32 31)).toInt32 &&& (1431655765 : Int32))) &&& (858993459 : Int32)) + ((((a0 - (((a0).toUInt32 >>> (((1 : Int32)).toUInt32 &&& Int32.toUInt32 31)).toInt32 &&& (1431655765 : Int32)))).toUInt32 >>> (((2 : Int32)).toUInt32 &&& Int32.toUInt32 31)).toInt32 &&& (858993459 : Int32))) + (((((a0 - (((a0).toUInt32 >>> (((1 : Int32)).toUInt32 &&& Int32.toUInt32 31)).toInt32 &&& (1431655765 : Int32))) &&& (858993459 : Int32)) + ((((a0 - (((a0).toUInt32 >>> (((1 : Int32)).toUInt32 &&& Int32.toUInt32 31)).toInt32 &&& (1431655765 : Int32)))).toUInt32 >>> (((2 : Int32)).toUInt32 &&& Int32.toUInt32 31)).toInt32 &&& (858993459 : Int32)))).toUInt32 >>> (((4 : Int32)).toUInt32 &&& Int32.toUInt32 31)).toInt32) &&& (252645135 : Int32)) + (((((((a0 - (((a0).toUInt32 >>> (((1 : Int32)).toUInt32 &&& Int32.toUInt32 31)).toInt32 &&& (1431655765 : Int32))) &&& (858993459 : Int32)) + ((((a0 - (((a0).toUInt32 >>> (((1 : Int32)).toUInt32 &&& Int32.toUInt32 31)).toInt32 &&& (1431655765 : Int32)))).toUInt32 >>> (((2 : Int32)).toUInt32 &&& Int32.toUInt32 31)).toInt32 &&& (858993459 : Int32))) + (((((a0 - (((a0).toUInt32 >>> (((1 : Int32)).toUInt32 &&& Int32.toUInt32 31)).toInt32 &&& (1431655765 : Int32))) &&& (858993459 : Int32)) + ((((a0 - (((a0).toUInt32 >>> (((1 : Int32)).toUInt32 &&& Int32.toUInt32 31)).toInt32 &&& (1431655765 : Int32)))).toUInt32 >>> (((2 : Int32)).toUInt32 &&& Int32.toUInt32 31)).toInt32 &&& (858993459 : Int32)))).toUInt32 >>> (((4 : Int32)).toUInt32 &&& Int32.toUInt32 31)).toInt32) &&& (252645135 : Int32))).toUInt32 >>> (((8 : Int32)).toUInt32 &&& Int32.toUInt32 31)).toInt32) + ((((((((a0 - (((a0).toUInt32 >>> (((1 : Int32)).toUInt32 &&& Int32.toUInt32 31)).toInt32 &&& (1431655765 : Int32))) &&& (858993459 : Int32)) + ((((a0 - (((a0).toUInt32 >>> (((1 : Int32)).toUInt32 &&& Int32.toUInt32 31)).toInt32 &&& (1431655765 : Int32)))).toUInt32 >>> (((2 : Int32)).toUInt32 &&& Int32.toUInt32 31)).toInt32 &&& (858993459 : Int32))) + (((((a0 - (((a0).toUInt32 >>> (((1 : Int32)).toUInt32 &&& Int32.toUInt32 31)).toInt32 &&& (1431655765 : Int32))) &&& (858993459 : Int32)) + ((((a0 - (((a0).toUInt32 >>> (((1 : Int32)).toUInt32 &&& Int32.toUInt32 31)).toInt32 &&& (1431655765 : Int32)))).toUInt32 >>> (((2 : Int32)).toUInt32 &&& Int32.toUInt32 31)).toInt32 &&& (858993459 : Int32)))).toUInt32 >>> (((4 : Int32)).toUInt32 &&& Int32.toUInt32 31)).toInt32) &&& (252645135 : Int32)) + (((((((a0 - (((a0).toUInt32 >>> (((1 : Int32)).toUInt32 &&& Int32.toUInt32 31)).toInt32 &&& (1431655765 : Int32))) &&& (858993459 : Int32)) + ((((a0 - (((a0).toUInt32 >>> (((1 : Int32)).toUInt32 &&& Int32.toUInt32 31)).toInt32 &&& (1431655765 : Int32)))).toUInt32 >>> (((2 : Int32)).toUInt32 &&& Int32.toUInt32 31)).toInt32 &&& (858993459 : Int32))) + (((((a0 - (((a0).toUInt32 >>> (((1 : Int32)).toUInt32 &&& Int32.toUInt32 31)).toInt32 &&& (1431655765 : Int32))) &&& (858993459 : Int32)) + ((((a0 - (((a0).toUInt32 >>> (((1 : Int32)).toUInt32 &&& Int32.toUInt32 31)).toInt32 &&& (1431655765 : Int32)))).toUInt32 >>> (((2 : Int32)).toUInt32 &&& Int32.toUInt32 31)).toInt32 &&& (858993459 : Int32)))).toUInt32 >>> (((4 : Int32)).toUInt32 &&& Int32.toUInt32 31)).toInt32) &&& (252645135 : Int32))).toUInt32 >>> (((8 : Int32)).toUInt32 &&& Int32.toUInt32 31)).toInt32)).toUInt32 >>> (((16 : Int32)).toUInt32 &&& Int32.toUInt32 31)).toInt32))]) hx hb dJ6_bitCount_0f7a4_47 rfl hl (by decide) rfl (fun ls hl => ?_)
  refine lv_iload_n hx hb dJ6_bitCount_0f7a4_48 rfl (lv_at hl 0 rfl) ?_
  refine lv_bipush (v := 63) hx hb dJ6_bitCount_0f7a4_49 (by decide) ?_
  refine lv_iand hx hb dJ6_bitCount_0f7a4_51 ?_
  exact gw_ri X hP hS h dJ6_bitCount_0f7a4_52
def f_X3_size (σ : gw_S) : Option (Int32 × gw_S) := (some ((σ 1 0), σ))
set_option maxHeartbeats 4000000 in
set_option maxRecDepth 100000 in
theorem gc_X3_size (l : Launch) (G : gw_G) (σ : gw_S) (o : (Int32 × gw_S)) (h : f_X3_size σ = some o) : gw_M (fun sz => gw_QI G sz o) l yX3_size cX3_size 1 (some .int) { frames := 0, cells := 0, slots := 0, locals := 0 } G [.ref (G.2.1 1)] σ := by
  refine gw_en (own := RX3) (lv := [(0, .ref (G.2.1 1))]) (by decide +kernel) rfl (Nat.le_of_ble_eq_true rfl) rfl ?_
  intro p e s m below meth c ls X hl hP
  obtain ⟨hx, hb, hml, hown, hts, -, -, hT, hZ, -⟩ := id X
  have hS : va_S (gw_A G s.heap.size) s.heap s.heap [] := va_S.rf
  unfold f_X3_size at h
  refine lv_aload_n hx hb dX3_size_0 rfl (lv_at hl 0 rfl) ?_
  refine va_get (D := G.1) (ci := 6) (v := .int (σ 1 0)) (C := RX3) (T := TX3) (N := 5) hx hb hts gx_X3 hown hT.2.1 hP 1 rfl rfl 0 (by decide) (hts _ gv_48) (fun _ h9 => h9) rfl dX3_size_1 ?_
  exact gw_ri X hP hS h dX3_size_4
def f_X3_changes (σ : gw_S) : Option (Int32 × gw_S) := (some ((σ 1 1), σ))
set_option maxHeartbeats 4000000 in
set_option maxRecDepth 100000 in
theorem gc_X3_changes (l : Launch) (G : gw_G) (σ : gw_S) (o : (Int32 × gw_S)) (h : f_X3_changes σ = some o) : gw_M (fun sz => gw_QI G sz o) l yX3_changes cX3_changes 1 (some .int) { frames := 0, cells := 0, slots := 0, locals := 0 } G [.ref (G.2.1 1)] σ := by
  refine gw_en (own := RX3) (lv := [(0, .ref (G.2.1 1))]) (by decide +kernel) rfl (Nat.le_of_ble_eq_true rfl) rfl ?_
  intro p e s m below meth c ls X hl hP
  obtain ⟨hx, hb, hml, hown, hts, -, -, hT, hZ, -⟩ := id X
  have hS : va_S (gw_A G s.heap.size) s.heap s.heap [] := va_S.rf
  unfold f_X3_changes at h
  refine lv_aload_n hx hb dX3_changes_0 rfl (lv_at hl 0 rfl) ?_
  refine va_get (D := G.1) (ci := 6) (v := .int (σ 1 1)) (C := RX3) (T := TX3) (N := 5) hx hb hts gx_X3 hown hT.2.1 hP 1 rfl rfl 1 (by decide) (hts _ gv_49) (fun _ h9 => h9) rfl dX3_changes_1 ?_
  exact gw_ri X hP hS h dX3_changes_4
def f_X3_knows (a0 : Int32) (σ : gw_S) : Option (Int32 × gw_S) := (if a0 < 0 then (some ((0 : Int32), σ)) else (if (σ 1 0) ≤ a0 then (some ((0 : Int32), σ)) else (some ((1 : Int32), σ))))
set_option maxHeartbeats 4000000 in
set_option maxRecDepth 100000 in
theorem gc_X3_knows (l : Launch) (G : gw_G) (a0 : Int32) (σ : gw_S) (o : (Int32 × gw_S)) (h : f_X3_knows a0 σ = some o) : gw_M (fun sz => gw_QZ G sz o) l yX3_knows cX3_knows 2 (some .boolean) { frames := 0, cells := 0, slots := 0, locals := 0 } G [.ref (G.2.1 1), .int a0] σ := by
  refine gw_en (own := RX3) (lv := [(0, .ref (G.2.1 1)), (1, .int a0)]) (by decide +kernel) rfl (Nat.le_of_ble_eq_true rfl) rfl ?_
  intro p e s m below meth c ls X hl hP
  obtain ⟨hx, hb, hml, hown, hts, -, -, hT, hZ, -⟩ := id X
  have hS : va_S (gw_A G s.heap.size) s.heap s.heap [] := va_S.rf
  unfold f_X3_knows at h
  refine lv_iload_n hx hb dX3_knows_0 rfl (lv_at hl 1 rfl) ?_
  refine lv_if_lt (tgt := 16) hx hb dX3_knows_1 (by decide) (fun c => ?_) (fun c => ?_)
  · have h := (if_pos c).symm.trans h
    refine lv_iconst (v := 0) hx hb dX3_knows_16 (by decide) ?_
    exact gw_rz X hP hS rfl h dX3_knows_17
  · have h := (if_neg c).symm.trans h
    refine lv_iload_n hx hb dX3_knows_4 rfl (lv_at hl 1 rfl) ?_
    refine lv_aload_n hx hb dX3_knows_5 rfl (lv_at hl 0 rfl) ?_
    refine va_get (D := G.1) (ci := 6) (v := .int (σ 1 0)) (C := RX3) (T := TX3) (N := 5) hx hb hts gx_X3 hown hT.2.1 hP 1 rfl rfl 0 (by decide) (hts _ gv_48) (fun _ h9 => h9) rfl dX3_knows_6 ?_
    refine lv_icmp_ge (tgt := 16) hx hb dX3_knows_9 (by decide) (fun c => ?_) (fun c => ?_)
    · have h := (if_pos c).symm.trans h
      refine lv_iconst (v := 0) hx hb dX3_knows_16 (by decide) ?_
      exact gw_rz X hP hS rfl h dX3_knows_17
    · have h := (if_neg c).symm.trans h
      refine lv_iconst (v := 1) hx hb dX3_knows_12 (by decide) ?_
      refine lv_goto (tgt := 17) hx hb dX3_knows_13 (by decide) ?_
      exact gw_rz X hP hS rfl h dX3_knows_17
def f_X3_all (σ : gw_S) : Option (Int32 × gw_S) := (some ((((1 : Int32) <<< ((σ 1 0) &&& 31)) - (1 : Int32)), σ))
set_option maxHeartbeats 4000000 in
set_option maxRecDepth 100000 in
theorem gc_X3_all (l : Launch) (G : gw_G) (σ : gw_S) (o : (Int32 × gw_S)) (h : f_X3_all σ = some o) : gw_M (fun sz => gw_QI G sz o) l yX3_all cX3_all 1 (some .int) { frames := 0, cells := 0, slots := 0, locals := 0 } G [.ref (G.2.1 1)] σ := by
  refine gw_en (own := RX3) (lv := [(0, .ref (G.2.1 1))]) (by decide +kernel) rfl (Nat.le_of_ble_eq_true rfl) rfl ?_
  intro p e s m below meth c ls X hl hP
  obtain ⟨hx, hb, hml, hown, hts, -, -, hT, hZ, -⟩ := id X
  have hS : va_S (gw_A G s.heap.size) s.heap s.heap [] := va_S.rf
  unfold f_X3_all at h
  refine lv_iconst (v := 1) hx hb dX3_all_0 (by decide) ?_
  refine lv_aload_n hx hb dX3_all_1 rfl (lv_at hl 0 rfl) ?_
  refine va_get (D := G.1) (ci := 6) (v := .int (σ 1 0)) (C := RX3) (T := TX3) (N := 5) hx hb hts gx_X3 hown hT.2.1 hP 1 rfl rfl 0 (by decide) (hts _ gv_48) (fun _ h9 => h9) rfl dX3_all_2 ?_
  refine lv_ishl hx hb dX3_all_5 ?_
  refine lv_iconst (v := 1) hx hb dX3_all_6 (by decide) ?_
  refine lv_isub hx hb dX3_all_7 ?_
  exact gw_ri X hP hS h dX3_all_8
def f_X3_down (a0 : Int32) (σ : gw_S) : Option (Int32 × gw_S) := ((f_X8_at 2 a0 σ).bind fun p1 => (some (p1.1, p1.2)))
set_option maxHeartbeats 4000000 in
set_option maxRecDepth 100000 in
theorem gc_X3_down (l : Launch) (G : gw_G) (a0 : Int32) (σ : gw_S) (o : (Int32 × gw_S)) (h : f_X3_down a0 σ = some o) : gw_M (fun sz => gw_QI G sz o) l yX3_down cX3_down 2 (some .int) { frames := 1, cells := 0, slots := 0, locals := 21 } G [.ref (G.2.1 1), .int a0] σ := by
  refine gw_en (own := RX3) (lv := [(0, .ref (G.2.1 1)), (1, .int a0)]) (by decide +kernel) rfl (Nat.le_of_ble_eq_true rfl) rfl ?_
  intro p e s m below meth c ls X hl hP
  obtain ⟨hx, hb, hml, hown, hts, -, -, hT, hZ, -⟩ := id X
  have hS : va_S (gw_A G s.heap.size) s.heap s.heap [] := va_S.rf
  unfold f_X3_down at h
  refine lv_aload_n hx hb dX3_down_0 rfl (lv_at hl 0 rfl) ?_
  refine va_get (D := G.1) (ci := 6) (v := .ref (G.2.1 2)) (C := RX3) (T := TX3) (N := 5) hx hb hts gx_X3 hown hT.2.1 hP 1 rfl rfl 3 (by decide) (hts _ gv_51) (fun _ h9 => h9) rfl dX3_down_1 ?_
  refine lv_iload_n hx hb dX3_down_4 rfl (lv_at hl 1 rfl) ?_
  obtain ⟨p1, gp1, h⟩ := Option.bind_eq_some_iff.mp h
  refine gw_ci (gw_rN (host := "Genericwood") X hP hS (gc_X8_at l G 2 ⟨by decide, by decide⟩ a0 σ _ gp1) gk_X8_at gv_274 gv_275 rfl rfl (Nat.le_of_ble_eq_true rfl) hl.1 ⟨rfl, rfl⟩ ⟨Nat.le_of_ble_eq_true rfl, Nat.le_of_ble_eq_true rfl⟩ ⟨Nat.le_of_ble_eq_true rfl, Nat.le_of_ble_eq_true rfl⟩ dX3_down_5) hS (fun H locs hP hS => ?_)
  exact gw_ri X hP hS h dX3_down_8
def f_X3_stands (a0 : Int32) (a1 : Int32) (σ : gw_S) : Option (Int32 × gw_S) := ((f_X3_down a1 σ).bind fun p1 => ((f_X8_contains p1.1 a0 p1.2).bind fun p2 => (some (p2.1, p2.2))))
set_option maxHeartbeats 4000000 in
set_option maxRecDepth 100000 in
theorem gc_X3_stands (l : Launch) (G : gw_G) (a0 : Int32) (a1 : Int32) (σ : gw_S) (o : (Int32 × gw_S)) (h : f_X3_stands a0 a1 σ = some o) : gw_M (fun sz => gw_QZ G sz o) l yX3_stands cX3_stands 3 (some .boolean) { frames := 2, cells := 0, slots := 0, locals := 42 } G [.ref (G.2.1 1), .int a0, .int a1] σ := by
  refine gw_en (own := RX3) (lv := [(0, .ref (G.2.1 1)), (1, .int a0), (2, .int a1)]) (by decide +kernel) rfl (Nat.le_of_ble_eq_true rfl) rfl ?_
  intro p e s m below meth c ls X hl hP
  obtain ⟨hx, hb, hml, hown, hts, -, -, hT, hZ, -⟩ := id X
  have hS : va_S (gw_A G s.heap.size) s.heap s.heap [] := va_S.rf
  unfold f_X3_stands at h
  refine lv_aload_n hx hb dX3_stands_0 rfl (lv_at hl 0 rfl) ?_
  refine lv_iload_n hx hb dX3_stands_1 rfl (lv_at hl 2 rfl) ?_
  obtain ⟨p1, gp1, h⟩ := Option.bind_eq_some_iff.mp h
  refine gw_ci (gw_rV (C := RX3) X hP hS (gc_X3_down l G a1 σ _ gp1) gk_X3_down gv_270 ⟨gv_271, gv_272⟩ (va_recv hT.2.1 hP (ci := 6) (q0 := 1) rfl rfl) rfl rfl (Nat.le_of_ble_eq_true rfl) hl.1 ⟨rfl, rfl⟩ ⟨Nat.le_of_ble_eq_true rfl, Nat.le_of_ble_eq_true rfl⟩ ⟨Nat.le_of_ble_eq_true rfl, Nat.le_of_ble_eq_true rfl⟩ dX3_stands_2) hS (fun H locs hP hS => ?_)
  refine lv_iload_n hx hb dX3_stands_5 rfl (lv_at hl 1 rfl) ?_
  obtain ⟨p2, gp2, h⟩ := Option.bind_eq_some_iff.mp h
  refine gw_cz (gw_rN (host := "Genericwood") X hP hS (gc_X8_contains l G p1.1 a0 p1.2 _ gp2) gk_X8_contains gv_277 gv_278 rfl rfl (Nat.le_of_ble_eq_true rfl) hl.1 ⟨rfl, rfl⟩ ⟨Nat.le_of_ble_eq_true rfl, Nat.le_of_ble_eq_true rfl⟩ ⟨Nat.le_of_ble_eq_true rfl, Nat.le_of_ble_eq_true rfl⟩ dX3_stands_6) hS (fun H locs hb_p2 hP hS => ?_)
  exact gw_rz X hP hS hb_p2 h dX3_stands_9
def f_X3_up_L4 : Nat → Int32 → Int32 → Int32 → gw_S → Option (Int32 × gw_S)
  | 0, _, _, _, _ => none
  | n + 1, v4_1, v4_2, v4_3, σ => (if (σ 1 0) ≤ v4_3 then (some (v4_2, σ)) else ((f_X3_stands v4_1 v4_3 σ).bind fun p1 => (if p1.1 = 0 then (f_X3_up_L4 n v4_1 v4_2 (v4_3 + (1 : Int32)) p1.2) else (f_X3_up_L4 n v4_1 (v4_2 ||| ((1 : Int32) <<< (v4_3 &&& 31))) (v4_3 + (1 : Int32)) p1.2))))
def f_X3_up (a0 : Int32) (σ : gw_S) : Option (Int32 × gw_S) := (f_X3_up_L4 64 a0 (0 : Int32) (0 : Int32) σ)
set_option maxHeartbeats 4000000 in
set_option maxRecDepth 100000 in
theorem gc_X3_up (l : Launch) (G : gw_G) (a0 : Int32) (σ : gw_S) (o : (Int32 × gw_S)) (h : f_X3_up a0 σ = some o) : gw_M (fun sz => gw_QI G sz o) l yX3_up cX3_up 4 (some .int) { frames := 3, cells := 0, slots := 0, locals := 64 } G [.ref (G.2.1 1), .int a0] σ := by
  refine gw_en (own := RX3) (lv := [(0, .ref (G.2.1 1)), (1, .int a0)]) (by decide +kernel) rfl (Nat.le_of_ble_eq_true rfl) rfl ?_
  intro p e s m below meth c ls X hl hP
  obtain ⟨hx, hb, hml, hown, hts, -, -, hT, hZ, -⟩ := id X
  have hS : va_S (gw_A G s.heap.size) s.heap s.heap [] := va_S.rf
  have L4 : ∀ (n : Nat) (v4_1 : Int32) (v4_2 : Int32) (v4_3 : Int32) (σ : gw_S) (H : Heap) (locs : List Loc) (ls : Array Slot), f_X3_up_L4 n v4_1 v4_2 v4_3 σ = some o → gw_P G σ H → va_S (gw_A G s.heap.size) s.heap H locs → lv_has ls 4 [(0, .ref (G.2.1 1)), (1, .int v4_1), (2, .int v4_2), (3, .int v4_3)] → W p l e { frames := 3, cells := 0, slots := 0, locals := 64 } s m [.ref (G.2.1 1), .int a0].toArray below meth c H locs 0 0 (MQ below (gw_QI G s.heap.size o) [.ref (G.2.1 1), .int a0].toArray s 0 0 (gw_A G s.heap.size)) (F0 m 4 ls []) := by
    intro n
    induction n with
    | zero =>
      intro v4_1 v4_2 v4_3 σ H locs ls h
      exact absurd h (by rw [f_X3_up_L4.eq_1]; exact fun h => nomatch h)
    | succ n ih =>
      intro v4_1 v4_2 v4_3 σ H locs ls h hP hS hl
      rw [f_X3_up_L4.eq_2] at h
      refine lv_iload_n hx hb dX3_up_4 rfl (lv_at hl 3 rfl) ?_
      refine lv_aload_n hx hb dX3_up_5 rfl (lv_at hl 0 rfl) ?_
      refine va_get (D := G.1) (ci := 6) (v := .int (σ 1 0)) (C := RX3) (T := TX3) (N := 5) hx hb hts gx_X3 hown hT.2.1 hP 1 rfl rfl 0 (by decide) (hts _ gv_48) (fun _ h9 => h9) rfl dX3_up_6 ?_
      refine lv_icmp_ge (tgt := 33) hx hb dX3_up_9 (by decide) (fun c => ?_) (fun c => ?_)
      · have h := (if_pos c).symm.trans h
        refine lv_iload_n hx hb dX3_up_33 rfl (lv_at hl 2 rfl) ?_
        exact gw_ri X hP hS h dX3_up_34
      · have h := (if_neg c).symm.trans h
        refine lv_aload_n hx hb dX3_up_12 rfl (lv_at hl 0 rfl) ?_
        refine lv_iload_n hx hb dX3_up_13 rfl (lv_at hl 1 rfl) ?_
        refine lv_iload_n hx hb dX3_up_14 rfl (lv_at hl 3 rfl) ?_
        obtain ⟨p1, gp1, h⟩ := Option.bind_eq_some_iff.mp h
        refine gw_cz (gw_rV (C := RX3) X hP hS (gc_X3_stands l G v4_1 v4_3 σ _ gp1) gk_X3_stands gv_689 ⟨gv_267, gv_268⟩ (va_recv hT.2.1 hP (ci := 6) (q0 := 1) rfl rfl) rfl rfl (Nat.le_of_ble_eq_true rfl) hl.1 ⟨rfl, rfl⟩ ⟨Nat.le_of_ble_eq_true rfl, Nat.le_of_ble_eq_true rfl⟩ ⟨Nat.le_of_ble_eq_true rfl, Nat.le_of_ble_eq_true rfl⟩ dX3_up_15) hS (fun H locs hb_p1 hP hS => ?_)
        refine lv_if_eq (tgt := 27) hx hb dX3_up_18 (by decide) (fun c => ?_) (fun c => ?_)
        · have h := (if_pos c).symm.trans h
          refine lv_iinc (v := (v4_3 + (1 : Int32))) (lv' := [(3, .int (v4_3 + (1 : Int32))), (0, .ref (G.2.1 1)), (1, .int v4_1), (2, .int v4_2)]) hx hb dX3_up_27 hl (k := 3) rfl rfl (by decide) rfl (fun ls hl => ?_)
          refine lv_goto (tgt := 4) hx hb dX3_up_30 (by decide) ?_
          exact ih v4_1 v4_2 (v4_3 + (1 : Int32)) p1.2 _ _ _ h hP hS (lv_sub hl [1, 2, 3, 0] rfl)
        · have h := (if_neg c).symm.trans h
          refine lv_iload_n hx hb dX3_up_21 rfl (lv_at hl 2 rfl) ?_
          refine lv_iconst (v := 1) hx hb dX3_up_22 (by decide) ?_
          refine lv_iload_n hx hb dX3_up_23 rfl (lv_at hl 3 rfl) ?_
          refine lv_ishl hx hb dX3_up_24 ?_
          refine lv_ior hx hb dX3_up_25 ?_
          refine lv_istore_n (lv' := [(2, .int (v4_2 ||| ((1 : Int32) <<< (v4_3 &&& 31)))), (0, .ref (G.2.1 1)), (1, .int v4_1), (3, .int v4_3)]) hx hb dX3_up_26 rfl hl (by decide) rfl (fun ls hl => ?_)
          refine lv_iinc (v := (v4_3 + (1 : Int32))) (lv' := [(3, .int (v4_3 + (1 : Int32))), (2, .int (v4_2 ||| ((1 : Int32) <<< (v4_3 &&& 31)))), (0, .ref (G.2.1 1)), (1, .int v4_1)]) hx hb dX3_up_27 hl (k := 3) rfl rfl (by decide) rfl (fun ls hl => ?_)
          refine lv_goto (tgt := 4) hx hb dX3_up_30 (by decide) ?_
          exact ih v4_1 (v4_2 ||| ((1 : Int32) <<< (v4_3 &&& 31))) (v4_3 + (1 : Int32)) p1.2 _ _ _ h hP hS (lv_sub hl [2, 3, 1, 0] rfl)
  unfold f_X3_up at h
  refine lv_iconst (v := 0) hx hb dX3_up_0 (by decide) ?_
  refine lv_istore_n (lv' := [(2, .int (0 : Int32)), (0, .ref (G.2.1 1)), (1, .int a0)]) hx hb dX3_up_1 rfl hl (by decide) rfl (fun ls hl => ?_)
  refine lv_iconst (v := 0) hx hb dX3_up_2 (by decide) ?_
  refine lv_istore_n (lv' := [(3, .int (0 : Int32)), (2, .int (0 : Int32)), (0, .ref (G.2.1 1)), (1, .int a0)]) hx hb dX3_up_3 rfl hl (by decide) rfl (fun ls hl => ?_)
  exact L4 64 a0 (0 : Int32) (0 : Int32) σ _ _ _ h hP hS (lv_sub hl [2, 3, 1, 0] rfl)
def f_X3_agree (a0 : Int32) (a1 : Int32) (σ : gw_S) : Option (Int32 × gw_S) := ((f_X3_down a0 σ).bind fun p1 => ((f_X3_down a1 p1.2).bind fun p2 => (if (p1.1 &&& p2.1) = 0 then (some ((0 : Int32), p2.2)) else (some ((1 : Int32), p2.2)))))
set_option maxHeartbeats 4000000 in
set_option maxRecDepth 100000 in
theorem gc_X3_agree (l : Launch) (G : gw_G) (a0 : Int32) (a1 : Int32) (σ : gw_S) (o : (Int32 × gw_S)) (h : f_X3_agree a0 a1 σ = some o) : gw_M (fun sz => gw_QZ G sz o) l yX3_agree cX3_agree 3 (some .boolean) { frames := 2, cells := 0, slots := 0, locals := 42 } G [.ref (G.2.1 1), .int a0, .int a1] σ := by
  refine gw_en (own := RX3) (lv := [(0, .ref (G.2.1 1)), (1, .int a0), (2, .int a1)]) (by decide +kernel) rfl (Nat.le_of_ble_eq_true rfl) rfl ?_
  intro p e s m below meth c ls X hl hP
  obtain ⟨hx, hb, hml, hown, hts, -, -, hT, hZ, -⟩ := id X
  have hS : va_S (gw_A G s.heap.size) s.heap s.heap [] := va_S.rf
  unfold f_X3_agree at h
  refine lv_aload_n hx hb dX3_agree_0 rfl (lv_at hl 0 rfl) ?_
  refine lv_iload_n hx hb dX3_agree_1 rfl (lv_at hl 1 rfl) ?_
  obtain ⟨p1, gp1, h⟩ := Option.bind_eq_some_iff.mp h
  refine gw_ci (gw_rV (C := RX3) X hP hS (gc_X3_down l G a0 σ _ gp1) gk_X3_down gv_270 ⟨gv_271, gv_272⟩ (va_recv hT.2.1 hP (ci := 6) (q0 := 1) rfl rfl) rfl rfl (Nat.le_of_ble_eq_true rfl) hl.1 ⟨rfl, rfl⟩ ⟨Nat.le_of_ble_eq_true rfl, Nat.le_of_ble_eq_true rfl⟩ ⟨Nat.le_of_ble_eq_true rfl, Nat.le_of_ble_eq_true rfl⟩ dX3_agree_2) hS (fun H locs hP hS => ?_)
  refine lv_aload_n hx hb dX3_agree_5 rfl (lv_at hl 0 rfl) ?_
  refine lv_iload_n hx hb dX3_agree_6 rfl (lv_at hl 2 rfl) ?_
  obtain ⟨p2, gp2, h⟩ := Option.bind_eq_some_iff.mp h
  refine gw_ci (gw_rV (C := RX3) X hP hS (gc_X3_down l G a1 p1.2 _ gp2) gk_X3_down gv_270 ⟨gv_271, gv_272⟩ (va_recv hT.2.1 hP (ci := 6) (q0 := 1) rfl rfl) rfl rfl (Nat.le_of_ble_eq_true rfl) hl.1 ⟨rfl, rfl⟩ ⟨Nat.le_of_ble_eq_true rfl, Nat.le_of_ble_eq_true rfl⟩ ⟨Nat.le_of_ble_eq_true rfl, Nat.le_of_ble_eq_true rfl⟩ dX3_agree_7) hS (fun H locs hP hS => ?_)
  refine lv_iand hx hb dX3_agree_10 ?_
  refine lv_if_eq (tgt := 18) hx hb dX3_agree_11 (by decide) (fun c => ?_) (fun c => ?_)
  · have h := (if_pos c).symm.trans h
    refine lv_iconst (v := 0) hx hb dX3_agree_18 (by decide) ?_
    exact gw_rz X hP hS rfl h dX3_agree_19
  · have h := (if_neg c).symm.trans h
    refine lv_iconst (v := 1) hx hb dX3_agree_14 (by decide) ?_
    refine lv_goto (tgt := 19) hx hb dX3_agree_15 (by decide) ?_
    exact gw_rz X hP hS rfl h dX3_agree_19
def f_X3_place_L9 : Nat → Int32 → Int32 → Int32 → gw_S → Option gw_S
  | 0, _, _, _, _ => none
  | n + 1, v9_2, v9_3, v9_4, σ => (if (σ 1 0) ≤ v9_4 then (some (gw_up (gw_up σ 1 2 ((σ 1 2) &&& (((1 : Int32) <<< (v9_2 &&& 31)) ^^^ (-1 : Int32)))) 1 1 (((gw_up σ 1 2 ((σ 1 2) &&& (((1 : Int32) <<< (v9_2 &&& 31)) ^^^ (-1 : Int32)))) 1 1) + (1 : Int32)))) else ((f_X3_stands v9_2 v9_4 σ).bind fun p2 => (if p2.1 = 0 then (f_X3_place_L9 n v9_2 v9_3 (v9_4 + (1 : Int32)) p2.2) else ((f_X3_down v9_4 p2.2).bind fun p3 => ((f_X8_put 2 v9_4 (p3.1 ||| v9_3) p3.2).bind fun p4 => (f_X3_place_L9 n v9_2 v9_3 (v9_4 + (1 : Int32)) p4))))))
def f_X3_place (a0 : Int32) (a1 : Int32) (σ : gw_S) : Option gw_S := ((f_X3_down a0 σ).bind fun p1 => (f_X3_place_L9 64 a1 p1.1 (0 : Int32) p1.2))
set_option maxHeartbeats 4000000 in
set_option maxRecDepth 100000 in
theorem gc_X3_place (l : Launch) (G : gw_G) (a0 : Int32) (a1 : Int32) (σ : gw_S) (o : gw_S) (h : f_X3_place a0 a1 σ = some o) : gw_M (fun sz => gw_QV G sz o) l yX3_place cX3_place 5 none { frames := 3, cells := 0, slots := 0, locals := 64 } G [.ref (G.2.1 1), .int a0, .int a1] σ := by
  refine gw_en (own := RX3) (lv := [(0, .ref (G.2.1 1)), (1, .int a0), (2, .int a1)]) (by decide +kernel) rfl (Nat.le_of_ble_eq_true rfl) rfl ?_
  intro p e s m below meth c ls X hl hP
  obtain ⟨hx, hb, hml, hown, hts, -, -, hT, hZ, -⟩ := id X
  have hS : va_S (gw_A G s.heap.size) s.heap s.heap [] := va_S.rf
  have L9 : ∀ (n : Nat) (v9_2 : Int32) (v9_3 : Int32) (v9_4 : Int32) (σ : gw_S) (H : Heap) (locs : List Loc) (ls : Array Slot), f_X3_place_L9 n v9_2 v9_3 v9_4 σ = some o → gw_P G σ H → va_S (gw_A G s.heap.size) s.heap H locs → lv_has ls 5 [(0, .ref (G.2.1 1)), (2, .int v9_2), (3, .int v9_3), (4, .int v9_4)] → W p l e { frames := 3, cells := 0, slots := 0, locals := 64 } s m [.ref (G.2.1 1), .int a0, .int a1].toArray below meth c H locs 0 0 (MQ below (gw_QV G s.heap.size o) [.ref (G.2.1 1), .int a0, .int a1].toArray s 0 0 (gw_A G s.heap.size)) (F0 m 9 ls []) := by
    intro n
    induction n with
    | zero =>
      intro v9_2 v9_3 v9_4 σ H locs ls h
      exact absurd h (by rw [f_X3_place_L9.eq_1]; exact fun h => nomatch h)
    | succ n ih =>
      intro v9_2 v9_3 v9_4 σ H locs ls h hP hS hl
      rw [f_X3_place_L9.eq_2] at h
      refine lv_iload hx hb dX3_place_9 (lv_at hl 3 rfl) ?_
      refine lv_aload_n hx hb dX3_place_11 rfl (lv_at hl 0 rfl) ?_
      refine va_get (D := G.1) (ci := 6) (v := .int (σ 1 0)) (C := RX3) (T := TX3) (N := 5) hx hb hts gx_X3 hown hT.2.1 hP 1 rfl rfl 0 (by decide) (hts _ gv_48) (fun _ h9 => h9) rfl dX3_place_12 ?_
      refine lv_icmp_ge (tgt := 51) hx hb dX3_place_15 (by decide) (fun c => ?_) (fun c => ?_)
      · have h := (if_pos c).symm.trans h
        refine lv_aload_n hx hb dX3_place_51 rfl (lv_at hl 0 rfl) ?_
        refine lv_dup hx hb dX3_place_52 rfl ?_
        refine va_get (D := G.1) (ci := 6) (v := .int (σ 1 2)) (C := RX3) (T := TX3) (N := 5) hx hb hts gx_X3 hown hT.2.1 hP 1 rfl rfl 2 (by decide) (hts _ gv_50) (fun _ h9 => h9) rfl dX3_place_53 ?_
        refine lv_iconst (v := 1) hx hb dX3_place_56 (by decide) ?_
        refine lv_iload_n hx hb dX3_place_57 rfl (lv_at hl 1 rfl) ?_
        refine lv_ishl hx hb dX3_place_58 ?_
        refine lv_iconst (v := -1) hx hb dX3_place_59 (by decide) ?_
        refine lv_ixor hx hb dX3_place_60 ?_
        refine lv_iand hx hb dX3_place_61 ?_
        refine va_put (D := G.1) (ci := 6) (v := .int ((σ 1 2) &&& (((1 : Int32) <<< (v9_2 &&& 31)) ^^^ (-1 : Int32)))) (ty := .int) (C := RX3) (T := TX3) (N := 5) hx hb hts gx_X3 tyX3 tyX3_ok nmX3 hown hT.2.1 hP (gw_D hT.1 s.heap.size _) hS 1 rfl rfl 2 (by decide) (hts _ gv_50) (fun _ h9 => h9) rfl gx_pI rfl rfl (Nat.le_of_ble_eq_true rfl) dX3_place_62 (fun H locs hP _ hS => ?_)
        have hP : gw_P G (gw_up σ 1 2 ((σ 1 2) &&& (((1 : Int32) <<< (v9_2 &&& 31)) ^^^ (-1 : Int32)))) H := hP
        refine lv_aload_n hx hb dX3_place_65 rfl (lv_at hl 0 rfl) ?_
        refine lv_dup hx hb dX3_place_66 rfl ?_
        refine va_get (D := G.1) (ci := 6) (v := .int ((gw_up σ 1 2 ((σ 1 2) &&& (((1 : Int32) <<< (v9_2 &&& 31)) ^^^ (-1 : Int32)))) 1 1)) (C := RX3) (T := TX3) (N := 5) hx hb hts gx_X3 hown hT.2.1 hP 1 rfl rfl 1 (by decide) (hts _ gv_49) (fun _ h9 => h9) rfl dX3_place_67 ?_
        refine lv_iconst (v := 1) hx hb dX3_place_70 (by decide) ?_
        refine lv_iadd hx hb dX3_place_71 ?_
        refine va_put (D := G.1) (ci := 6) (v := .int (((gw_up σ 1 2 ((σ 1 2) &&& (((1 : Int32) <<< (v9_2 &&& 31)) ^^^ (-1 : Int32)))) 1 1) + (1 : Int32))) (ty := .int) (C := RX3) (T := TX3) (N := 5) hx hb hts gx_X3 tyX3 tyX3_ok nmX3 hown hT.2.1 hP (gw_D hT.1 s.heap.size _) hS 1 rfl rfl 1 (by decide) (hts _ gv_49) (fun _ h9 => h9) rfl gx_pI rfl rfl (Nat.le_of_ble_eq_true rfl) dX3_place_72 (fun H locs hP _ hS => ?_)
        have hP : gw_P G (gw_up (gw_up σ 1 2 ((σ 1 2) &&& (((1 : Int32) <<< (v9_2 &&& 31)) ^^^ (-1 : Int32)))) 1 1 (((gw_up σ 1 2 ((σ 1 2) &&& (((1 : Int32) <<< (v9_2 &&& 31)) ^^^ (-1 : Int32)))) 1 1) + (1 : Int32))) H := hP
        exact gw_rv X hP hS h dX3_place_75
      · have h := (if_neg c).symm.trans h
        refine lv_aload_n hx hb dX3_place_18 rfl (lv_at hl 0 rfl) ?_
        refine lv_iload_n hx hb dX3_place_19 rfl (lv_at hl 1 rfl) ?_
        refine lv_iload hx hb dX3_place_20 (lv_at hl 3 rfl) ?_
        obtain ⟨p2, gp2, h⟩ := Option.bind_eq_some_iff.mp h
        refine gw_cz (gw_rV (C := RX3) X hP hS (gc_X3_stands l G v9_2 v9_4 σ _ gp2) gk_X3_stands gv_689 ⟨gv_267, gv_268⟩ (va_recv hT.2.1 hP (ci := 6) (q0 := 1) rfl rfl) rfl rfl (Nat.le_of_ble_eq_true rfl) hl.1 ⟨rfl, rfl⟩ ⟨Nat.le_of_ble_eq_true rfl, Nat.le_of_ble_eq_true rfl⟩ ⟨Nat.le_of_ble_eq_true rfl, Nat.le_of_ble_eq_true rfl⟩ dX3_place_22) hS (fun H locs hb_p2 hP hS => ?_)
        refine lv_if_eq (tgt := 45) hx hb dX3_place_25 (by decide) (fun c => ?_) (fun c => ?_)
        · have h := (if_pos c).symm.trans h
          refine lv_iinc (v := (v9_4 + (1 : Int32))) (lv' := [(4, .int (v9_4 + (1 : Int32))), (0, .ref (G.2.1 1)), (2, .int v9_2), (3, .int v9_3)]) hx hb dX3_place_45 hl (k := 3) rfl rfl (by decide) rfl (fun ls hl => ?_)
          refine lv_goto (tgt := 9) hx hb dX3_place_48 (by decide) ?_
          exact ih v9_2 v9_3 (v9_4 + (1 : Int32)) p2.2 _ _ _ h hP hS (lv_sub hl [1, 2, 3, 0] rfl)
        · have h := (if_neg c).symm.trans h
          refine lv_aload_n hx hb dX3_place_28 rfl (lv_at hl 0 rfl) ?_
          refine va_get (D := G.1) (ci := 6) (v := .ref (G.2.1 2)) (C := RX3) (T := TX3) (N := 5) hx hb hts gx_X3 hown hT.2.1 hP 1 rfl rfl 3 (by decide) (hts _ gv_51) (fun _ h9 => h9) rfl dX3_place_29 ?_
          refine lv_iload hx hb dX3_place_32 (lv_at hl 3 rfl) ?_
          refine lv_aload_n hx hb dX3_place_34 rfl (lv_at hl 0 rfl) ?_
          refine lv_iload hx hb dX3_place_35 (lv_at hl 3 rfl) ?_
          obtain ⟨p3, gp3, h⟩ := Option.bind_eq_some_iff.mp h
          refine gw_ci (gw_rV (C := RX3) X hP hS (gc_X3_down l G v9_4 p2.2 _ gp3) gk_X3_down gv_270 ⟨gv_271, gv_272⟩ (va_recv hT.2.1 hP (ci := 6) (q0 := 1) rfl rfl) rfl rfl (Nat.le_of_ble_eq_true rfl) hl.1 ⟨rfl, rfl⟩ ⟨Nat.le_of_ble_eq_true rfl, Nat.le_of_ble_eq_true rfl⟩ ⟨Nat.le_of_ble_eq_true rfl, Nat.le_of_ble_eq_true rfl⟩ dX3_place_37) hS (fun H locs hP hS => ?_)
          refine lv_iload_n hx hb dX3_place_40 rfl (lv_at hl 2 rfl) ?_
          refine lv_ior hx hb dX3_place_41 ?_
          obtain ⟨p4, gp4, h⟩ := Option.bind_eq_some_iff.mp h
          refine gw_cv (gw_rN (host := "Genericwood") X hP hS (gc_X8_put l G 2 ⟨by decide, by decide⟩ v9_4 (p3.1 ||| v9_3) p3.2 _ gp4) gk_X8_put gv_631 gv_403 rfl rfl (Nat.le_of_ble_eq_true rfl) hl.1 ⟨rfl, rfl⟩ ⟨Nat.le_of_ble_eq_true rfl, Nat.le_of_ble_eq_true rfl⟩ ⟨Nat.le_of_ble_eq_true rfl, Nat.le_of_ble_eq_true rfl⟩ dX3_place_42) hS (fun H locs hP hS => ?_)
          refine lv_iinc (v := (v9_4 + (1 : Int32))) (lv' := [(4, .int (v9_4 + (1 : Int32))), (0, .ref (G.2.1 1)), (2, .int v9_2), (3, .int v9_3)]) hx hb dX3_place_45 hl (k := 3) rfl rfl (by decide) rfl (fun ls hl => ?_)
          refine lv_goto (tgt := 9) hx hb dX3_place_48 (by decide) ?_
          exact ih v9_2 v9_3 (v9_4 + (1 : Int32)) p4 _ _ _ h hP hS (lv_sub hl [1, 2, 3, 0] rfl)
  unfold f_X3_place at h
  refine lv_aload_n hx hb dX3_place_0 rfl (lv_at hl 0 rfl) ?_
  refine lv_iload_n hx hb dX3_place_1 rfl (lv_at hl 1 rfl) ?_
  obtain ⟨p1, gp1, h⟩ := Option.bind_eq_some_iff.mp h
  refine gw_ci (gw_rV (C := RX3) X hP hS (gc_X3_down l G a0 σ _ gp1) gk_X3_down gv_270 ⟨gv_271, gv_272⟩ (va_recv hT.2.1 hP (ci := 6) (q0 := 1) rfl rfl) rfl rfl (Nat.le_of_ble_eq_true rfl) hl.1 ⟨rfl, rfl⟩ ⟨Nat.le_of_ble_eq_true rfl, Nat.le_of_ble_eq_true rfl⟩ ⟨Nat.le_of_ble_eq_true rfl, Nat.le_of_ble_eq_true rfl⟩ dX3_place_2) hS (fun H locs hP hS => ?_)
  refine lv_istore_n (lv' := [(3, .int p1.1), (0, .ref (G.2.1 1)), (1, .int a0), (2, .int a1)]) hx hb dX3_place_5 rfl hl (by decide) rfl (fun ls hl => ?_)
  refine lv_iconst (v := 0) hx hb dX3_place_6 (by decide) ?_
  refine lv_istore (lv' := [(4, .int (0 : Int32)), (3, .int p1.1), (0, .ref (G.2.1 1)), (1, .int a0), (2, .int a1)]) hx hb dX3_place_7 hl (by decide) rfl (fun ls hl => ?_)
  exact L9 64 a1 p1.1 (0 : Int32) p1.2 _ _ _ h hP hS (lv_sub hl [2, 4, 1, 0] rfl)
def f_X3_pairsBelow_L4 : Nat → Int32 → Int32 → gw_S → Option (Int32 × gw_S)
  | 0, _, _, _ => none
  | n + 1, v4_1, v4_2, σ => (if (σ 1 0) ≤ v4_2 then (some (v4_1, σ)) else ((f_X3_down v4_2 σ).bind fun p1 => ((f_J6_bitCount_0f7a4 p1.1 p1.2).bind fun p2 => (f_X3_pairsBelow_L4 n (v4_1 + (p2.1 - (1 : Int32))) (v4_2 + (1 : Int32)) p2.2))))
def f_X3_pairsBelow (σ : gw_S) : Option (Int32 × gw_S) := (f_X3_pairsBelow_L4 64 (0 : Int32) (0 : Int32) σ)
set_option maxHeartbeats 4000000 in
set_option maxRecDepth 100000 in
theorem gc_X3_pairsBelow (l : Launch) (G : gw_G) (σ : gw_S) (o : (Int32 × gw_S)) (h : f_X3_pairsBelow σ = some o) : gw_M (fun sz => gw_QI G sz o) l yX3_pairsBelow cX3_pairsBelow 3 (some .int) { frames := 2, cells := 0, slots := 0, locals := 42 } G [.ref (G.2.1 1)] σ := by
  refine gw_en (own := RX3) (lv := [(0, .ref (G.2.1 1))]) (by decide +kernel) rfl (Nat.le_of_ble_eq_true rfl) rfl ?_
  intro p e s m below meth c ls X hl hP
  obtain ⟨hx, hb, hml, hown, hts, -, -, hT, hZ, -⟩ := id X
  have hS : va_S (gw_A G s.heap.size) s.heap s.heap [] := va_S.rf
  have L4 : ∀ (n : Nat) (v4_1 : Int32) (v4_2 : Int32) (σ : gw_S) (H : Heap) (locs : List Loc) (ls : Array Slot), f_X3_pairsBelow_L4 n v4_1 v4_2 σ = some o → gw_P G σ H → va_S (gw_A G s.heap.size) s.heap H locs → lv_has ls 3 [(0, .ref (G.2.1 1)), (1, .int v4_1), (2, .int v4_2)] → W p l e { frames := 2, cells := 0, slots := 0, locals := 42 } s m [.ref (G.2.1 1)].toArray below meth c H locs 0 0 (MQ below (gw_QI G s.heap.size o) [.ref (G.2.1 1)].toArray s 0 0 (gw_A G s.heap.size)) (F0 m 4 ls []) := by
    intro n
    induction n with
    | zero =>
      intro v4_1 v4_2 σ H locs ls h
      exact absurd h (by rw [f_X3_pairsBelow_L4.eq_1]; exact fun h => nomatch h)
    | succ n ih =>
      intro v4_1 v4_2 σ H locs ls h hP hS hl
      rw [f_X3_pairsBelow_L4.eq_2] at h
      refine lv_iload_n hx hb dX3_pairsBelow_4 rfl (lv_at hl 2 rfl) ?_
      refine lv_aload_n hx hb dX3_pairsBelow_5 rfl (lv_at hl 0 rfl) ?_
      refine va_get (D := G.1) (ci := 6) (v := .int (σ 1 0)) (C := RX3) (T := TX3) (N := 5) hx hb hts gx_X3 hown hT.2.1 hP 1 rfl rfl 0 (by decide) (hts _ gv_48) (fun _ h9 => h9) rfl dX3_pairsBelow_6 ?_
      refine lv_icmp_ge (tgt := 31) hx hb dX3_pairsBelow_9 (by decide) (fun c => ?_) (fun c => ?_)
      · have h := (if_pos c).symm.trans h
        refine lv_iload_n hx hb dX3_pairsBelow_31 rfl (lv_at hl 1 rfl) ?_
        exact gw_ri X hP hS h dX3_pairsBelow_32
      · have h := (if_neg c).symm.trans h
        refine lv_iload_n hx hb dX3_pairsBelow_12 rfl (lv_at hl 1 rfl) ?_
        refine lv_aload_n hx hb dX3_pairsBelow_13 rfl (lv_at hl 0 rfl) ?_
        refine lv_iload_n hx hb dX3_pairsBelow_14 rfl (lv_at hl 2 rfl) ?_
        obtain ⟨p1, gp1, h⟩ := Option.bind_eq_some_iff.mp h
        refine gw_ci (gw_rV (C := RX3) X hP hS (gc_X3_down l G v4_2 σ _ gp1) gk_X3_down gv_270 ⟨gv_271, gv_272⟩ (va_recv hT.2.1 hP (ci := 6) (q0 := 1) rfl rfl) rfl rfl (Nat.le_of_ble_eq_true rfl) hl.1 ⟨rfl, rfl⟩ ⟨Nat.le_of_ble_eq_true rfl, Nat.le_of_ble_eq_true rfl⟩ ⟨Nat.le_of_ble_eq_true rfl, Nat.le_of_ble_eq_true rfl⟩ dX3_pairsBelow_15) hS (fun H locs hP hS => ?_)
        obtain ⟨p2, gp2, h⟩ := Option.bind_eq_some_iff.mp h
        refine gw_ci (gw_rS X hP hS (gc_J6_bitCount_0f7a4 l G p1.1 p1.2 _ gp2) gk_J6_bitCount_0f7a4 gv_694 gv_249 rfl rfl (Nat.le_of_ble_eq_true rfl) hl.1 ⟨rfl, rfl⟩ ⟨Nat.le_of_ble_eq_true rfl, Nat.le_of_ble_eq_true rfl⟩ ⟨Nat.le_of_ble_eq_true rfl, Nat.le_of_ble_eq_true rfl⟩ dX3_pairsBelow_18) hS (fun H locs hP hS => ?_)
        refine lv_iconst (v := 1) hx hb dX3_pairsBelow_21 (by decide) ?_
        refine lv_isub hx hb dX3_pairsBelow_22 ?_
        refine lv_iadd hx hb dX3_pairsBelow_23 ?_
        refine lv_istore_n (lv' := [(1, .int (v4_1 + (p2.1 - (1 : Int32)))), (0, .ref (G.2.1 1)), (2, .int v4_2)]) hx hb dX3_pairsBelow_24 rfl hl (by decide) rfl (fun ls hl => ?_)
        refine lv_iinc (v := (v4_2 + (1 : Int32))) (lv' := [(2, .int (v4_2 + (1 : Int32))), (1, .int (v4_1 + (p2.1 - (1 : Int32)))), (0, .ref (G.2.1 1))]) hx hb dX3_pairsBelow_25 hl (k := 2) rfl rfl (by decide) rfl (fun ls hl => ?_)
        refine lv_goto (tgt := 4) hx hb dX3_pairsBelow_28 (by decide) ?_
        exact ih (v4_1 + (p2.1 - (1 : Int32))) (v4_2 + (1 : Int32)) p2.2 _ _ _ h hP hS (lv_sub hl [2, 1, 0] rfl)
  unfold f_X3_pairsBelow at h
  refine lv_iconst (v := 0) hx hb dX3_pairsBelow_0 (by decide) ?_
  refine lv_istore_n (lv' := [(1, .int (0 : Int32)), (0, .ref (G.2.1 1))]) hx hb dX3_pairsBelow_1 rfl hl (by decide) rfl (fun ls hl => ?_)
  refine lv_iconst (v := 0) hx hb dX3_pairsBelow_2 (by decide) ?_
  refine lv_istore_n (lv' := [(2, .int (0 : Int32)), (1, .int (0 : Int32)), (0, .ref (G.2.1 1))]) hx hb dX3_pairsBelow_3 rfl hl (by decide) rfl (fun ls hl => ?_)
  exact L4 64 (0 : Int32) (0 : Int32) σ _ _ _ h hP hS (lv_sub hl [2, 1, 0] rfl)
def f_X3_ends (σ : gw_S) : Option (Int32 × gw_S) := (some ((σ 1 2), σ))
set_option maxHeartbeats 4000000 in
set_option maxRecDepth 100000 in
theorem gc_X3_ends (l : Launch) (G : gw_G) (σ : gw_S) (o : (Int32 × gw_S)) (h : f_X3_ends σ = some o) : gw_M (fun sz => gw_QI G sz o) l yX3_ends cX3_ends 1 (some .int) { frames := 0, cells := 0, slots := 0, locals := 0 } G [.ref (G.2.1 1)] σ := by
  refine gw_en (own := RX3) (lv := [(0, .ref (G.2.1 1))]) (by decide +kernel) rfl (Nat.le_of_ble_eq_true rfl) rfl ?_
  intro p e s m below meth c ls X hl hP
  obtain ⟨hx, hb, hml, hown, hts, -, -, hT, hZ, -⟩ := id X
  have hS : va_S (gw_A G s.heap.size) s.heap s.heap [] := va_S.rf
  unfold f_X3_ends at h
  refine lv_aload_n hx hb dX3_ends_0 rfl (lv_at hl 0 rfl) ?_
  refine va_get (D := G.1) (ci := 6) (v := .int (σ 1 2)) (C := RX3) (T := TX3) (N := 5) hx hb hts gx_X3 hown hT.2.1 hP 1 rfl rfl 2 (by decide) (hts _ gv_50) (fun _ h9 => h9) rfl dX3_ends_1 ?_
  exact gw_ri X hP hS h dX3_ends_4
def f_X3_endsOf (a0 : Int32) (σ : gw_S) : Option (Int32 × gw_S) := ((f_X8_at 2 a0 σ).bind fun p1 => (some ((p1.1 &&& (p1.2 1 2)), p1.2)))
set_option maxHeartbeats 4000000 in
set_option maxRecDepth 100000 in
theorem gc_X3_endsOf (l : Launch) (G : gw_G) (a0 : Int32) (σ : gw_S) (o : (Int32 × gw_S)) (h : f_X3_endsOf a0 σ = some o) : gw_M (fun sz => gw_QI G sz o) l yX3_endsOf cX3_endsOf 2 (some .int) { frames := 1, cells := 0, slots := 0, locals := 21 } G [.ref (G.2.1 1), .int a0] σ := by
  refine gw_en (own := RX3) (lv := [(0, .ref (G.2.1 1)), (1, .int a0)]) (by decide +kernel) rfl (Nat.le_of_ble_eq_true rfl) rfl ?_
  intro p e s m below meth c ls X hl hP
  obtain ⟨hx, hb, hml, hown, hts, -, -, hT, hZ, -⟩ := id X
  have hS : va_S (gw_A G s.heap.size) s.heap s.heap [] := va_S.rf
  unfold f_X3_endsOf at h
  refine lv_aload_n hx hb dX3_endsOf_0 rfl (lv_at hl 0 rfl) ?_
  refine va_get (D := G.1) (ci := 6) (v := .ref (G.2.1 2)) (C := RX3) (T := TX3) (N := 5) hx hb hts gx_X3 hown hT.2.1 hP 1 rfl rfl 3 (by decide) (hts _ gv_51) (fun _ h9 => h9) rfl dX3_endsOf_1 ?_
  refine lv_iload_n hx hb dX3_endsOf_4 rfl (lv_at hl 1 rfl) ?_
  obtain ⟨p1, gp1, h⟩ := Option.bind_eq_some_iff.mp h
  refine gw_ci (gw_rN (host := "Genericwood") X hP hS (gc_X8_at l G 2 ⟨by decide, by decide⟩ a0 σ _ gp1) gk_X8_at gv_274 gv_275 rfl rfl (Nat.le_of_ble_eq_true rfl) hl.1 ⟨rfl, rfl⟩ ⟨Nat.le_of_ble_eq_true rfl, Nat.le_of_ble_eq_true rfl⟩ ⟨Nat.le_of_ble_eq_true rfl, Nat.le_of_ble_eq_true rfl⟩ dX3_endsOf_5) hS (fun H locs hP hS => ?_)
  refine lv_aload_n hx hb dX3_endsOf_8 rfl (lv_at hl 0 rfl) ?_
  refine va_get (D := G.1) (ci := 6) (v := .int (p1.2 1 2)) (C := RX3) (T := TX3) (N := 5) hx hb hts gx_X3 hown hT.2.1 hP 1 rfl rfl 2 (by decide) (hts _ gv_50) (fun _ h9 => h9) rfl dX3_endsOf_9 ?_
  refine lv_iand hx hb dX3_endsOf_12 ?_
  exact gw_ri X hP hS h dX3_endsOf_13
def f_X3_avoiding_L4 : Nat → Int32 → Int32 → Int32 → gw_S → Option (Int32 × gw_S)
  | 0, _, _, _, _ => none
  | n + 1, v4_1, v4_2, v4_3, σ => (if (σ 1 0) ≤ v4_3 then (some (v4_2, σ)) else ((f_X8_at 2 v4_3 σ).bind fun p1 => (if (p1.1 &&& v4_1) = 0 then (f_X3_avoiding_L4 n v4_1 (v4_2 ||| ((1 : Int32) <<< (v4_3 &&& 31))) (v4_3 + (1 : Int32)) p1.2) else (f_X3_avoiding_L4 n v4_1 v4_2 (v4_3 + (1 : Int32)) p1.2))))
def f_X3_avoiding (a0 : Int32) (σ : gw_S) : Option (Int32 × gw_S) := (f_X3_avoiding_L4 64 a0 (0 : Int32) (0 : Int32) σ)
set_option maxHeartbeats 4000000 in
set_option maxRecDepth 100000 in
theorem gc_X3_avoiding (l : Launch) (G : gw_G) (a0 : Int32) (σ : gw_S) (o : (Int32 × gw_S)) (h : f_X3_avoiding a0 σ = some o) : gw_M (fun sz => gw_QI G sz o) l yX3_avoiding cX3_avoiding 4 (some .int) { frames := 1, cells := 0, slots := 0, locals := 21 } G [.ref (G.2.1 1), .int a0] σ := by
  refine gw_en (own := RX3) (lv := [(0, .ref (G.2.1 1)), (1, .int a0)]) (by decide +kernel) rfl (Nat.le_of_ble_eq_true rfl) rfl ?_
  intro p e s m below meth c ls X hl hP
  obtain ⟨hx, hb, hml, hown, hts, -, -, hT, hZ, -⟩ := id X
  have hS : va_S (gw_A G s.heap.size) s.heap s.heap [] := va_S.rf
  have L4 : ∀ (n : Nat) (v4_1 : Int32) (v4_2 : Int32) (v4_3 : Int32) (σ : gw_S) (H : Heap) (locs : List Loc) (ls : Array Slot), f_X3_avoiding_L4 n v4_1 v4_2 v4_3 σ = some o → gw_P G σ H → va_S (gw_A G s.heap.size) s.heap H locs → lv_has ls 4 [(0, .ref (G.2.1 1)), (1, .int v4_1), (2, .int v4_2), (3, .int v4_3)] → W p l e { frames := 1, cells := 0, slots := 0, locals := 21 } s m [.ref (G.2.1 1), .int a0].toArray below meth c H locs 0 0 (MQ below (gw_QI G s.heap.size o) [.ref (G.2.1 1), .int a0].toArray s 0 0 (gw_A G s.heap.size)) (F0 m 4 ls []) := by
    intro n
    induction n with
    | zero =>
      intro v4_1 v4_2 v4_3 σ H locs ls h
      exact absurd h (by rw [f_X3_avoiding_L4.eq_1]; exact fun h => nomatch h)
    | succ n ih =>
      intro v4_1 v4_2 v4_3 σ H locs ls h hP hS hl
      rw [f_X3_avoiding_L4.eq_2] at h
      refine lv_iload_n hx hb dX3_avoiding_4 rfl (lv_at hl 3 rfl) ?_
      refine lv_aload_n hx hb dX3_avoiding_5 rfl (lv_at hl 0 rfl) ?_
      refine va_get (D := G.1) (ci := 6) (v := .int (σ 1 0)) (C := RX3) (T := TX3) (N := 5) hx hb hts gx_X3 hown hT.2.1 hP 1 rfl rfl 0 (by decide) (hts _ gv_48) (fun _ h9 => h9) rfl dX3_avoiding_6 ?_
      refine lv_icmp_ge (tgt := 37) hx hb dX3_avoiding_9 (by decide) (fun c => ?_) (fun c => ?_)
      · have h := (if_pos c).symm.trans h
        refine lv_iload_n hx hb dX3_avoiding_37 rfl (lv_at hl 2 rfl) ?_
        exact gw_ri X hP hS h dX3_avoiding_38
      · have h := (if_neg c).symm.trans h
        refine lv_aload_n hx hb dX3_avoiding_12 rfl (lv_at hl 0 rfl) ?_
        refine va_get (D := G.1) (ci := 6) (v := .ref (G.2.1 2)) (C := RX3) (T := TX3) (N := 5) hx hb hts gx_X3 hown hT.2.1 hP 1 rfl rfl 3 (by decide) (hts _ gv_51) (fun _ h9 => h9) rfl dX3_avoiding_13 ?_
        refine lv_iload_n hx hb dX3_avoiding_16 rfl (lv_at hl 3 rfl) ?_
        obtain ⟨p1, gp1, h⟩ := Option.bind_eq_some_iff.mp h
        refine gw_ci (gw_rN (host := "Genericwood") X hP hS (gc_X8_at l G 2 ⟨by decide, by decide⟩ v4_3 σ _ gp1) gk_X8_at gv_274 gv_275 rfl rfl (Nat.le_of_ble_eq_true rfl) hl.1 ⟨rfl, rfl⟩ ⟨Nat.le_of_ble_eq_true rfl, Nat.le_of_ble_eq_true rfl⟩ ⟨Nat.le_of_ble_eq_true rfl, Nat.le_of_ble_eq_true rfl⟩ dX3_avoiding_17) hS (fun H locs hP hS => ?_)
        refine lv_iload_n hx hb dX3_avoiding_20 rfl (lv_at hl 1 rfl) ?_
        refine lv_iand hx hb dX3_avoiding_21 ?_
        refine lv_if_ne (tgt := 31) hx hb dX3_avoiding_22 (by decide) (fun c => ?_) (fun c => ?_)
        · have h := (if_neg c).symm.trans h
          refine lv_iinc (v := (v4_3 + (1 : Int32))) (lv' := [(3, .int (v4_3 + (1 : Int32))), (0, .ref (G.2.1 1)), (1, .int v4_1), (2, .int v4_2)]) hx hb dX3_avoiding_31 hl (k := 3) rfl rfl (by decide) rfl (fun ls hl => ?_)
          refine lv_goto (tgt := 4) hx hb dX3_avoiding_34 (by decide) ?_
          exact ih v4_1 v4_2 (v4_3 + (1 : Int32)) p1.2 _ _ _ h hP hS (lv_sub hl [1, 2, 3, 0] rfl)
        · have h := (if_pos c).symm.trans h
          refine lv_iload_n hx hb dX3_avoiding_25 rfl (lv_at hl 2 rfl) ?_
          refine lv_iconst (v := 1) hx hb dX3_avoiding_26 (by decide) ?_
          refine lv_iload_n hx hb dX3_avoiding_27 rfl (lv_at hl 3 rfl) ?_
          refine lv_ishl hx hb dX3_avoiding_28 ?_
          refine lv_ior hx hb dX3_avoiding_29 ?_
          refine lv_istore_n (lv' := [(2, .int (v4_2 ||| ((1 : Int32) <<< (v4_3 &&& 31)))), (0, .ref (G.2.1 1)), (1, .int v4_1), (3, .int v4_3)]) hx hb dX3_avoiding_30 rfl hl (by decide) rfl (fun ls hl => ?_)
          refine lv_iinc (v := (v4_3 + (1 : Int32))) (lv' := [(3, .int (v4_3 + (1 : Int32))), (2, .int (v4_2 ||| ((1 : Int32) <<< (v4_3 &&& 31)))), (0, .ref (G.2.1 1)), (1, .int v4_1)]) hx hb dX3_avoiding_31 hl (k := 3) rfl rfl (by decide) rfl (fun ls hl => ?_)
          refine lv_goto (tgt := 4) hx hb dX3_avoiding_34 (by decide) ?_
          exact ih v4_1 (v4_2 ||| ((1 : Int32) <<< (v4_3 &&& 31))) (v4_3 + (1 : Int32)) p1.2 _ _ _ h hP hS (lv_sub hl [2, 3, 1, 0] rfl)
  unfold f_X3_avoiding at h
  refine lv_iconst (v := 0) hx hb dX3_avoiding_0 (by decide) ?_
  refine lv_istore_n (lv' := [(2, .int (0 : Int32)), (0, .ref (G.2.1 1)), (1, .int a0)]) hx hb dX3_avoiding_1 rfl hl (by decide) rfl (fun ls hl => ?_)
  refine lv_iconst (v := 0) hx hb dX3_avoiding_2 (by decide) ?_
  refine lv_istore_n (lv' := [(3, .int (0 : Int32)), (2, .int (0 : Int32)), (0, .ref (G.2.1 1)), (1, .int a0)]) hx hb dX3_avoiding_3 rfl hl (by decide) rfl (fun ls hl => ?_)
  exact L4 64 a0 (0 : Int32) (0 : Int32) σ _ _ _ h hP hS (lv_sub hl [2, 3, 1, 0] rfl)
def f_X3_image (a0 : Int32) (σ : gw_S) : Option (Int32 × gw_S) := ((f_X8_at 3 a0 σ).bind fun p1 => (some (p1.1, p1.2)))
set_option maxHeartbeats 4000000 in
set_option maxRecDepth 100000 in
theorem gc_X3_image (l : Launch) (G : gw_G) (a0 : Int32) (σ : gw_S) (o : (Int32 × gw_S)) (h : f_X3_image a0 σ = some o) : gw_M (fun sz => gw_QI G sz o) l yX3_image cX3_image 2 (some .int) { frames := 1, cells := 0, slots := 0, locals := 21 } G [.ref (G.2.1 1), .int a0] σ := by
  refine gw_en (own := RX3) (lv := [(0, .ref (G.2.1 1)), (1, .int a0)]) (by decide +kernel) rfl (Nat.le_of_ble_eq_true rfl) rfl ?_
  intro p e s m below meth c ls X hl hP
  obtain ⟨hx, hb, hml, hown, hts, -, -, hT, hZ, -⟩ := id X
  have hS : va_S (gw_A G s.heap.size) s.heap s.heap [] := va_S.rf
  unfold f_X3_image at h
  refine lv_aload_n hx hb dX3_image_0 rfl (lv_at hl 0 rfl) ?_
  refine va_get (D := G.1) (ci := 6) (v := .ref (G.2.1 3)) (C := RX3) (T := TX3) (N := 5) hx hb hts gx_X3 hown hT.2.1 hP 1 rfl rfl 4 (by decide) (hts _ gv_52) (fun _ h9 => h9) rfl dX3_image_1 ?_
  refine lv_iload_n hx hb dX3_image_4 rfl (lv_at hl 1 rfl) ?_
  obtain ⟨p1, gp1, h⟩ := Option.bind_eq_some_iff.mp h
  refine gw_ci (gw_rN (host := "Genericwood") X hP hS (gc_X8_at l G 3 ⟨by decide, by decide⟩ a0 σ _ gp1) gk_X8_at gv_274 gv_275 rfl rfl (Nat.le_of_ble_eq_true rfl) hl.1 ⟨rfl, rfl⟩ ⟨Nat.le_of_ble_eq_true rfl, Nat.le_of_ble_eq_true rfl⟩ ⟨Nat.le_of_ble_eq_true rfl, Nat.le_of_ble_eq_true rfl⟩ dX3_image_5) hS (fun H locs hP hS => ?_)
  exact gw_ri X hP hS h dX3_image_8
def f_X3_exchange (a0 : Int32) (a1 : Int32) (σ : gw_S) : Option gw_S := ((f_X3_image a0 σ).bind fun p1 => ((f_X3_image a1 p1.2).bind fun p2 => ((f_X8_put 3 a0 p2.1 p2.2).bind fun p3 => ((f_X8_put 3 a1 p1.1 p3).bind fun p4 => (some p4)))))
set_option maxHeartbeats 4000000 in
set_option maxRecDepth 100000 in
theorem gc_X3_exchange (l : Launch) (G : gw_G) (a0 : Int32) (a1 : Int32) (σ : gw_S) (o : gw_S) (h : f_X3_exchange a0 a1 σ = some o) : gw_M (fun sz => gw_QV G sz o) l yX3_exchange cX3_exchange 4 none { frames := 2, cells := 0, slots := 0, locals := 42 } G [.ref (G.2.1 1), .int a0, .int a1] σ := by
  refine gw_en (own := RX3) (lv := [(0, .ref (G.2.1 1)), (1, .int a0), (2, .int a1)]) (by decide +kernel) rfl (Nat.le_of_ble_eq_true rfl) rfl ?_
  intro p e s m below meth c ls X hl hP
  obtain ⟨hx, hb, hml, hown, hts, -, -, hT, hZ, -⟩ := id X
  have hS : va_S (gw_A G s.heap.size) s.heap s.heap [] := va_S.rf
  unfold f_X3_exchange at h
  refine lv_aload_n hx hb dX3_exchange_0 rfl (lv_at hl 0 rfl) ?_
  refine lv_iload_n hx hb dX3_exchange_1 rfl (lv_at hl 1 rfl) ?_
  obtain ⟨p1, gp1, h⟩ := Option.bind_eq_some_iff.mp h
  refine gw_ci (gw_rV (C := RX3) X hP hS (gc_X3_image l G a0 σ _ gp1) gk_X3_image gv_1103 ⟨gv_503, gv_504⟩ (va_recv hT.2.1 hP (ci := 6) (q0 := 1) rfl rfl) rfl rfl (Nat.le_of_ble_eq_true rfl) hl.1 ⟨rfl, rfl⟩ ⟨Nat.le_of_ble_eq_true rfl, Nat.le_of_ble_eq_true rfl⟩ ⟨Nat.le_of_ble_eq_true rfl, Nat.le_of_ble_eq_true rfl⟩ dX3_exchange_2) hS (fun H locs hP hS => ?_)
  refine lv_istore_n (lv' := [(3, .int p1.1), (0, .ref (G.2.1 1)), (1, .int a0), (2, .int a1)]) hx hb dX3_exchange_5 rfl hl (by decide) rfl (fun ls hl => ?_)
  refine lv_aload_n hx hb dX3_exchange_6 rfl (lv_at hl 1 rfl) ?_
  refine va_get (D := G.1) (ci := 6) (v := .ref (G.2.1 3)) (C := RX3) (T := TX3) (N := 5) hx hb hts gx_X3 hown hT.2.1 hP 1 rfl rfl 4 (by decide) (hts _ gv_52) (fun _ h9 => h9) rfl dX3_exchange_7 ?_
  refine lv_iload_n hx hb dX3_exchange_10 rfl (lv_at hl 2 rfl) ?_
  refine lv_aload_n hx hb dX3_exchange_11 rfl (lv_at hl 1 rfl) ?_
  refine lv_iload_n hx hb dX3_exchange_12 rfl (lv_at hl 3 rfl) ?_
  obtain ⟨p2, gp2, h⟩ := Option.bind_eq_some_iff.mp h
  refine gw_ci (gw_rV (C := RX3) X hP hS (gc_X3_image l G a1 p1.2 _ gp2) gk_X3_image gv_1103 ⟨gv_503, gv_504⟩ (va_recv hT.2.1 hP (ci := 6) (q0 := 1) rfl rfl) rfl rfl (Nat.le_of_ble_eq_true rfl) hl.1 ⟨rfl, rfl⟩ ⟨Nat.le_of_ble_eq_true rfl, Nat.le_of_ble_eq_true rfl⟩ ⟨Nat.le_of_ble_eq_true rfl, Nat.le_of_ble_eq_true rfl⟩ dX3_exchange_13) hS (fun H locs hP hS => ?_)
  obtain ⟨p3, gp3, h⟩ := Option.bind_eq_some_iff.mp h
  refine gw_cv (gw_rN (host := "Genericwood") X hP hS (gc_X8_put l G 3 ⟨by decide, by decide⟩ a0 p2.1 p2.2 _ gp3) gk_X8_put gv_631 gv_403 rfl rfl (Nat.le_of_ble_eq_true rfl) hl.1 ⟨rfl, rfl⟩ ⟨Nat.le_of_ble_eq_true rfl, Nat.le_of_ble_eq_true rfl⟩ ⟨Nat.le_of_ble_eq_true rfl, Nat.le_of_ble_eq_true rfl⟩ dX3_exchange_16) hS (fun H locs hP hS => ?_)
  refine lv_aload_n hx hb dX3_exchange_19 rfl (lv_at hl 1 rfl) ?_
  refine va_get (D := G.1) (ci := 6) (v := .ref (G.2.1 3)) (C := RX3) (T := TX3) (N := 5) hx hb hts gx_X3 hown hT.2.1 hP 1 rfl rfl 4 (by decide) (hts _ gv_52) (fun _ h9 => h9) rfl dX3_exchange_20 ?_
  refine lv_iload_n hx hb dX3_exchange_23 rfl (lv_at hl 3 rfl) ?_
  refine lv_iload_n hx hb dX3_exchange_24 rfl (lv_at hl 0 rfl) ?_
  obtain ⟨p4, gp4, h⟩ := Option.bind_eq_some_iff.mp h
  refine gw_cv (gw_rN (host := "Genericwood") X hP hS (gc_X8_put l G 3 ⟨by decide, by decide⟩ a1 p1.1 p3 _ gp4) gk_X8_put gv_631 gv_403 rfl rfl (Nat.le_of_ble_eq_true rfl) hl.1 ⟨rfl, rfl⟩ ⟨Nat.le_of_ble_eq_true rfl, Nat.le_of_ble_eq_true rfl⟩ ⟨Nat.le_of_ble_eq_true rfl, Nat.le_of_ble_eq_true rfl⟩ dX3_exchange_25) hS (fun H locs hP hS => ?_)
  exact gw_rv X hP hS h dX3_exchange_28
def f_X3_isKept_L12 : Nat → (Int32 → gw_S → Option (Int32 × gw_S)) → Int32 → Int32 → gw_S → Option (Int32 × gw_S)
  | 0, _, _, _, _ => none
  | n + 1, K, v12_1, v12_2, σ => (if (σ 1 0) ≤ v12_2 then (K v12_1 σ) else ((f_X3_stands v12_1 v12_2 σ).bind fun p1 => ((f_X3_image v12_1 p1.2).bind fun p2 => ((f_X3_image v12_2 p2.2).bind fun p3 => ((f_X3_stands p2.1 p3.1 p3.2).bind fun p4 => (if p1.1 = p4.1 then (f_X3_isKept_L12 n K v12_1 (v12_2 + (1 : Int32)) p4.2) else (some ((0 : Int32), p4.2))))))))
def f_X3_isKept_L2 : Nat → Int32 → gw_S → Option (Int32 × gw_S)
  | 0, _, _ => none
  | n + 1, v2_1, σ => (if (σ 1 0) ≤ v2_1 then (some ((1 : Int32), σ)) else (f_X3_isKept_L12 64 (fun w12_1 σ12 => (f_X3_isKept_L2 n (w12_1 + (1 : Int32)) σ12)) v2_1 (0 : Int32) σ))
def f_X3_isKept (σ : gw_S) : Option (Int32 × gw_S) := (f_X3_isKept_L2 64 (0 : Int32) σ)
set_option maxHeartbeats 4000000 in
set_option maxRecDepth 100000 in
theorem gc_X3_isKept (l : Launch) (G : gw_G) (σ : gw_S) (o : (Int32 × gw_S)) (h : f_X3_isKept σ = some o) : gw_M (fun sz => gw_QZ G sz o) l yX3_isKept cX3_isKept 3 (some .boolean) { frames := 3, cells := 0, slots := 0, locals := 64 } G [.ref (G.2.1 1)] σ := by
  refine gw_en (own := RX3) (lv := [(0, .ref (G.2.1 1))]) (by decide +kernel) rfl (Nat.le_of_ble_eq_true rfl) rfl ?_
  intro p e s m below meth c ls X hl hP
  obtain ⟨hx, hb, hml, hown, hts, -, -, hT, hZ, -⟩ := id X
  have hS : va_S (gw_A G s.heap.size) s.heap s.heap [] := va_S.rf
  have L12 : ∀ (n : Nat) (K : Int32 → gw_S → Option (Int32 × gw_S)) (v12_1 : Int32) (v12_2 : Int32) (σ : gw_S) (H : Heap) (locs : List Loc) (ls : Array Slot), f_X3_isKept_L12 n K v12_1 v12_2 σ = some o → gw_P G σ H → va_S (gw_A G s.heap.size) s.heap H locs → lv_has ls 3 [(0, .ref (G.2.1 1)), (1, .int v12_1), (2, .int v12_2)] → (∀ (w1 : Int32) (σ : gw_S) (H : Heap) (locs : List Loc) (ls : Array Slot), K w1 σ = some o → gw_P G σ H → va_S (gw_A G s.heap.size) s.heap H locs → lv_has ls 3 [(0, .ref (G.2.1 1)), (1, .int w1)] → W p l e { frames := 3, cells := 0, slots := 0, locals := 64 } s m [.ref (G.2.1 1)].toArray below meth c H locs 0 0 (MQ below (gw_QZ G s.heap.size o) [.ref (G.2.1 1)].toArray s 0 0 (gw_A G s.heap.size)) (F0 m 51 ls [])) → W p l e { frames := 3, cells := 0, slots := 0, locals := 64 } s m [.ref (G.2.1 1)].toArray below meth c H locs 0 0 (MQ below (gw_QZ G s.heap.size o) [.ref (G.2.1 1)].toArray s 0 0 (gw_A G s.heap.size)) (F0 m 12 ls []) := by
    intro n K
    induction n with
    | zero =>
      intro v12_1 v12_2 σ H locs ls h
      exact absurd h (by rw [f_X3_isKept_L12.eq_1]; exact fun h => nomatch h)
    | succ n ih =>
      intro v12_1 v12_2 σ H locs ls h hP hS hl hK
      rw [f_X3_isKept_L12.eq_2] at h
      refine lv_iload_n hx hb dX3_isKept_12 rfl (lv_at hl 2 rfl) ?_
      refine lv_aload_n hx hb dX3_isKept_13 rfl (lv_at hl 0 rfl) ?_
      refine va_get (D := G.1) (ci := 6) (v := .int (σ 1 0)) (C := RX3) (T := TX3) (N := 5) hx hb hts gx_X3 hown hT.2.1 hP 1 rfl rfl 0 (by decide) (hts _ gv_48) (fun _ h9 => h9) rfl dX3_isKept_14 ?_
      refine lv_icmp_ge (tgt := 51) hx hb dX3_isKept_17 (by decide) (fun c => ?_) (fun c => ?_)
      · have h := (if_pos c).symm.trans h
        exact hK v12_1 σ _ _ _ h hP hS (lv_sub hl [0, 1] rfl)
      · have h := (if_neg c).symm.trans h
        refine lv_aload_n hx hb dX3_isKept_20 rfl (lv_at hl 0 rfl) ?_
        refine lv_iload_n hx hb dX3_isKept_21 rfl (lv_at hl 1 rfl) ?_
        refine lv_iload_n hx hb dX3_isKept_22 rfl (lv_at hl 2 rfl) ?_
        obtain ⟨p1, gp1, h⟩ := Option.bind_eq_some_iff.mp h
        refine gw_cz (gw_rV (C := RX3) X hP hS (gc_X3_stands l G v12_1 v12_2 σ _ gp1) gk_X3_stands gv_689 ⟨gv_267, gv_268⟩ (va_recv hT.2.1 hP (ci := 6) (q0 := 1) rfl rfl) rfl rfl (Nat.le_of_ble_eq_true rfl) hl.1 ⟨rfl, rfl⟩ ⟨Nat.le_of_ble_eq_true rfl, Nat.le_of_ble_eq_true rfl⟩ ⟨Nat.le_of_ble_eq_true rfl, Nat.le_of_ble_eq_true rfl⟩ dX3_isKept_23) hS (fun H locs hb_p1 hP hS => ?_)
        refine lv_aload_n hx hb dX3_isKept_26 rfl (lv_at hl 0 rfl) ?_
        refine lv_aload_n hx hb dX3_isKept_27 rfl (lv_at hl 0 rfl) ?_
        refine lv_iload_n hx hb dX3_isKept_28 rfl (lv_at hl 1 rfl) ?_
        obtain ⟨p2, gp2, h⟩ := Option.bind_eq_some_iff.mp h
        refine gw_ci (gw_rV (C := RX3) X hP hS (gc_X3_image l G v12_1 p1.2 _ gp2) gk_X3_image gv_1103 ⟨gv_503, gv_504⟩ (va_recv hT.2.1 hP (ci := 6) (q0 := 1) rfl rfl) rfl rfl (Nat.le_of_ble_eq_true rfl) hl.1 ⟨rfl, rfl⟩ ⟨Nat.le_of_ble_eq_true rfl, Nat.le_of_ble_eq_true rfl⟩ ⟨Nat.le_of_ble_eq_true rfl, Nat.le_of_ble_eq_true rfl⟩ dX3_isKept_29) hS (fun H locs hP hS => ?_)
        refine lv_aload_n hx hb dX3_isKept_32 rfl (lv_at hl 0 rfl) ?_
        refine lv_iload_n hx hb dX3_isKept_33 rfl (lv_at hl 2 rfl) ?_
        obtain ⟨p3, gp3, h⟩ := Option.bind_eq_some_iff.mp h
        refine gw_ci (gw_rV (C := RX3) X hP hS (gc_X3_image l G v12_2 p2.2 _ gp3) gk_X3_image gv_1103 ⟨gv_503, gv_504⟩ (va_recv hT.2.1 hP (ci := 6) (q0 := 1) rfl rfl) rfl rfl (Nat.le_of_ble_eq_true rfl) hl.1 ⟨rfl, rfl⟩ ⟨Nat.le_of_ble_eq_true rfl, Nat.le_of_ble_eq_true rfl⟩ ⟨Nat.le_of_ble_eq_true rfl, Nat.le_of_ble_eq_true rfl⟩ dX3_isKept_34) hS (fun H locs hP hS => ?_)
        obtain ⟨p4, gp4, h⟩ := Option.bind_eq_some_iff.mp h
        refine gw_cz (gw_rV (C := RX3) X hP hS (gc_X3_stands l G p2.1 p3.1 p3.2 _ gp4) gk_X3_stands gv_689 ⟨gv_267, gv_268⟩ (va_recv hT.2.1 hP (ci := 6) (q0 := 1) rfl rfl) rfl rfl (Nat.le_of_ble_eq_true rfl) hl.1 ⟨rfl, rfl⟩ ⟨Nat.le_of_ble_eq_true rfl, Nat.le_of_ble_eq_true rfl⟩ ⟨Nat.le_of_ble_eq_true rfl, Nat.le_of_ble_eq_true rfl⟩ dX3_isKept_37) hS (fun H locs hb_p4 hP hS => ?_)
        refine lv_icmp_eq (tgt := 45) hx hb dX3_isKept_40 (by decide) (fun c => ?_) (fun c => ?_)
        · have h := (if_pos c).symm.trans h
          refine lv_iinc (v := (v12_2 + (1 : Int32))) (lv' := [(2, .int (v12_2 + (1 : Int32))), (0, .ref (G.2.1 1)), (1, .int v12_1)]) hx hb dX3_isKept_45 hl (k := 2) rfl rfl (by decide) rfl (fun ls hl => ?_)
          refine lv_goto (tgt := 12) hx hb dX3_isKept_48 (by decide) ?_
          exact ih v12_1 (v12_2 + (1 : Int32)) p4.2 _ _ _ h hP hS (lv_sub hl [1, 2, 0] rfl) hK
        · have h := (if_neg c).symm.trans h
          refine lv_iconst (v := 0) hx hb dX3_isKept_43 (by decide) ?_
          exact gw_rz X hP hS rfl h dX3_isKept_44
  have L2 : ∀ (n : Nat) (v2_1 : Int32) (σ : gw_S) (H : Heap) (locs : List Loc) (ls : Array Slot), f_X3_isKept_L2 n v2_1 σ = some o → gw_P G σ H → va_S (gw_A G s.heap.size) s.heap H locs → lv_has ls 3 [(0, .ref (G.2.1 1)), (1, .int v2_1)] → W p l e { frames := 3, cells := 0, slots := 0, locals := 64 } s m [.ref (G.2.1 1)].toArray below meth c H locs 0 0 (MQ below (gw_QZ G s.heap.size o) [.ref (G.2.1 1)].toArray s 0 0 (gw_A G s.heap.size)) (F0 m 2 ls []) := by
    intro n
    induction n with
    | zero =>
      intro v2_1 σ H locs ls h
      exact absurd h (by rw [f_X3_isKept_L2.eq_1]; exact fun h => nomatch h)
    | succ n ih =>
      intro v2_1 σ H locs ls h hP hS hl
      rw [f_X3_isKept_L2.eq_2] at h
      refine lv_iload_n hx hb dX3_isKept_2 rfl (lv_at hl 1 rfl) ?_
      refine lv_aload_n hx hb dX3_isKept_3 rfl (lv_at hl 0 rfl) ?_
      refine va_get (D := G.1) (ci := 6) (v := .int (σ 1 0)) (C := RX3) (T := TX3) (N := 5) hx hb hts gx_X3 hown hT.2.1 hP 1 rfl rfl 0 (by decide) (hts _ gv_48) (fun _ h9 => h9) rfl dX3_isKept_4 ?_
      refine lv_icmp_ge (tgt := 57) hx hb dX3_isKept_7 (by decide) (fun c => ?_) (fun c => ?_)
      · have h := (if_pos c).symm.trans h
        refine lv_iconst (v := 1) hx hb dX3_isKept_57 (by decide) ?_
        exact gw_rz X hP hS rfl h dX3_isKept_58
      · have h := (if_neg c).symm.trans h
        refine lv_iconst (v := 0) hx hb dX3_isKept_10 (by decide) ?_
        refine lv_istore_n (lv' := [(2, .int (0 : Int32)), (0, .ref (G.2.1 1)), (1, .int v2_1)]) hx hb dX3_isKept_11 rfl hl (by decide) rfl (fun ls hl => ?_)
        refine L12 64 _ v2_1 (0 : Int32) σ _ _ _ h hP hS (lv_sub hl [1, 2, 0] rfl) (fun w12_1 σ12 H locs ls h hP hS hl => ?_)
        refine lv_iinc (v := (w12_1 + (1 : Int32))) (lv' := [(1, .int (w12_1 + (1 : Int32))), (0, .ref (G.2.1 1))]) hx hb dX3_isKept_51 hl (k := 1) rfl rfl (by decide) rfl (fun ls hl => ?_)
        refine lv_goto (tgt := 2) hx hb dX3_isKept_54 (by decide) ?_
        exact ih (w12_1 + (1 : Int32)) σ12 _ _ _ h hP hS (lv_sub hl [1, 0] rfl)
  unfold f_X3_isKept at h
  refine lv_iconst (v := 0) hx hb dX3_isKept_0 (by decide) ?_
  refine lv_istore_n (lv' := [(1, .int (0 : Int32)), (0, .ref (G.2.1 1))]) hx hb dX3_isKept_1 rfl hl (by decide) rfl (fun ls hl => ?_)
  exact L2 64 (0 : Int32) σ _ _ _ h hP hS (lv_sub hl [1, 0] rfl)
def f_X3_add (σ : gw_S) : Option (Int32 × gw_S) := ((f_X8_put 2 (σ 1 0) ((1 : Int32) <<< ((σ 1 0) &&& 31)) σ).bind fun p1 => ((f_X8_put 3 (σ 1 0) (σ 1 0) p1).bind fun p2 => (some ((σ 1 0), (gw_up (gw_up (gw_up p2 1 2 ((p2 1 2) ||| ((1 : Int32) <<< ((σ 1 0) &&& 31)))) 1 0 (((gw_up p2 1 2 ((p2 1 2) ||| ((1 : Int32) <<< ((σ 1 0) &&& 31)))) 1 0) + (1 : Int32))) 1 1 (((gw_up (gw_up p2 1 2 ((p2 1 2) ||| ((1 : Int32) <<< ((σ 1 0) &&& 31)))) 1 0 (((gw_up p2 1 2 ((p2 1 2) ||| ((1 : Int32) <<< ((σ 1 0) &&& 31)))) 1 0) + (1 : Int32))) 1 1) + (1 : Int32)))))))
set_option maxHeartbeats 4000000 in
set_option maxRecDepth 100000 in
theorem gc_X3_add (l : Launch) (G : gw_G) (σ : gw_S) (o : (Int32 × gw_S)) (h : f_X3_add σ = some o) : gw_M (fun sz => gw_QI G sz o) l yX3_add cX3_add 2 (some .int) { frames := 1, cells := 0, slots := 0, locals := 22 } G [.ref (G.2.1 1)] σ := by
  refine gw_en (own := RX3) (lv := [(0, .ref (G.2.1 1))]) (by decide +kernel) rfl (Nat.le_of_ble_eq_true rfl) rfl ?_
  intro p e s m below meth c ls X hl hP
  obtain ⟨hx, hb, hml, hown, hts, -, -, hT, hZ, -⟩ := id X
  have hS : va_S (gw_A G s.heap.size) s.heap s.heap [] := va_S.rf
  unfold f_X3_add at h
  refine lv_aload_n hx hb dX3_add_0 rfl (lv_at hl 0 rfl) ?_
  refine va_get (D := G.1) (ci := 6) (v := .int (σ 1 0)) (C := RX3) (T := TX3) (N := 5) hx hb hts gx_X3 hown hT.2.1 hP 1 rfl rfl 0 (by decide) (hts _ gv_48) (fun _ h9 => h9) rfl dX3_add_1 ?_
  refine lv_istore_n (lv' := [(1, .int (σ 1 0)), (0, .ref (G.2.1 1))]) hx hb dX3_add_4 rfl hl (by decide) rfl (fun ls hl => ?_)
  refine lv_aload_n hx hb dX3_add_5 rfl (lv_at hl 1 rfl) ?_
  refine va_get (D := G.1) (ci := 6) (v := .ref (G.2.1 2)) (C := RX3) (T := TX3) (N := 5) hx hb hts gx_X3 hown hT.2.1 hP 1 rfl rfl 3 (by decide) (hts _ gv_51) (fun _ h9 => h9) rfl dX3_add_6 ?_
  refine lv_iload_n hx hb dX3_add_9 rfl (lv_at hl 0 rfl) ?_
  refine lv_iconst (v := 1) hx hb dX3_add_10 (by decide) ?_
  refine lv_iload_n hx hb dX3_add_11 rfl (lv_at hl 0 rfl) ?_
  refine lv_ishl hx hb dX3_add_12 ?_
  obtain ⟨p1, gp1, h⟩ := Option.bind_eq_some_iff.mp h
  refine gw_cv (gw_rN (host := "Genericwood") X hP hS (gc_X8_put l G 2 ⟨by decide, by decide⟩ (σ 1 0) ((1 : Int32) <<< ((σ 1 0) &&& 31)) σ _ gp1) gk_X8_put gv_631 gv_403 rfl rfl (Nat.le_of_ble_eq_true rfl) hl.1 ⟨rfl, rfl⟩ ⟨Nat.le_of_ble_eq_true rfl, Nat.le_of_ble_eq_true rfl⟩ ⟨Nat.le_of_ble_eq_true rfl, Nat.le_of_ble_eq_true rfl⟩ dX3_add_13) hS (fun H locs hP hS => ?_)
  refine lv_aload_n hx hb dX3_add_16 rfl (lv_at hl 1 rfl) ?_
  refine va_get (D := G.1) (ci := 6) (v := .ref (G.2.1 3)) (C := RX3) (T := TX3) (N := 5) hx hb hts gx_X3 hown hT.2.1 hP 1 rfl rfl 4 (by decide) (hts _ gv_52) (fun _ h9 => h9) rfl dX3_add_17 ?_
  refine lv_iload_n hx hb dX3_add_20 rfl (lv_at hl 0 rfl) ?_
  refine lv_iload_n hx hb dX3_add_21 rfl (lv_at hl 0 rfl) ?_
  obtain ⟨p2, gp2, h⟩ := Option.bind_eq_some_iff.mp h
  refine gw_cv (gw_rN (host := "Genericwood") X hP hS (gc_X8_put l G 3 ⟨by decide, by decide⟩ (σ 1 0) (σ 1 0) p1 _ gp2) gk_X8_put gv_631 gv_403 rfl rfl (Nat.le_of_ble_eq_true rfl) hl.1 ⟨rfl, rfl⟩ ⟨Nat.le_of_ble_eq_true rfl, Nat.le_of_ble_eq_true rfl⟩ ⟨Nat.le_of_ble_eq_true rfl, Nat.le_of_ble_eq_true rfl⟩ dX3_add_22) hS (fun H locs hP hS => ?_)
  refine lv_aload_n hx hb dX3_add_25 rfl (lv_at hl 1 rfl) ?_
  refine lv_dup hx hb dX3_add_26 rfl ?_
  refine va_get (D := G.1) (ci := 6) (v := .int (p2 1 2)) (C := RX3) (T := TX3) (N := 5) hx hb hts gx_X3 hown hT.2.1 hP 1 rfl rfl 2 (by decide) (hts _ gv_50) (fun _ h9 => h9) rfl dX3_add_27 ?_
  refine lv_iconst (v := 1) hx hb dX3_add_30 (by decide) ?_
  refine lv_iload_n hx hb dX3_add_31 rfl (lv_at hl 0 rfl) ?_
  refine lv_ishl hx hb dX3_add_32 ?_
  refine lv_ior hx hb dX3_add_33 ?_
  refine va_put (D := G.1) (ci := 6) (v := .int ((p2 1 2) ||| ((1 : Int32) <<< ((σ 1 0) &&& 31)))) (ty := .int) (C := RX3) (T := TX3) (N := 5) hx hb hts gx_X3 tyX3 tyX3_ok nmX3 hown hT.2.1 hP (gw_D hT.1 s.heap.size _) hS 1 rfl rfl 2 (by decide) (hts _ gv_50) (fun _ h9 => h9) rfl gx_pI rfl rfl (Nat.le_of_ble_eq_true rfl) dX3_add_34 (fun H locs hP _ hS => ?_)
  have hP : gw_P G (gw_up p2 1 2 ((p2 1 2) ||| ((1 : Int32) <<< ((σ 1 0) &&& 31)))) H := hP
  refine lv_aload_n hx hb dX3_add_37 rfl (lv_at hl 1 rfl) ?_
  refine lv_dup hx hb dX3_add_38 rfl ?_
  refine va_get (D := G.1) (ci := 6) (v := .int ((gw_up p2 1 2 ((p2 1 2) ||| ((1 : Int32) <<< ((σ 1 0) &&& 31)))) 1 0)) (C := RX3) (T := TX3) (N := 5) hx hb hts gx_X3 hown hT.2.1 hP 1 rfl rfl 0 (by decide) (hts _ gv_48) (fun _ h9 => h9) rfl dX3_add_39 ?_
  refine lv_iconst (v := 1) hx hb dX3_add_42 (by decide) ?_
  refine lv_iadd hx hb dX3_add_43 ?_
  refine va_put (D := G.1) (ci := 6) (v := .int (((gw_up p2 1 2 ((p2 1 2) ||| ((1 : Int32) <<< ((σ 1 0) &&& 31)))) 1 0) + (1 : Int32))) (ty := .int) (C := RX3) (T := TX3) (N := 5) hx hb hts gx_X3 tyX3 tyX3_ok nmX3 hown hT.2.1 hP (gw_D hT.1 s.heap.size _) hS 1 rfl rfl 0 (by decide) (hts _ gv_48) (fun _ h9 => h9) rfl gx_pI rfl rfl (Nat.le_of_ble_eq_true rfl) dX3_add_44 (fun H locs hP _ hS => ?_)
  have hP : gw_P G (gw_up (gw_up p2 1 2 ((p2 1 2) ||| ((1 : Int32) <<< ((σ 1 0) &&& 31)))) 1 0 (((gw_up p2 1 2 ((p2 1 2) ||| ((1 : Int32) <<< ((σ 1 0) &&& 31)))) 1 0) + (1 : Int32))) H := hP
  refine lv_aload_n hx hb dX3_add_47 rfl (lv_at hl 1 rfl) ?_
  refine lv_dup hx hb dX3_add_48 rfl ?_
  refine va_get (D := G.1) (ci := 6) (v := .int ((gw_up (gw_up p2 1 2 ((p2 1 2) ||| ((1 : Int32) <<< ((σ 1 0) &&& 31)))) 1 0 (((gw_up p2 1 2 ((p2 1 2) ||| ((1 : Int32) <<< ((σ 1 0) &&& 31)))) 1 0) + (1 : Int32))) 1 1)) (C := RX3) (T := TX3) (N := 5) hx hb hts gx_X3 hown hT.2.1 hP 1 rfl rfl 1 (by decide) (hts _ gv_49) (fun _ h9 => h9) rfl dX3_add_49 ?_
  refine lv_iconst (v := 1) hx hb dX3_add_52 (by decide) ?_
  refine lv_iadd hx hb dX3_add_53 ?_
  refine va_put (D := G.1) (ci := 6) (v := .int (((gw_up (gw_up p2 1 2 ((p2 1 2) ||| ((1 : Int32) <<< ((σ 1 0) &&& 31)))) 1 0 (((gw_up p2 1 2 ((p2 1 2) ||| ((1 : Int32) <<< ((σ 1 0) &&& 31)))) 1 0) + (1 : Int32))) 1 1) + (1 : Int32))) (ty := .int) (C := RX3) (T := TX3) (N := 5) hx hb hts gx_X3 tyX3 tyX3_ok nmX3 hown hT.2.1 hP (gw_D hT.1 s.heap.size _) hS 1 rfl rfl 1 (by decide) (hts _ gv_49) (fun _ h9 => h9) rfl gx_pI rfl rfl (Nat.le_of_ble_eq_true rfl) dX3_add_54 (fun H locs hP _ hS => ?_)
  have hP : gw_P G (gw_up (gw_up (gw_up p2 1 2 ((p2 1 2) ||| ((1 : Int32) <<< ((σ 1 0) &&& 31)))) 1 0 (((gw_up p2 1 2 ((p2 1 2) ||| ((1 : Int32) <<< ((σ 1 0) &&& 31)))) 1 0) + (1 : Int32))) 1 1 (((gw_up (gw_up p2 1 2 ((p2 1 2) ||| ((1 : Int32) <<< ((σ 1 0) &&& 31)))) 1 0 (((gw_up p2 1 2 ((p2 1 2) ||| ((1 : Int32) <<< ((σ 1 0) &&& 31)))) 1 0) + (1 : Int32))) 1 1) + (1 : Int32))) H := hP
  refine lv_iload_n hx hb dX3_add_57 rfl (lv_at hl 0 rfl) ?_
  exact gw_ri X hP hS h dX3_add_58
