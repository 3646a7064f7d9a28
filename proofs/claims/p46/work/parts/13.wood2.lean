theorem gv_217 : Cond.fieldLink RX8 37 "Genericwood" "valued" "LGenericwood$Way;" ∈ gw_L := gw_tab 217 (by decide +kernel) (by decide +kernel)
theorem gv_914 : Cond.code yX5_inside cX5_inside 3 (some .int) ∈ gw_L := gw_tab 914 (by decide +kernel) (by decide +kernel)
theorem gk_X5_inside : gw_K yX5_inside cX5_inside 3 (some .int) 2 := ⟨gv_914, gv_5, by decide +kernel, by decide +kernel⟩
theorem gv_909 : Cond.instanceMethod yX5_inside ∈ gw_L := gw_tab 909 (by decide +kernel) (by decide +kernel)
theorem gv_908 : Cond.methodLink RX8 201 ⟨"Genericwood$Way", "inside", "(II)I"⟩ ∈ gw_L := gw_tab 908 (by decide +kernel) (by decide +kernel)
theorem gv_910 : Cond.sameMethod "Genericwood$Way" "Genericwood$Way" "inside" "(II)I" ∈ gw_L := gw_tab 910 (by decide +kernel) (by decide +kernel)
theorem gv_912 : Cond.selects RX4 ⟨"Genericwood$Way", "inside", "(II)I"⟩ yX5_inside ∈ gw_L := gw_tab 912 (by decide +kernel) (by decide +kernel)
theorem gv_547 : Cond.code yX5_alike cX5_alike 3 (some .int) ∈ gw_L := gw_tab 547 (by decide +kernel) (by decide +kernel)
theorem gk_X5_alike : gw_K yX5_alike cX5_alike 3 (some .int) 2 := ⟨gv_547, gv_5, by decide +kernel, by decide +kernel⟩
theorem gv_542 : Cond.instanceMethod yX5_alike ∈ gw_L := gw_tab 542 (by decide +kernel) (by decide +kernel)
theorem gv_541 : Cond.methodLink RX8 207 ⟨"Genericwood$Way", "alike", "(II)I"⟩ ∈ gw_L := gw_tab 541 (by decide +kernel) (by decide +kernel)
theorem gv_543 : Cond.sameMethod "Genericwood$Way" "Genericwood$Way" "alike" "(II)I" ∈ gw_L := gw_tab 543 (by decide +kernel) (by decide +kernel)
theorem gv_545 : Cond.selects RX4 ⟨"Genericwood$Way", "alike", "(II)I"⟩ yX5_alike ∈ gw_L := gw_tab 545 (by decide +kernel) (by decide +kernel)
theorem gv_218 : Cond.fieldLink RX8 44 "Genericwood" "forced" "LGenericwood$Way;" ∈ gw_L := gw_tab 218 (by decide +kernel) (by decide +kernel)
theorem gv_911 : Cond.selects RX0 ⟨"Genericwood$Way", "inside", "(II)I"⟩ yX5_inside ∈ gw_L := gw_tab 911 (by decide +kernel) (by decide +kernel)
theorem gv_544 : Cond.selects RX0 ⟨"Genericwood$Way", "alike", "(II)I"⟩ yX5_alike ∈ gw_L := gw_tab 544 (by decide +kernel) (by decide +kernel)
theorem gv_947 : Cond.code yX2_draft cX2_draft 6 (some .int) ∈ gw_L := gw_tab 947 (by decide +kernel) (by decide +kernel)
theorem gk_X2_draft : gw_K yX2_draft cX2_draft 6 (some .int) 4 := ⟨gv_947, gv_3, by decide +kernel, by decide +kernel⟩
theorem gv_945 : Cond.instanceMethod yX2_draft ∈ gw_L := gw_tab 945 (by decide +kernel) (by decide +kernel)
theorem gv_944 : Cond.methodLink RX8 212 yX2_draft ∈ gw_L := gw_tab 944 (by decide +kernel) (by decide +kernel)
theorem gv_946 : Cond.selects RX2 yX2_draft yX2_draft ∈ gw_L := gw_tab 946 (by decide +kernel) (by decide +kernel)
theorem gv_962 : Cond.code yX2_addDraft cX2_addDraft 4 (some .int) ∈ gw_L := gw_tab 962 (by decide +kernel) (by decide +kernel)
theorem gk_X2_addDraft : gw_K yX2_addDraft cX2_addDraft 4 (some .int) 1 := ⟨gv_962, gv_3, by decide +kernel, by decide +kernel⟩
theorem gv_960 : Cond.instanceMethod yX2_addDraft ∈ gw_L := gw_tab 960 (by decide +kernel) (by decide +kernel)
theorem gv_959 : Cond.methodLink RX8 218 yX2_addDraft ∈ gw_L := gw_tab 959 (by decide +kernel) (by decide +kernel)
theorem gv_961 : Cond.selects RX2 yX2_addDraft yX2_addDraft ∈ gw_L := gw_tab 961 (by decide +kernel) (by decide +kernel)
theorem gv_974 : Cond.code yX8_needTerm cX8_needTerm 2 none ∈ gw_L := gw_tab 974 (by decide +kernel) (by decide +kernel)
theorem gk_X8_needTerm : gw_K yX8_needTerm cX8_needTerm 2 none 1 := ⟨gv_974, gv_1, by decide +kernel, by decide +kernel⟩
theorem gv_973 : Cond.instanceMethod yX8_needTerm ∈ gw_L := gw_tab 973 (by decide +kernel) (by decide +kernel)
theorem gv_971 : Cond.methodLink RX8 223 yX8_needTerm ∈ gw_L := gw_tab 971 (by decide +kernel) (by decide +kernel)
theorem gv_s18 : Cond.selects RX8 yX8_needTerm yX8_needTerm ∈ gw_L := gw_sel 18 (by decide +kernel) (by decide +kernel)
theorem gv_980 : Cond.code yX8_needRoomForFormula cX8_needRoomForFormula 1 none ∈ gw_L := gw_tab 980 (by decide +kernel) (by decide +kernel)
theorem gk_X8_needRoomForFormula : gw_K yX8_needRoomForFormula cX8_needRoomForFormula 1 none 0 := ⟨gv_980, gv_1, by decide +kernel, by decide +kernel⟩
theorem gv_979 : Cond.instanceMethod yX8_needRoomForFormula ∈ gw_L := gw_tab 979 (by decide +kernel) (by decide +kernel)
theorem gv_977 : Cond.methodLink RX8 226 yX8_needRoomForFormula ∈ gw_L := gw_tab 977 (by decide +kernel) (by decide +kernel)
theorem gv_s19 : Cond.selects RX8 yX8_needRoomForFormula yX8_needRoomForFormula ∈ gw_L := gw_sel 19 (by decide +kernel) (by decide +kernel)
theorem gv_982 : Cond.methodLink RX8 229 yX8_letterOf ∈ gw_L := gw_tab 982 (by decide +kernel) (by decide +kernel)
theorem gv_983 : Cond.static yX8_letterOf ∈ gw_L := gw_tab 983 (by decide +kernel) (by decide +kernel)
theorem gv_984 : Cond.code yX8_letterOf cX8_letterOf 1 (some .int) ∈ gw_L := gw_tab 984 (by decide +kernel) (by decide +kernel)
theorem gk_X8_letterOf : gw_K yX8_letterOf cX8_letterOf 1 (some .int) 1 := ⟨gv_984, gv_1, by decide +kernel, by decide +kernel⟩
theorem gv_988 : Cond.code yX1_add cX1_add 8 (some .int) ∈ gw_L := gw_tab 988 (by decide +kernel) (by decide +kernel)
theorem gk_X1_add : gw_K yX1_add cX1_add 8 (some .int) 6 := ⟨gv_988, gv_4, by decide +kernel, by decide +kernel⟩
theorem gv_986 : Cond.instanceMethod yX1_add ∈ gw_L := gw_tab 986 (by decide +kernel) (by decide +kernel)
theorem gv_985 : Cond.methodLink RX8 232 yX1_add ∈ gw_L := gw_tab 985 (by decide +kernel) (by decide +kernel)
theorem gv_987 : Cond.selects RX1 yX1_add yX1_add ∈ gw_L := gw_tab 987 (by decide +kernel) (by decide +kernel)
theorem gv_1006 : Cond.code yX1_depth cX1_depth 2 (some .int) ∈ gw_L := gw_tab 1006 (by decide +kernel) (by decide +kernel)
theorem gk_X1_depth : gw_K yX1_depth cX1_depth 2 (some .int) 1 := ⟨gv_1006, gv_4, by decide +kernel, by decide +kernel⟩
theorem gv_1004 : Cond.instanceMethod yX1_depth ∈ gw_L := gw_tab 1004 (by decide +kernel) (by decide +kernel)
theorem gv_1003 : Cond.methodLink RX8 238 yX1_depth ∈ gw_L := gw_tab 1003 (by decide +kernel) (by decide +kernel)
theorem gv_1005 : Cond.selects RX1 yX1_depth yX1_depth ∈ gw_L := gw_tab 1005 (by decide +kernel) (by decide +kernel)
theorem gv_1007 : Cond.methodLink RX8 241 Lib.Math.max.name ∈ gw_L := gw_tab 1007 (by decide +kernel) (by decide +kernel)
theorem gv_1008 : Cond.methodLink RX8 246 yX8_needDepth ∈ gw_L := gw_tab 1008 (by decide +kernel) (by decide +kernel)
theorem gv_1009 : Cond.static yX8_needDepth ∈ gw_L := gw_tab 1009 (by decide +kernel) (by decide +kernel)
theorem gv_1010 : Cond.code yX8_needDepth cX8_needDepth 1 none ∈ gw_L := gw_tab 1010 (by decide +kernel) (by decide +kernel)
theorem gk_X8_needDepth : gw_K yX8_needDepth cX8_needDepth 1 none 1 := ⟨gv_1010, gv_1, by decide +kernel, by decide +kernel⟩
theorem gv_1044 : Cond.code yX8_needClosed cX8_needClosed 2 none ∈ gw_L := gw_tab 1044 (by decide +kernel) (by decide +kernel)
theorem gk_X8_needClosed : gw_K yX8_needClosed cX8_needClosed 2 none 1 := ⟨gv_1044, gv_1, by decide +kernel, by decide +kernel⟩
theorem gv_1043 : Cond.instanceMethod yX8_needClosed ∈ gw_L := gw_tab 1043 (by decide +kernel) (by decide +kernel)
theorem gv_1041 : Cond.methodLink RX8 254 yX8_needClosed ∈ gw_L := gw_tab 1041 (by decide +kernel) (by decide +kernel)
theorem gv_s21 : Cond.selects RX8 yX8_needClosed yX8_needClosed ∈ gw_L := gw_sel 21 (by decide +kernel) (by decide +kernel)
theorem gv_343 : Cond.code yX5_judge cX5_judge 2 (some .int) ∈ gw_L := gw_tab 343 (by decide +kernel) (by decide +kernel)
theorem gk_X5_judge : gw_K yX5_judge cX5_judge 2 (some .int) 1 := ⟨gv_343, gv_5, by decide +kernel, by decide +kernel⟩
theorem gv_338 : Cond.instanceMethod yX5_judge ∈ gw_L := gw_tab 338 (by decide +kernel) (by decide +kernel)
theorem gv_337 : Cond.methodLink RX8 257 ⟨"Genericwood$Way", "judge", "(I)I"⟩ ∈ gw_L := gw_tab 337 (by decide +kernel) (by decide +kernel)
theorem gv_339 : Cond.sameMethod "Genericwood$Way" "Genericwood$Way" "judge" "(I)I" ∈ gw_L := gw_tab 339 (by decide +kernel) (by decide +kernel)
theorem gv_341 : Cond.selects RX4 ⟨"Genericwood$Way", "judge", "(I)I"⟩ yX5_judge ∈ gw_L := gw_tab 341 (by decide +kernel) (by decide +kernel)
theorem gv_340 : Cond.selects RX0 ⟨"Genericwood$Way", "judge", "(I)I"⟩ yX5_judge ∈ gw_L := gw_tab 340 (by decide +kernel) (by decide +kernel)
theorem gv_219 : Cond.fieldLink RX8 50 "Genericwood" "weak" "LGenericwood$Way;" ∈ gw_L := gw_tab 219 (by decide +kernel) (by decide +kernel)
theorem gv_342 : Cond.selects RX6 ⟨"Genericwood$Way", "judge", "(I)I"⟩ yX5_judge ∈ gw_L := gw_tab 342 (by decide +kernel) (by decide +kernel)
theorem gv_1067 : Cond.methodLink RX8 260 yX7_agrees ∈ gw_L := gw_tab 1067 (by decide +kernel) (by decide +kernel)
def f_X8_valueIn (a0 : Int32) (a1 : Int32) (σ : gw_S) : Option ((Int32 ⊕ String) × gw_S) := ((f_X8_needName a0 σ).bind fun q2 => gw_bx q2 fun u1 => ((f_X8_needName a1 u1).bind fun q4 => gw_bx q4 fun u3 => ((f_X5_inside_V a0 a1 u3).bind fun p5 => (some (Sum.inl p5.1, p5.2)))))
set_option maxHeartbeats 4000000 in
set_option maxRecDepth 100000 in
theorem gc_X8_valueIn (l : Launch) (hfl : l.stackTraces = false) (G : gw_G) (a0 : Int32) (a1 : Int32) (σ : gw_S) (o : ((Int32 ⊕ String) × gw_S)) (h : f_X8_valueIn a0 a1 σ = some o) : gw_N (fun sz => gw_xI G sz o) (fun sz => gw_XC G sz o) 2 l yX8_valueIn cX8_valueIn 3 (some .int) { frames := 7, cells := 2, slots := 12, locals := 134 } G [.ref (G.2.1 0), .int a0, .int a1] σ := by
  refine gw_enx (own := RX8) (lv := [(0, .ref (G.2.1 0)), (1, .int a0), (2, .int a1)]) (by decide +kernel) rfl (Nat.le_of_ble_eq_true rfl) rfl ?_
  intro p e s m below meth c ls X hl hP
  obtain ⟨hx, hb, hml, hown, hts, -, -, hT, hZ, -⟩ := id X
  have hS : va_S (gw_A G s.heap.size) s.heap s.heap [] := va_S.rf
  unfold f_X8_valueIn at h
  refine lv_aload_n hx hb dX8_valueIn_0 rfl (lv_at hl 0 rfl) ?_
  refine lv_iload_n hx hb dX8_valueIn_1 rfl (lv_at hl 1 rfl) ?_
  obtain ⟨q2, gq2, h⟩ := Option.bind_eq_some_iff.mp h
  refine gw_cx X h (gw_xV_ (C := RX8) X hP hS (gc_X8_needName l hfl G a0 σ _ gq2) gk_X8_needName gv_821 ⟨gv_823, gv_s15⟩ (va_recv hT.2.1 hP (ci := 10) (q0 := 0) rfl rfl) rfl rfl (Nat.le_of_ble_eq_true rfl) hl.1 ⟨rfl, rfl⟩ ⟨Nat.le_of_ble_eq_true rfl, Nat.le_of_ble_eq_true rfl⟩ ⟨Nat.le_of_ble_eq_true rfl, Nat.le_of_ble_eq_true rfl⟩ dX8_valueIn_2) hS (Nat.le_of_ble_eq_true rfl) (Nat.le_of_ble_eq_true rfl) (fun u1 H locs h hP hS => ?_)
  refine lv_aload_n hx hb dX8_valueIn_5 rfl (lv_at hl 0 rfl) ?_
  refine lv_iload_n hx hb dX8_valueIn_6 rfl (lv_at hl 2 rfl) ?_
  obtain ⟨q4, gq4, h⟩ := Option.bind_eq_some_iff.mp h
  refine gw_cx X h (gw_xV_ (C := RX8) X hP hS (gc_X8_needName l hfl G a1 u1 _ gq4) gk_X8_needName gv_821 ⟨gv_823, gv_s15⟩ (va_recv hT.2.1 hP (ci := 10) (q0 := 0) rfl rfl) rfl rfl (Nat.le_of_ble_eq_true rfl) hl.1 ⟨rfl, rfl⟩ ⟨Nat.le_of_ble_eq_true rfl, Nat.le_of_ble_eq_true rfl⟩ ⟨Nat.le_of_ble_eq_true rfl, Nat.le_of_ble_eq_true rfl⟩ dX8_valueIn_7) hS (Nat.le_of_ble_eq_true rfl) (Nat.le_of_ble_eq_true rfl) (fun u3 H locs h hP hS => ?_)
  refine lv_aload_n hx hb dX8_valueIn_10 rfl (lv_at hl 0 rfl) ?_
  refine va_get (D := G.1) (ci := 10) (v := .ref (G.2.1 18)) (C := RX8) (T := TX8) (N := 7) hx hb hts gx_X8 hown hT.2.1 hP 0 rfl rfl 3 (by decide) (hts _ gv_217) (fun _ h9 => h9) rfl dX8_valueIn_11 ?_
  refine lv_iload_n hx hb dX8_valueIn_14 rfl (lv_at hl 1 rfl) ?_
  refine lv_iload_n hx hb dX8_valueIn_15 rfl (lv_at hl 2 rfl) ?_
  obtain ⟨p5, gp5, h⟩ := Option.bind_eq_some_iff.mp h
  refine gw_ci (gw_rU (x := ⟨"Genericwood$Way", "inside", "(II)I"⟩) (owner := "Genericwood$Way") (C := RX4) X hP hS (gc_X5_inside_V l G a0 a1 u3 _ gp5) gk_X5_inside ⟨by decide +kernel, by decide +kernel⟩ gv_908 ⟨gv_910, gv_912, gv_909⟩ (va_Decl.of (hts _ gv_909) (hts _ gk_X5_inside.1)) (va_recv hT.2.1 hP (ci := 7) (q0 := 18) rfl rfl) rfl rfl (Nat.le_of_ble_eq_true rfl) hl.1 ⟨rfl, rfl⟩ ⟨Nat.le_of_ble_eq_true rfl, Nat.le_of_ble_eq_true rfl⟩ ⟨Nat.le_of_ble_eq_true rfl, Nat.le_of_ble_eq_true rfl⟩ dX8_valueIn_16) hS (fun H locs hP hS => ?_)
  exact gw_xri X hP hS (Nat.le_of_ble_eq_true rfl) (Nat.le_of_ble_eq_true rfl) h dX8_valueIn_19
def f_X8_valueLike (a0 : Int32) (a1 : Int32) (σ : gw_S) : Option ((Int32 ⊕ String) × gw_S) := ((f_X8_needName a0 σ).bind fun q2 => gw_bx q2 fun u1 => ((f_X8_needName a1 u1).bind fun q4 => gw_bx q4 fun u3 => ((f_X5_alike_V a0 a1 u3).bind fun p5 => (some (Sum.inl p5.1, p5.2)))))
set_option maxHeartbeats 4000000 in
set_option maxRecDepth 100000 in
theorem gc_X8_valueLike (l : Launch) (hfl : l.stackTraces = false) (G : gw_G) (a0 : Int32) (a1 : Int32) (σ : gw_S) (o : ((Int32 ⊕ String) × gw_S)) (h : f_X8_valueLike a0 a1 σ = some o) : gw_N (fun sz => gw_xI G sz o) (fun sz => gw_XC G sz o) 2 l yX8_valueLike cX8_valueLike 3 (some .int) { frames := 7, cells := 2, slots := 12, locals := 134 } G [.ref (G.2.1 0), .int a0, .int a1] σ := by
  refine gw_enx (own := RX8) (lv := [(0, .ref (G.2.1 0)), (1, .int a0), (2, .int a1)]) (by decide +kernel) rfl (Nat.le_of_ble_eq_true rfl) rfl ?_
  intro p e s m below meth c ls X hl hP
  obtain ⟨hx, hb, hml, hown, hts, -, -, hT, hZ, -⟩ := id X
  have hS : va_S (gw_A G s.heap.size) s.heap s.heap [] := va_S.rf
  unfold f_X8_valueLike at h
  refine lv_aload_n hx hb dX8_valueLike_0 rfl (lv_at hl 0 rfl) ?_
  refine lv_iload_n hx hb dX8_valueLike_1 rfl (lv_at hl 1 rfl) ?_
  obtain ⟨q2, gq2, h⟩ := Option.bind_eq_some_iff.mp h
  refine gw_cx X h (gw_xV_ (C := RX8) X hP hS (gc_X8_needName l hfl G a0 σ _ gq2) gk_X8_needName gv_821 ⟨gv_823, gv_s15⟩ (va_recv hT.2.1 hP (ci := 10) (q0 := 0) rfl rfl) rfl rfl (Nat.le_of_ble_eq_true rfl) hl.1 ⟨rfl, rfl⟩ ⟨Nat.le_of_ble_eq_true rfl, Nat.le_of_ble_eq_true rfl⟩ ⟨Nat.le_of_ble_eq_true rfl, Nat.le_of_ble_eq_true rfl⟩ dX8_valueLike_2) hS (Nat.le_of_ble_eq_true rfl) (Nat.le_of_ble_eq_true rfl) (fun u1 H locs h hP hS => ?_)
  refine lv_aload_n hx hb dX8_valueLike_5 rfl (lv_at hl 0 rfl) ?_
  refine lv_iload_n hx hb dX8_valueLike_6 rfl (lv_at hl 2 rfl) ?_
  obtain ⟨q4, gq4, h⟩ := Option.bind_eq_some_iff.mp h
  refine gw_cx X h (gw_xV_ (C := RX8) X hP hS (gc_X8_needName l hfl G a1 u1 _ gq4) gk_X8_needName gv_821 ⟨gv_823, gv_s15⟩ (va_recv hT.2.1 hP (ci := 10) (q0 := 0) rfl rfl) rfl rfl (Nat.le_of_ble_eq_true rfl) hl.1 ⟨rfl, rfl⟩ ⟨Nat.le_of_ble_eq_true rfl, Nat.le_of_ble_eq_true rfl⟩ ⟨Nat.le_of_ble_eq_true rfl, Nat.le_of_ble_eq_true rfl⟩ dX8_valueLike_7) hS (Nat.le_of_ble_eq_true rfl) (Nat.le_of_ble_eq_true rfl) (fun u3 H locs h hP hS => ?_)
  refine lv_aload_n hx hb dX8_valueLike_10 rfl (lv_at hl 0 rfl) ?_
  refine va_get (D := G.1) (ci := 10) (v := .ref (G.2.1 18)) (C := RX8) (T := TX8) (N := 7) hx hb hts gx_X8 hown hT.2.1 hP 0 rfl rfl 3 (by decide) (hts _ gv_217) (fun _ h9 => h9) rfl dX8_valueLike_11 ?_
  refine lv_iload_n hx hb dX8_valueLike_14 rfl (lv_at hl 1 rfl) ?_
  refine lv_iload_n hx hb dX8_valueLike_15 rfl (lv_at hl 2 rfl) ?_
  obtain ⟨p5, gp5, h⟩ := Option.bind_eq_some_iff.mp h
  refine gw_ci (gw_rU (x := ⟨"Genericwood$Way", "alike", "(II)I"⟩) (owner := "Genericwood$Way") (C := RX4) X hP hS (gc_X5_alike_V l G a0 a1 u3 _ gp5) gk_X5_alike ⟨by decide +kernel, by decide +kernel⟩ gv_541 ⟨gv_543, gv_545, gv_542⟩ (va_Decl.of (hts _ gv_542) (hts _ gk_X5_alike.1)) (va_recv hT.2.1 hP (ci := 7) (q0 := 18) rfl rfl) rfl rfl (Nat.le_of_ble_eq_true rfl) hl.1 ⟨rfl, rfl⟩ ⟨Nat.le_of_ble_eq_true rfl, Nat.le_of_ble_eq_true rfl⟩ ⟨Nat.le_of_ble_eq_true rfl, Nat.le_of_ble_eq_true rfl⟩ dX8_valueLike_16) hS (fun H locs hP hS => ?_)
  exact gw_xri X hP hS (Nat.le_of_ble_eq_true rfl) (Nat.le_of_ble_eq_true rfl) h dX8_valueLike_19
def f_X8_forcesIn (a0 : Int32) (a1 : Int32) (a2 : Int32) (σ : gw_S) : Option ((Int32 ⊕ String) × gw_S) := ((f_X8_needCondition a0 σ).bind fun q2 => gw_bx q2 fun u1 => ((f_X8_needName a1 u1).bind fun q4 => gw_bx q4 fun u3 => ((f_X8_needName a2 u3).bind fun q6 => gw_bx q6 fun u5 => ((f_X5_inside_F a1 a2 u5).bind fun p7 => ((f_X8_contains p7.1 a0 p7.2).bind fun p8 => (some (Sum.inl p8.1, p8.2)))))))
set_option maxHeartbeats 4000000 in
set_option maxRecDepth 100000 in
theorem gc_X8_forcesIn (l : Launch) (hfl : l.stackTraces = false) (G : gw_G) (a0 : Int32) (a1 : Int32) (a2 : Int32) (σ : gw_S) (o : ((Int32 ⊕ String) × gw_S)) (h : f_X8_forcesIn a0 a1 a2 σ = some o) : gw_N (fun sz => gw_xZ G sz o) (fun sz => gw_XC G sz o) 3 l yX8_forcesIn cX8_forcesIn 4 (some .boolean) { frames := 7, cells := 3, slots := 18, locals := 136 } G [.ref (G.2.1 0), .int a0, .int a1, .int a2] σ := by
  refine gw_enx (own := RX8) (lv := [(0, .ref (G.2.1 0)), (1, .int a0), (2, .int a1), (3, .int a2)]) (by decide +kernel) rfl (Nat.le_of_ble_eq_true rfl) rfl ?_
  intro p e s m below meth c ls X hl hP
  obtain ⟨hx, hb, hml, hown, hts, -, -, hT, hZ, -⟩ := id X
  have hS : va_S (gw_A G s.heap.size) s.heap s.heap [] := va_S.rf
  unfold f_X8_forcesIn at h
  refine lv_aload_n hx hb dX8_forcesIn_0 rfl (lv_at hl 0 rfl) ?_
  refine lv_iload_n hx hb dX8_forcesIn_1 rfl (lv_at hl 1 rfl) ?_
  obtain ⟨q2, gq2, h⟩ := Option.bind_eq_some_iff.mp h
  refine gw_cx X h (gw_xV_ (C := RX8) X hP hS (gc_X8_needCondition l hfl G a0 σ _ gq2) gk_X8_needCondition gv_645 ⟨gv_647, gv_s8⟩ (va_recv hT.2.1 hP (ci := 10) (q0 := 0) rfl rfl) rfl rfl (Nat.le_of_ble_eq_true rfl) hl.1 ⟨rfl, rfl⟩ ⟨Nat.le_of_ble_eq_true rfl, Nat.le_of_ble_eq_true rfl⟩ ⟨Nat.le_of_ble_eq_true rfl, Nat.le_of_ble_eq_true rfl⟩ dX8_forcesIn_2) hS (Nat.le_of_ble_eq_true rfl) (Nat.le_of_ble_eq_true rfl) (fun u1 H locs h hP hS => ?_)
  refine lv_aload_n hx hb dX8_forcesIn_5 rfl (lv_at hl 0 rfl) ?_
  refine lv_iload_n hx hb dX8_forcesIn_6 rfl (lv_at hl 2 rfl) ?_
  obtain ⟨q4, gq4, h⟩ := Option.bind_eq_some_iff.mp h
  refine gw_cx X h (gw_xV_ (C := RX8) X hP hS (gc_X8_needName l hfl G a1 u1 _ gq4) gk_X8_needName gv_821 ⟨gv_823, gv_s15⟩ (va_recv hT.2.1 hP (ci := 10) (q0 := 0) rfl rfl) rfl rfl (Nat.le_of_ble_eq_true rfl) hl.1 ⟨rfl, rfl⟩ ⟨Nat.le_of_ble_eq_true rfl, Nat.le_of_ble_eq_true rfl⟩ ⟨Nat.le_of_ble_eq_true rfl, Nat.le_of_ble_eq_true rfl⟩ dX8_forcesIn_7) hS (Nat.le_of_ble_eq_true rfl) (Nat.le_of_ble_eq_true rfl) (fun u3 H locs h hP hS => ?_)
  refine lv_aload_n hx hb dX8_forcesIn_10 rfl (lv_at hl 0 rfl) ?_
  refine lv_iload_n hx hb dX8_forcesIn_11 rfl (lv_at hl 3 rfl) ?_
  obtain ⟨q6, gq6, h⟩ := Option.bind_eq_some_iff.mp h
  refine gw_cx X h (gw_xV_ (C := RX8) X hP hS (gc_X8_needName l hfl G a2 u3 _ gq6) gk_X8_needName gv_821 ⟨gv_823, gv_s15⟩ (va_recv hT.2.1 hP (ci := 10) (q0 := 0) rfl rfl) rfl rfl (Nat.le_of_ble_eq_true rfl) hl.1 ⟨rfl, rfl⟩ ⟨Nat.le_of_ble_eq_true rfl, Nat.le_of_ble_eq_true rfl⟩ ⟨Nat.le_of_ble_eq_true rfl, Nat.le_of_ble_eq_true rfl⟩ dX8_forcesIn_12) hS (Nat.le_of_ble_eq_true rfl) (Nat.le_of_ble_eq_true rfl) (fun u5 H locs h hP hS => ?_)
  refine lv_aload_n hx hb dX8_forcesIn_15 rfl (lv_at hl 0 rfl) ?_
  refine va_get (D := G.1) (ci := 10) (v := .ref (G.2.1 22)) (C := RX8) (T := TX8) (N := 7) hx hb hts gx_X8 hown hT.2.1 hP 0 rfl rfl 4 (by decide) (hts _ gv_218) (fun _ h9 => h9) rfl dX8_forcesIn_16 ?_
  refine lv_iload_n hx hb dX8_forcesIn_19 rfl (lv_at hl 2 rfl) ?_
  refine lv_iload_n hx hb dX8_forcesIn_20 rfl (lv_at hl 3 rfl) ?_
  obtain ⟨p7, gp7, h⟩ := Option.bind_eq_some_iff.mp h
  refine gw_ci (gw_rU (x := ⟨"Genericwood$Way", "inside", "(II)I"⟩) (owner := "Genericwood$Way") (C := RX0) X hP hS (gc_X5_inside_F l G a1 a2 u5 _ gp7) gk_X5_inside ⟨by decide +kernel, by decide +kernel⟩ gv_908 ⟨gv_910, gv_911, gv_909⟩ (va_Decl.of (hts _ gv_909) (hts _ gk_X5_inside.1)) (va_recv hT.2.1 hP (ci := 3) (q0 := 22) rfl rfl) rfl rfl (Nat.le_of_ble_eq_true rfl) hl.1 ⟨rfl, rfl⟩ ⟨Nat.le_of_ble_eq_true rfl, Nat.le_of_ble_eq_true rfl⟩ ⟨Nat.le_of_ble_eq_true rfl, Nat.le_of_ble_eq_true rfl⟩ dX8_forcesIn_21) hS (fun H locs hP hS => ?_)
  refine lv_iload_n hx hb dX8_forcesIn_24 rfl (lv_at hl 1 rfl) ?_
  obtain ⟨p8, gp8, h⟩ := Option.bind_eq_some_iff.mp h
  refine gw_cz (gw_rS X hP hS (gc_X8_contains l G p7.1 a0 p7.2 _ gp8) gk_X8_contains gv_485 gv_278 rfl rfl (Nat.le_of_ble_eq_true rfl) hl.1 ⟨rfl, rfl⟩ ⟨Nat.le_of_ble_eq_true rfl, Nat.le_of_ble_eq_true rfl⟩ ⟨Nat.le_of_ble_eq_true rfl, Nat.le_of_ble_eq_true rfl⟩ dX8_forcesIn_25) hS (fun H locs hb_p8 hP hS => ?_)
  exact gw_xrz X hP hS hb_p8 (Nat.le_of_ble_eq_true rfl) (Nat.le_of_ble_eq_true rfl) h dX8_forcesIn_28
def f_X8_forcesLike (a0 : Int32) (a1 : Int32) (a2 : Int32) (σ : gw_S) : Option ((Int32 ⊕ String) × gw_S) := ((f_X8_needCondition a0 σ).bind fun q2 => gw_bx q2 fun u1 => ((f_X8_needName a1 u1).bind fun q4 => gw_bx q4 fun u3 => ((f_X8_needName a2 u3).bind fun q6 => gw_bx q6 fun u5 => ((f_X5_alike_F a1 a2 u5).bind fun p7 => ((f_X8_contains p7.1 a0 p7.2).bind fun p8 => (some (Sum.inl p8.1, p8.2)))))))
set_option maxHeartbeats 4000000 in
set_option maxRecDepth 100000 in
theorem gc_X8_forcesLike (l : Launch) (hfl : l.stackTraces = false) (G : gw_G) (a0 : Int32) (a1 : Int32) (a2 : Int32) (σ : gw_S) (o : ((Int32 ⊕ String) × gw_S)) (h : f_X8_forcesLike a0 a1 a2 σ = some o) : gw_N (fun sz => gw_xZ G sz o) (fun sz => gw_XC G sz o) 3 l yX8_forcesLike cX8_forcesLike 4 (some .boolean) { frames := 7, cells := 3, slots := 18, locals := 136 } G [.ref (G.2.1 0), .int a0, .int a1, .int a2] σ := by
  refine gw_enx (own := RX8) (lv := [(0, .ref (G.2.1 0)), (1, .int a0), (2, .int a1), (3, .int a2)]) (by decide +kernel) rfl (Nat.le_of_ble_eq_true rfl) rfl ?_
  intro p e s m below meth c ls X hl hP
  obtain ⟨hx, hb, hml, hown, hts, -, -, hT, hZ, -⟩ := id X
  have hS : va_S (gw_A G s.heap.size) s.heap s.heap [] := va_S.rf
  unfold f_X8_forcesLike at h
  refine lv_aload_n hx hb dX8_forcesLike_0 rfl (lv_at hl 0 rfl) ?_
  refine lv_iload_n hx hb dX8_forcesLike_1 rfl (lv_at hl 1 rfl) ?_
  obtain ⟨q2, gq2, h⟩ := Option.bind_eq_some_iff.mp h
  refine gw_cx X h (gw_xV_ (C := RX8) X hP hS (gc_X8_needCondition l hfl G a0 σ _ gq2) gk_X8_needCondition gv_645 ⟨gv_647, gv_s8⟩ (va_recv hT.2.1 hP (ci := 10) (q0 := 0) rfl rfl) rfl rfl (Nat.le_of_ble_eq_true rfl) hl.1 ⟨rfl, rfl⟩ ⟨Nat.le_of_ble_eq_true rfl, Nat.le_of_ble_eq_true rfl⟩ ⟨Nat.le_of_ble_eq_true rfl, Nat.le_of_ble_eq_true rfl⟩ dX8_forcesLike_2) hS (Nat.le_of_ble_eq_true rfl) (Nat.le_of_ble_eq_true rfl) (fun u1 H locs h hP hS => ?_)
  refine lv_aload_n hx hb dX8_forcesLike_5 rfl (lv_at hl 0 rfl) ?_
  refine lv_iload_n hx hb dX8_forcesLike_6 rfl (lv_at hl 2 rfl) ?_
  obtain ⟨q4, gq4, h⟩ := Option.bind_eq_some_iff.mp h
  refine gw_cx X h (gw_xV_ (C := RX8) X hP hS (gc_X8_needName l hfl G a1 u1 _ gq4) gk_X8_needName gv_821 ⟨gv_823, gv_s15⟩ (va_recv hT.2.1 hP (ci := 10) (q0 := 0) rfl rfl) rfl rfl (Nat.le_of_ble_eq_true rfl) hl.1 ⟨rfl, rfl⟩ ⟨Nat.le_of_ble_eq_true rfl, Nat.le_of_ble_eq_true rfl⟩ ⟨Nat.le_of_ble_eq_true rfl, Nat.le_of_ble_eq_true rfl⟩ dX8_forcesLike_7) hS (Nat.le_of_ble_eq_true rfl) (Nat.le_of_ble_eq_true rfl) (fun u3 H locs h hP hS => ?_)
  refine lv_aload_n hx hb dX8_forcesLike_10 rfl (lv_at hl 0 rfl) ?_
  refine lv_iload_n hx hb dX8_forcesLike_11 rfl (lv_at hl 3 rfl) ?_
  obtain ⟨q6, gq6, h⟩ := Option.bind_eq_some_iff.mp h
  refine gw_cx X h (gw_xV_ (C := RX8) X hP hS (gc_X8_needName l hfl G a2 u3 _ gq6) gk_X8_needName gv_821 ⟨gv_823, gv_s15⟩ (va_recv hT.2.1 hP (ci := 10) (q0 := 0) rfl rfl) rfl rfl (Nat.le_of_ble_eq_true rfl) hl.1 ⟨rfl, rfl⟩ ⟨Nat.le_of_ble_eq_true rfl, Nat.le_of_ble_eq_true rfl⟩ ⟨Nat.le_of_ble_eq_true rfl, Nat.le_of_ble_eq_true rfl⟩ dX8_forcesLike_12) hS (Nat.le_of_ble_eq_true rfl) (Nat.le_of_ble_eq_true rfl) (fun u5 H locs h hP hS => ?_)
  refine lv_aload_n hx hb dX8_forcesLike_15 rfl (lv_at hl 0 rfl) ?_
  refine va_get (D := G.1) (ci := 10) (v := .ref (G.2.1 22)) (C := RX8) (T := TX8) (N := 7) hx hb hts gx_X8 hown hT.2.1 hP 0 rfl rfl 4 (by decide) (hts _ gv_218) (fun _ h9 => h9) rfl dX8_forcesLike_16 ?_
  refine lv_iload_n hx hb dX8_forcesLike_19 rfl (lv_at hl 2 rfl) ?_
  refine lv_iload_n hx hb dX8_forcesLike_20 rfl (lv_at hl 3 rfl) ?_
  obtain ⟨p7, gp7, h⟩ := Option.bind_eq_some_iff.mp h
  refine gw_ci (gw_rU (x := ⟨"Genericwood$Way", "alike", "(II)I"⟩) (owner := "Genericwood$Way") (C := RX0) X hP hS (gc_X5_alike_F l G a1 a2 u5 _ gp7) gk_X5_alike ⟨by decide +kernel, by decide +kernel⟩ gv_541 ⟨gv_543, gv_544, gv_542⟩ (va_Decl.of (hts _ gv_542) (hts _ gk_X5_alike.1)) (va_recv hT.2.1 hP (ci := 3) (q0 := 22) rfl rfl) rfl rfl (Nat.le_of_ble_eq_true rfl) hl.1 ⟨rfl, rfl⟩ ⟨Nat.le_of_ble_eq_true rfl, Nat.le_of_ble_eq_true rfl⟩ ⟨Nat.le_of_ble_eq_true rfl, Nat.le_of_ble_eq_true rfl⟩ dX8_forcesLike_21) hS (fun H locs hP hS => ?_)
  refine lv_iload_n hx hb dX8_forcesLike_24 rfl (lv_at hl 1 rfl) ?_
  obtain ⟨p8, gp8, h⟩ := Option.bind_eq_some_iff.mp h
  refine gw_cz (gw_rS X hP hS (gc_X8_contains l G p7.1 a0 p7.2 _ gp8) gk_X8_contains gv_485 gv_278 rfl rfl (Nat.le_of_ble_eq_true rfl) hl.1 ⟨rfl, rfl⟩ ⟨Nat.le_of_ble_eq_true rfl, Nat.le_of_ble_eq_true rfl⟩ ⟨Nat.le_of_ble_eq_true rfl, Nat.le_of_ble_eq_true rfl⟩ dX8_forcesLike_25) hS (fun H locs hb_p8 hP hS => ?_)
  exact gw_xrz X hP hS hb_p8 (Nat.le_of_ble_eq_true rfl) (Nat.le_of_ble_eq_true rfl) h dX8_forcesLike_28
def f_X8_mix (a0 : Int32) (a1 : Int32) (a2 : Int32) (a3 : Int32) (σ : gw_S) : Option ((Int32 ⊕ String) × gw_S) := ((f_X8_needName a0 σ).bind fun q2 => gw_bx q2 fun u1 => ((f_X8_needCondition a1 u1).bind fun q4 => gw_bx q4 fun u3 => ((f_X8_needName a2 u3).bind fun q6 => gw_bx q6 fun u5 => ((f_X8_needCondition a3 u5).bind fun q8 => gw_bx q8 fun u7 => ((f_X3_agree a1 a3 u7).bind fun p9 => (if p9.1 = 0 then ((f_X2_draft a0 a1 a2 a3 p9.2).bind fun p10 => (if p10.1 ≤ (4 : Int32) then ((f_X8_needRoomForNames (1 : Int32) p10.2).bind fun q12 => gw_bx q12 fun u11 => ((f_X2_addDraft p10.1 u11).bind fun p13 => (some (Sum.inl p13.1, p13.2)))) else (some (Sum.inr "java/lang/UnsupportedOperationException", p10.2)))) else (some (Sum.inr "java/lang/UnsupportedOperationException", p9.2))))))))
set_option maxHeartbeats 4000000 in
set_option maxRecDepth 100000 in
theorem gc_X8_mix (l : Launch) (hfl : l.stackTraces = false) (G : gw_G) (a0 : Int32) (a1 : Int32) (a2 : Int32) (a3 : Int32) (σ : gw_S) (o : ((Int32 ⊕ String) × gw_S)) (h : f_X8_mix a0 a1 a2 a3 σ = some o) : gw_N (fun sz => gw_xI G sz o) (fun sz => gw_XC G sz o) 5 l yX8_mix cX8_mix 6 (some .int) { frames := 7, cells := 5, slots := 30, locals := 136 } G [.ref (G.2.1 0), .int a0, .int a1, .int a2, .int a3] σ := by
  refine gw_enx (own := RX8) (lv := [(0, .ref (G.2.1 0)), (1, .int a0), (2, .int a1), (3, .int a2), (4, .int a3)]) (by decide +kernel) rfl (Nat.le_of_ble_eq_true rfl) rfl ?_
  intro p e s m below meth c ls X hl hP
  obtain ⟨hx, hb, hml, hown, hts, -, -, hT, hZ, -⟩ := id X
  have hS : va_S (gw_A G s.heap.size) s.heap s.heap [] := va_S.rf
  unfold f_X8_mix at h
  refine lv_aload_n hx hb dX8_mix_0 rfl (lv_at hl 0 rfl) ?_
  refine lv_iload_n hx hb dX8_mix_1 rfl (lv_at hl 1 rfl) ?_
  obtain ⟨q2, gq2, h⟩ := Option.bind_eq_some_iff.mp h
  refine gw_cx X h (gw_xV_ (C := RX8) X hP hS (gc_X8_needName l hfl G a0 σ _ gq2) gk_X8_needName gv_821 ⟨gv_823, gv_s15⟩ (va_recv hT.2.1 hP (ci := 10) (q0 := 0) rfl rfl) rfl rfl (Nat.le_of_ble_eq_true rfl) hl.1 ⟨rfl, rfl⟩ ⟨Nat.le_of_ble_eq_true rfl, Nat.le_of_ble_eq_true rfl⟩ ⟨Nat.le_of_ble_eq_true rfl, Nat.le_of_ble_eq_true rfl⟩ dX8_mix_2) hS (Nat.le_of_ble_eq_true rfl) (Nat.le_of_ble_eq_true rfl) (fun u1 H locs h hP hS => ?_)
  refine lv_aload_n hx hb dX8_mix_5 rfl (lv_at hl 0 rfl) ?_
  refine lv_iload_n hx hb dX8_mix_6 rfl (lv_at hl 2 rfl) ?_
  obtain ⟨q4, gq4, h⟩ := Option.bind_eq_some_iff.mp h
  refine gw_cx X h (gw_xV_ (C := RX8) X hP hS (gc_X8_needCondition l hfl G a1 u1 _ gq4) gk_X8_needCondition gv_645 ⟨gv_647, gv_s8⟩ (va_recv hT.2.1 hP (ci := 10) (q0 := 0) rfl rfl) rfl rfl (Nat.le_of_ble_eq_true rfl) hl.1 ⟨rfl, rfl⟩ ⟨Nat.le_of_ble_eq_true rfl, Nat.le_of_ble_eq_true rfl⟩ ⟨Nat.le_of_ble_eq_true rfl, Nat.le_of_ble_eq_true rfl⟩ dX8_mix_7) hS (Nat.le_of_ble_eq_true rfl) (Nat.le_of_ble_eq_true rfl) (fun u3 H locs h hP hS => ?_)
  refine lv_aload_n hx hb dX8_mix_10 rfl (lv_at hl 0 rfl) ?_
  refine lv_iload_n hx hb dX8_mix_11 rfl (lv_at hl 3 rfl) ?_
  obtain ⟨q6, gq6, h⟩ := Option.bind_eq_some_iff.mp h
  refine gw_cx X h (gw_xV_ (C := RX8) X hP hS (gc_X8_needName l hfl G a2 u3 _ gq6) gk_X8_needName gv_821 ⟨gv_823, gv_s15⟩ (va_recv hT.2.1 hP (ci := 10) (q0 := 0) rfl rfl) rfl rfl (Nat.le_of_ble_eq_true rfl) hl.1 ⟨rfl, rfl⟩ ⟨Nat.le_of_ble_eq_true rfl, Nat.le_of_ble_eq_true rfl⟩ ⟨Nat.le_of_ble_eq_true rfl, Nat.le_of_ble_eq_true rfl⟩ dX8_mix_12) hS (Nat.le_of_ble_eq_true rfl) (Nat.le_of_ble_eq_true rfl) (fun u5 H locs h hP hS => ?_)
  refine lv_aload_n hx hb dX8_mix_15 rfl (lv_at hl 0 rfl) ?_
  refine lv_iload hx hb dX8_mix_16 (lv_at hl 4 rfl) ?_
  obtain ⟨q8, gq8, h⟩ := Option.bind_eq_some_iff.mp h
  refine gw_cx X h (gw_xV_ (C := RX8) X hP hS (gc_X8_needCondition l hfl G a3 u5 _ gq8) gk_X8_needCondition gv_645 ⟨gv_647, gv_s8⟩ (va_recv hT.2.1 hP (ci := 10) (q0 := 0) rfl rfl) rfl rfl (Nat.le_of_ble_eq_true rfl) hl.1 ⟨rfl, rfl⟩ ⟨Nat.le_of_ble_eq_true rfl, Nat.le_of_ble_eq_true rfl⟩ ⟨Nat.le_of_ble_eq_true rfl, Nat.le_of_ble_eq_true rfl⟩ dX8_mix_18) hS (Nat.le_of_ble_eq_true rfl) (Nat.le_of_ble_eq_true rfl) (fun u7 H locs h hP hS => ?_)
  refine lv_aload_n hx hb dX8_mix_21 rfl (lv_at hl 0 rfl) ?_
  refine va_get (D := G.1) (ci := 10) (v := .ref (G.2.1 1)) (C := RX8) (T := TX8) (N := 7) hx hb hts gx_X8 hown hT.2.1 hP 0 rfl rfl 0 (by decide) (hts _ gv_214) (fun _ h9 => h9) rfl dX8_mix_22 ?_
  refine lv_iload_n hx hb dX8_mix_25 rfl (lv_at hl 2 rfl) ?_
  refine lv_iload hx hb dX8_mix_26 (lv_at hl 4 rfl) ?_
  obtain ⟨p9, gp9, h⟩ := Option.bind_eq_some_iff.mp h
  refine gw_cz (gw_rV (C := RX3) X hP hS (gc_X3_agree l G a1 a3 u7 _ gp9) gk_X3_agree gv_284 ⟨gv_285, gv_286⟩ (va_recv hT.2.1 hP (ci := 6) (q0 := 1) rfl rfl) rfl rfl (Nat.le_of_ble_eq_true rfl) hl.1 ⟨rfl, rfl⟩ ⟨Nat.le_of_ble_eq_true rfl, Nat.le_of_ble_eq_true rfl⟩ ⟨Nat.le_of_ble_eq_true rfl, Nat.le_of_ble_eq_true rfl⟩ dX8_mix_28) hS (fun H locs hb_p9 hP hS => ?_)
  refine lv_if_eq (tgt := 44) hx hb dX8_mix_31 (by decide) (fun c => ?_) (fun c => ?_)
  · have h := (if_pos c).symm.trans h
    refine lv_aload_n hx hb dX8_mix_44 rfl (lv_at hl 0 rfl) ?_
    refine va_get (D := G.1) (ci := 10) (v := .ref (G.2.1 4)) (C := RX8) (T := TX8) (N := 7) hx hb hts gx_X8 hown hT.2.1 hP 0 rfl rfl 1 (by decide) (hts _ gv_215) (fun _ h9 => h9) rfl dX8_mix_45 ?_
    refine lv_iload_n hx hb dX8_mix_48 rfl (lv_at hl 1 rfl) ?_
    refine lv_iload_n hx hb dX8_mix_49 rfl (lv_at hl 2 rfl) ?_
    refine lv_iload_n hx hb dX8_mix_50 rfl (lv_at hl 3 rfl) ?_
    refine lv_iload hx hb dX8_mix_51 (lv_at hl 4 rfl) ?_
    obtain ⟨p10, gp10, h⟩ := Option.bind_eq_some_iff.mp h
    refine gw_ci (gw_rV (C := RX2) X hP hS (gc_X2_draft l G a0 a1 a2 a3 p9.2 _ gp10) gk_X2_draft gv_944 ⟨gv_945, gv_946⟩ (va_recv hT.2.1 hP (ci := 5) (q0 := 4) rfl rfl) rfl rfl (Nat.le_of_ble_eq_true rfl) hl.1 ⟨rfl, rfl⟩ ⟨Nat.le_of_ble_eq_true rfl, Nat.le_of_ble_eq_true rfl⟩ ⟨Nat.le_of_ble_eq_true rfl, Nat.le_of_ble_eq_true rfl⟩ dX8_mix_53) hS (fun H locs hP hS => ?_)
    refine lv_istore (lv' := [(5, .int p10.1), (0, .ref (G.2.1 0)), (1, .int a0), (2, .int a1), (3, .int a2), (4, .int a3)]) hx hb dX8_mix_56 hl (by decide) rfl (fun ls hl => ?_)
    refine lv_iload hx hb dX8_mix_58 (lv_at hl 0 rfl) ?_
    refine lv_iconst (v := 4) hx hb dX8_mix_60 (by decide) ?_
    refine lv_icmp_le (tgt := 74) hx hb dX8_mix_61 (by decide) (fun c => ?_) (fun c => ?_)
    · have h := (if_pos c).symm.trans h
      refine lv_aload_n hx hb dX8_mix_74 rfl (lv_at hl 1 rfl) ?_
      refine lv_iconst (v := 1) hx hb dX8_mix_75 (by decide) ?_
      obtain ⟨q12, gq12, h⟩ := Option.bind_eq_some_iff.mp h
      refine gw_cx X h (gw_xV_ (C := RX8) X hP hS (gc_X8_needRoomForNames l hfl G (1 : Int32) p10.2 _ gq12) gk_X8_needRoomForNames gv_793 ⟨gv_795, gv_s12⟩ (va_recv hT.2.1 hP (ci := 10) (q0 := 0) rfl rfl) rfl rfl (Nat.le_of_ble_eq_true rfl) hl.1 ⟨rfl, rfl⟩ ⟨Nat.le_of_ble_eq_true rfl, Nat.le_of_ble_eq_true rfl⟩ ⟨Nat.le_of_ble_eq_true rfl, Nat.le_of_ble_eq_true rfl⟩ dX8_mix_76) hS (Nat.le_of_ble_eq_true rfl) (Nat.le_of_ble_eq_true rfl) (fun u11 H locs h hP hS => ?_)
      refine lv_aload_n hx hb dX8_mix_79 rfl (lv_at hl 1 rfl) ?_
      refine va_get (D := G.1) (ci := 10) (v := .ref (G.2.1 4)) (C := RX8) (T := TX8) (N := 7) hx hb hts gx_X8 hown hT.2.1 hP 0 rfl rfl 1 (by decide) (hts _ gv_215) (fun _ h9 => h9) rfl dX8_mix_80 ?_
      refine lv_iload hx hb dX8_mix_83 (lv_at hl 0 rfl) ?_
      obtain ⟨p13, gp13, h⟩ := Option.bind_eq_some_iff.mp h
      refine gw_ci (gw_rV (C := RX2) X hP hS (gc_X2_addDraft l G p10.1 u11 _ gp13) gk_X2_addDraft gv_959 ⟨gv_960, gv_961⟩ (va_recv hT.2.1 hP (ci := 5) (q0 := 4) rfl rfl) rfl rfl (Nat.le_of_ble_eq_true rfl) hl.1 ⟨rfl, rfl⟩ ⟨Nat.le_of_ble_eq_true rfl, Nat.le_of_ble_eq_true rfl⟩ ⟨Nat.le_of_ble_eq_true rfl, Nat.le_of_ble_eq_true rfl⟩ dX8_mix_85) hS (fun H locs hP hS => ?_)
      exact gw_xri X hP hS (Nat.le_of_ble_eq_true rfl) (Nat.le_of_ble_eq_true rfl) h dX8_mix_88
    · have h := (if_neg c).symm.trans h
      exact gw_thr X hP hS hfl ge_X8_82_86 (i := 14) rfl h hl.1 dX8_mix_64 dX8_mix_67 dX8_mix_68 dX8_mix_70 dX8_mix_73 ⟨Nat.le_of_ble_eq_true rfl, Nat.le_of_ble_eq_true rfl⟩ ⟨Nat.le_of_ble_eq_true rfl, Nat.le_of_ble_eq_true rfl⟩ (Nat.le_of_ble_eq_true rfl) (Nat.le_of_ble_eq_true rfl)
  · have h := (if_neg c).symm.trans h
    exact gw_thr X hP hS hfl ge_X8_82_86 (i := 13) rfl h hl.1 dX8_mix_34 dX8_mix_37 dX8_mix_38 dX8_mix_40 dX8_mix_43 ⟨Nat.le_of_ble_eq_true rfl, Nat.le_of_ble_eq_true rfl⟩ ⟨Nat.le_of_ble_eq_true rfl, Nat.le_of_ble_eq_true rfl⟩ (Nat.le_of_ble_eq_true rfl) (Nat.le_of_ble_eq_true rfl)
def f_X8_atom (a0 : Int32) (a1 : Int32) (a2 : Int32) (σ : gw_S) : Option ((Int32 ⊕ String) × gw_S) := (if a0 = (101 : Int32) then ((f_X8_needTerm a1 σ).bind fun q2 => gw_bx q2 fun u1 => ((f_X8_needTerm a2 u1).bind fun q4 => gw_bx q4 fun u3 => ((f_X8_needRoomForFormula  u3).bind fun q6 => gw_bx q6 fun u5 => ((f_X8_letterOf a1 u5).bind fun p7 => ((f_X8_letterOf a2 p7.2).bind fun p8 => ((f_X1_add a0 a1 a2 (-1 : Int32) (1 : Int32) (p7.1 ||| p8.1) p8.2).bind fun p9 => (some (Sum.inl p9.1, p9.2)))))))) else (if a0 = (61 : Int32) then ((f_X8_needTerm a1 σ).bind fun q11 => gw_bx q11 fun u10 => ((f_X8_needTerm a2 u10).bind fun q13 => gw_bx q13 fun u12 => ((f_X8_needRoomForFormula  u12).bind fun q15 => gw_bx q15 fun u14 => ((f_X8_letterOf a1 u14).bind fun p16 => ((f_X8_letterOf a2 p16.2).bind fun p17 => ((f_X1_add a0 a1 a2 (-1 : Int32) (1 : Int32) (p16.1 ||| p17.1) p17.2).bind fun p18 => (some (Sum.inl p18.1, p18.2)))))))) else (some (Sum.inr "java/lang/IllegalArgumentException", σ))))
set_option maxHeartbeats 4000000 in
set_option maxRecDepth 100000 in
theorem gc_X8_atom (l : Launch) (hfl : l.stackTraces = false) (G : gw_G) (a0 : Int32) (a1 : Int32) (a2 : Int32) (σ : gw_S) (o : ((Int32 ⊕ String) × gw_S)) (h : f_X8_atom a0 a1 a2 σ = some o) : gw_N (fun sz => gw_xI G sz o) (fun sz => gw_XC G sz o) 3 l yX8_atom cX8_atom 4 (some .int) { frames := 7, cells := 3, slots := 18, locals := 103 } G [.ref (G.2.1 0), .int a0, .int a1, .int a2] σ := by
  refine gw_enx (own := RX8) (lv := [(0, .ref (G.2.1 0)), (1, .int a0), (2, .int a1), (3, .int a2)]) (by decide +kernel) rfl (Nat.le_of_ble_eq_true rfl) rfl ?_
  intro p e s m below meth c ls X hl hP
  obtain ⟨hx, hb, hml, hown, hts, -, -, hT, hZ, -⟩ := id X
  have hS : va_S (gw_A G s.heap.size) s.heap s.heap [] := va_S.rf
  unfold f_X8_atom at h
  refine lv_iload_n hx hb dX8_atom_0 rfl (lv_at hl 1 rfl) ?_
  refine lv_bipush (v := 101) hx hb dX8_atom_1 (by decide) ?_
  refine lv_icmp_eq (tgt := 22) hx hb dX8_atom_3 (by decide) (fun c => ?_) (fun c => ?_)
  · have h := (if_pos c).symm.trans h
    refine lv_aload_n hx hb dX8_atom_22 rfl (lv_at hl 0 rfl) ?_
    refine lv_iload_n hx hb dX8_atom_23 rfl (lv_at hl 2 rfl) ?_
    obtain ⟨q2, gq2, h⟩ := Option.bind_eq_some_iff.mp h
    refine gw_cx X h (gw_xV_ (C := RX8) X hP hS (gc_X8_needTerm l hfl G a1 σ _ gq2) gk_X8_needTerm gv_971 ⟨gv_973, gv_s18⟩ (va_recv hT.2.1 hP (ci := 10) (q0 := 0) rfl rfl) rfl rfl (Nat.le_of_ble_eq_true rfl) hl.1 ⟨rfl, rfl⟩ ⟨Nat.le_of_ble_eq_true rfl, Nat.le_of_ble_eq_true rfl⟩ ⟨Nat.le_of_ble_eq_true rfl, Nat.le_of_ble_eq_true rfl⟩ dX8_atom_24) hS (Nat.le_of_ble_eq_true rfl) (Nat.le_of_ble_eq_true rfl) (fun u1 H locs h hP hS => ?_)
    refine lv_aload_n hx hb dX8_atom_27 rfl (lv_at hl 0 rfl) ?_
    refine lv_iload_n hx hb dX8_atom_28 rfl (lv_at hl 3 rfl) ?_
    obtain ⟨q4, gq4, h⟩ := Option.bind_eq_some_iff.mp h
    refine gw_cx X h (gw_xV_ (C := RX8) X hP hS (gc_X8_needTerm l hfl G a2 u1 _ gq4) gk_X8_needTerm gv_971 ⟨gv_973, gv_s18⟩ (va_recv hT.2.1 hP (ci := 10) (q0 := 0) rfl rfl) rfl rfl (Nat.le_of_ble_eq_true rfl) hl.1 ⟨rfl, rfl⟩ ⟨Nat.le_of_ble_eq_true rfl, Nat.le_of_ble_eq_true rfl⟩ ⟨Nat.le_of_ble_eq_true rfl, Nat.le_of_ble_eq_true rfl⟩ dX8_atom_29) hS (Nat.le_of_ble_eq_true rfl) (Nat.le_of_ble_eq_true rfl) (fun u3 H locs h hP hS => ?_)
    refine lv_aload_n hx hb dX8_atom_32 rfl (lv_at hl 0 rfl) ?_
    obtain ⟨q6, gq6, h⟩ := Option.bind_eq_some_iff.mp h
    refine gw_cx X h (gw_xV_ (C := RX8) X hP hS (gc_X8_needRoomForFormula l hfl G  u3 _ gq6) gk_X8_needRoomForFormula gv_977 ⟨gv_979, gv_s19⟩ (va_recv hT.2.1 hP (ci := 10) (q0 := 0) rfl rfl) rfl rfl (Nat.le_of_ble_eq_true rfl) hl.1 ⟨rfl, rfl⟩ ⟨Nat.le_of_ble_eq_true rfl, Nat.le_of_ble_eq_true rfl⟩ ⟨Nat.le_of_ble_eq_true rfl, Nat.le_of_ble_eq_true rfl⟩ dX8_atom_33) hS (Nat.le_of_ble_eq_true rfl) (Nat.le_of_ble_eq_true rfl) (fun u5 H locs h hP hS => ?_)
    refine lv_aload_n hx hb dX8_atom_36 rfl (lv_at hl 0 rfl) ?_
    refine va_get (D := G.1) (ci := 10) (v := .ref (G.2.1 11)) (C := RX8) (T := TX8) (N := 7) hx hb hts gx_X8 hown hT.2.1 hP 0 rfl rfl 2 (by decide) (hts _ gv_216) (fun _ h9 => h9) rfl dX8_atom_37 ?_
    refine lv_iload_n hx hb dX8_atom_40 rfl (lv_at hl 1 rfl) ?_
    refine lv_iload_n hx hb dX8_atom_41 rfl (lv_at hl 2 rfl) ?_
    refine lv_iload_n hx hb dX8_atom_42 rfl (lv_at hl 3 rfl) ?_
    refine lv_iconst (v := -1) hx hb dX8_atom_43 (by decide) ?_
    refine lv_iconst (v := 1) hx hb dX8_atom_44 (by decide) ?_
    refine lv_iload_n hx hb dX8_atom_45 rfl (lv_at hl 2 rfl) ?_
    obtain ⟨p7, gp7, h⟩ := Option.bind_eq_some_iff.mp h
    refine gw_ci (gw_rS X hP hS (gc_X8_letterOf l G a1 u5 _ gp7) gk_X8_letterOf gv_982 gv_983 rfl rfl (Nat.le_of_ble_eq_true rfl) hl.1 ⟨rfl, rfl⟩ ⟨Nat.le_of_ble_eq_true rfl, Nat.le_of_ble_eq_true rfl⟩ ⟨Nat.le_of_ble_eq_true rfl, Nat.le_of_ble_eq_true rfl⟩ dX8_atom_46) hS (fun H locs hP hS => ?_)
    refine lv_iload_n hx hb dX8_atom_49 rfl (lv_at hl 3 rfl) ?_
    obtain ⟨p8, gp8, h⟩ := Option.bind_eq_some_iff.mp h
    refine gw_ci (gw_rS X hP hS (gc_X8_letterOf l G a2 p7.2 _ gp8) gk_X8_letterOf gv_982 gv_983 rfl rfl (Nat.le_of_ble_eq_true rfl) hl.1 ⟨rfl, rfl⟩ ⟨Nat.le_of_ble_eq_true rfl, Nat.le_of_ble_eq_true rfl⟩ ⟨Nat.le_of_ble_eq_true rfl, Nat.le_of_ble_eq_true rfl⟩ dX8_atom_50) hS (fun H locs hP hS => ?_)
    refine lv_ior hx hb dX8_atom_53 ?_
    obtain ⟨p9, gp9, h⟩ := Option.bind_eq_some_iff.mp h
    refine gw_ci (gw_rV (C := RX1) X hP hS (gc_X1_add l G a0 a1 a2 (-1 : Int32) (1 : Int32) (p7.1 ||| p8.1) p8.2 _ gp9) gk_X1_add gv_985 ⟨gv_986, gv_987⟩ (va_recv hT.2.1 hP (ci := 4) (q0 := 11) rfl rfl) rfl rfl (Nat.le_of_ble_eq_true rfl) hl.1 ⟨rfl, rfl⟩ ⟨Nat.le_of_ble_eq_true rfl, Nat.le_of_ble_eq_true rfl⟩ ⟨Nat.le_of_ble_eq_true rfl, Nat.le_of_ble_eq_true rfl⟩ dX8_atom_54) hS (fun H locs hP hS => ?_)
    exact gw_xri X hP hS (Nat.le_of_ble_eq_true rfl) (Nat.le_of_ble_eq_true rfl) h dX8_atom_57
  · have h := (if_neg c).symm.trans h
    refine lv_iload_n hx hb dX8_atom_6 rfl (lv_at hl 1 rfl) ?_
    refine lv_bipush (v := 61) hx hb dX8_atom_7 (by decide) ?_
    refine lv_icmp_eq (tgt := 22) hx hb dX8_atom_9 (by decide) (fun c => ?_) (fun c => ?_)
    · have h := (if_pos c).symm.trans h
      refine lv_aload_n hx hb dX8_atom_22 rfl (lv_at hl 0 rfl) ?_
      refine lv_iload_n hx hb dX8_atom_23 rfl (lv_at hl 2 rfl) ?_
      obtain ⟨q11, gq11, h⟩ := Option.bind_eq_some_iff.mp h
      refine gw_cx X h (gw_xV_ (C := RX8) X hP hS (gc_X8_needTerm l hfl G a1 σ _ gq11) gk_X8_needTerm gv_971 ⟨gv_973, gv_s18⟩ (va_recv hT.2.1 hP (ci := 10) (q0 := 0) rfl rfl) rfl rfl (Nat.le_of_ble_eq_true rfl) hl.1 ⟨rfl, rfl⟩ ⟨Nat.le_of_ble_eq_true rfl, Nat.le_of_ble_eq_true rfl⟩ ⟨Nat.le_of_ble_eq_true rfl, Nat.le_of_ble_eq_true rfl⟩ dX8_atom_24) hS (Nat.le_of_ble_eq_true rfl) (Nat.le_of_ble_eq_true rfl) (fun u10 H locs h hP hS => ?_)
      refine lv_aload_n hx hb dX8_atom_27 rfl (lv_at hl 0 rfl) ?_
      refine lv_iload_n hx hb dX8_atom_28 rfl (lv_at hl 3 rfl) ?_
      obtain ⟨q13, gq13, h⟩ := Option.bind_eq_some_iff.mp h
      refine gw_cx X h (gw_xV_ (C := RX8) X hP hS (gc_X8_needTerm l hfl G a2 u10 _ gq13) gk_X8_needTerm gv_971 ⟨gv_973, gv_s18⟩ (va_recv hT.2.1 hP (ci := 10) (q0 := 0) rfl rfl) rfl rfl (Nat.le_of_ble_eq_true rfl) hl.1 ⟨rfl, rfl⟩ ⟨Nat.le_of_ble_eq_true rfl, Nat.le_of_ble_eq_true rfl⟩ ⟨Nat.le_of_ble_eq_true rfl, Nat.le_of_ble_eq_true rfl⟩ dX8_atom_29) hS (Nat.le_of_ble_eq_true rfl) (Nat.le_of_ble_eq_true rfl) (fun u12 H locs h hP hS => ?_)
      refine lv_aload_n hx hb dX8_atom_32 rfl (lv_at hl 0 rfl) ?_
      obtain ⟨q15, gq15, h⟩ := Option.bind_eq_some_iff.mp h
      refine gw_cx X h (gw_xV_ (C := RX8) X hP hS (gc_X8_needRoomForFormula l hfl G  u12 _ gq15) gk_X8_needRoomForFormula gv_977 ⟨gv_979, gv_s19⟩ (va_recv hT.2.1 hP (ci := 10) (q0 := 0) rfl rfl) rfl rfl (Nat.le_of_ble_eq_true rfl) hl.1 ⟨rfl, rfl⟩ ⟨Nat.le_of_ble_eq_true rfl, Nat.le_of_ble_eq_true rfl⟩ ⟨Nat.le_of_ble_eq_true rfl, Nat.le_of_ble_eq_true rfl⟩ dX8_atom_33) hS (Nat.le_of_ble_eq_true rfl) (Nat.le_of_ble_eq_true rfl) (fun u14 H locs h hP hS => ?_)
      refine lv_aload_n hx hb dX8_atom_36 rfl (lv_at hl 0 rfl) ?_
      refine va_get (D := G.1) (ci := 10) (v := .ref (G.2.1 11)) (C := RX8) (T := TX8) (N := 7) hx hb hts gx_X8 hown hT.2.1 hP 0 rfl rfl 2 (by decide) (hts _ gv_216) (fun _ h9 => h9) rfl dX8_atom_37 ?_
      refine lv_iload_n hx hb dX8_atom_40 rfl (lv_at hl 1 rfl) ?_
      refine lv_iload_n hx hb dX8_atom_41 rfl (lv_at hl 2 rfl) ?_
      refine lv_iload_n hx hb dX8_atom_42 rfl (lv_at hl 3 rfl) ?_
      refine lv_iconst (v := -1) hx hb dX8_atom_43 (by decide) ?_
      refine lv_iconst (v := 1) hx hb dX8_atom_44 (by decide) ?_
      refine lv_iload_n hx hb dX8_atom_45 rfl (lv_at hl 2 rfl) ?_
      obtain ⟨p16, gp16, h⟩ := Option.bind_eq_some_iff.mp h
      refine gw_ci (gw_rS X hP hS (gc_X8_letterOf l G a1 u14 _ gp16) gk_X8_letterOf gv_982 gv_983 rfl rfl (Nat.le_of_ble_eq_true rfl) hl.1 ⟨rfl, rfl⟩ ⟨Nat.le_of_ble_eq_true rfl, Nat.le_of_ble_eq_true rfl⟩ ⟨Nat.le_of_ble_eq_true rfl, Nat.le_of_ble_eq_true rfl⟩ dX8_atom_46) hS (fun H locs hP hS => ?_)
      refine lv_iload_n hx hb dX8_atom_49 rfl (lv_at hl 3 rfl) ?_
      obtain ⟨p17, gp17, h⟩ := Option.bind_eq_some_iff.mp h
      refine gw_ci (gw_rS X hP hS (gc_X8_letterOf l G a2 p16.2 _ gp17) gk_X8_letterOf gv_982 gv_983 rfl rfl (Nat.le_of_ble_eq_true rfl) hl.1 ⟨rfl, rfl⟩ ⟨Nat.le_of_ble_eq_true rfl, Nat.le_of_ble_eq_true rfl⟩ ⟨Nat.le_of_ble_eq_true rfl, Nat.le_of_ble_eq_true rfl⟩ dX8_atom_50) hS (fun H locs hP hS => ?_)
      refine lv_ior hx hb dX8_atom_53 ?_
      obtain ⟨p18, gp18, h⟩ := Option.bind_eq_some_iff.mp h
      refine gw_ci (gw_rV (C := RX1) X hP hS (gc_X1_add l G a0 a1 a2 (-1 : Int32) (1 : Int32) (p16.1 ||| p17.1) p17.2 _ gp18) gk_X1_add gv_985 ⟨gv_986, gv_987⟩ (va_recv hT.2.1 hP (ci := 4) (q0 := 11) rfl rfl) rfl rfl (Nat.le_of_ble_eq_true rfl) hl.1 ⟨rfl, rfl⟩ ⟨Nat.le_of_ble_eq_true rfl, Nat.le_of_ble_eq_true rfl⟩ ⟨Nat.le_of_ble_eq_true rfl, Nat.le_of_ble_eq_true rfl⟩ dX8_atom_54) hS (fun H locs hP hS => ?_)
      exact gw_xri X hP hS (Nat.le_of_ble_eq_true rfl) (Nat.le_of_ble_eq_true rfl) h dX8_atom_57
    · have h := (if_neg c).symm.trans h
      exact gw_thr X hP hS hfl ge_X8_143_147 (i := 15) rfl h hl.1 dX8_atom_12 dX8_atom_15 dX8_atom_16 dX8_atom_18 dX8_atom_21 ⟨Nat.le_of_ble_eq_true rfl, Nat.le_of_ble_eq_true rfl⟩ ⟨Nat.le_of_ble_eq_true rfl, Nat.le_of_ble_eq_true rfl⟩ (Nat.le_of_ble_eq_true rfl) (Nat.le_of_ble_eq_true rfl)
def f_X8_both (a0 : Int32) (a1 : Int32) (a2 : Int32) (σ : gw_S) : Option ((Int32 ⊕ String) × gw_S) := ((f_X8_needFormula a1 σ).bind fun q2 => gw_bx q2 fun u1 => ((f_X8_needFormula a2 u1).bind fun q4 => gw_bx q4 fun u3 => (if a0 = (97 : Int32) then ((f_X1_depth a1 u3).bind fun p5 => ((f_X1_depth a2 p5.2).bind fun p6 => ((f_X8_needDepth ((1 : Int32) + (if p5.1 < p6.1 then p6.1 else p5.1)) p6.2).bind fun q8 => gw_bx q8 fun u7 => ((f_X8_needRoomForFormula  u7).bind fun q10 => gw_bx q10 fun u9 => ((f_X1_open a1 u9).bind fun p11 => ((f_X1_open a2 p11.2).bind fun p12 => ((f_X1_add a0 a1 a2 (-1 : Int32) ((1 : Int32) + (if p5.1 < p6.1 then p6.1 else p5.1)) (p11.1 ||| p12.1) p12.2).bind fun p13 => (some (Sum.inl p13.1, p13.2))))))))) else (if a0 = (111 : Int32) then ((f_X1_depth a1 u3).bind fun p14 => ((f_X1_depth a2 p14.2).bind fun p15 => ((f_X8_needDepth ((1 : Int32) + (if p14.1 < p15.1 then p15.1 else p14.1)) p15.2).bind fun q17 => gw_bx q17 fun u16 => ((f_X8_needRoomForFormula  u16).bind fun q19 => gw_bx q19 fun u18 => ((f_X1_open a1 u18).bind fun p20 => ((f_X1_open a2 p20.2).bind fun p21 => ((f_X1_add a0 a1 a2 (-1 : Int32) ((1 : Int32) + (if p14.1 < p15.1 then p15.1 else p14.1)) (p20.1 ||| p21.1) p21.2).bind fun p22 => (some (Sum.inl p22.1, p22.2))))))))) else (some (Sum.inr "java/lang/IllegalArgumentException", u3))))))
set_option maxHeartbeats 4000000 in
set_option maxRecDepth 100000 in
theorem gc_X8_both (l : Launch) (hfl : l.stackTraces = false) (G : gw_G) (a0 : Int32) (a1 : Int32) (a2 : Int32) (σ : gw_S) (o : ((Int32 ⊕ String) × gw_S)) (h : f_X8_both a0 a1 a2 σ = some o) : gw_N (fun sz => gw_xI G sz o) (fun sz => gw_XC G sz o) 4 l yX8_both cX8_both 6 (some .int) { frames := 7, cells := 4, slots := 24, locals := 103 } G [.ref (G.2.1 0), .int a0, .int a1, .int a2] σ := by
  refine gw_enx (own := RX8) (lv := [(0, .ref (G.2.1 0)), (1, .int a0), (2, .int a1), (3, .int a2)]) (by decide +kernel) rfl (Nat.le_of_ble_eq_true rfl) rfl ?_
  intro p e s m below meth c ls X hl hP
  obtain ⟨hx, hb, hml, hown, hts, -, -, hT, hZ, -⟩ := id X
  have hS : va_S (gw_A G s.heap.size) s.heap s.heap [] := va_S.rf
  unfold f_X8_both at h
  refine lv_aload_n hx hb dX8_both_0 rfl (lv_at hl 0 rfl) ?_
  refine lv_iload_n hx hb dX8_both_1 rfl (lv_at hl 2 rfl) ?_
  obtain ⟨q2, gq2, h⟩ := Option.bind_eq_some_iff.mp h
  refine gw_cx X h (gw_xV_ (C := RX8) X hP hS (gc_X8_needFormula l hfl G a1 σ _ gq2) gk_X8_needFormula gv_997 ⟨gv_999, gv_s20⟩ (va_recv hT.2.1 hP (ci := 10) (q0 := 0) rfl rfl) rfl rfl (Nat.le_of_ble_eq_true rfl) hl.1 ⟨rfl, rfl⟩ ⟨Nat.le_of_ble_eq_true rfl, Nat.le_of_ble_eq_true rfl⟩ ⟨Nat.le_of_ble_eq_true rfl, Nat.le_of_ble_eq_true rfl⟩ dX8_both_2) hS (Nat.le_of_ble_eq_true rfl) (Nat.le_of_ble_eq_true rfl) (fun u1 H locs h hP hS => ?_)
  refine lv_aload_n hx hb dX8_both_5 rfl (lv_at hl 0 rfl) ?_
  refine lv_iload_n hx hb dX8_both_6 rfl (lv_at hl 3 rfl) ?_
  obtain ⟨q4, gq4, h⟩ := Option.bind_eq_some_iff.mp h
  refine gw_cx X h (gw_xV_ (C := RX8) X hP hS (gc_X8_needFormula l hfl G a2 u1 _ gq4) gk_X8_needFormula gv_997 ⟨gv_999, gv_s20⟩ (va_recv hT.2.1 hP (ci := 10) (q0 := 0) rfl rfl) rfl rfl (Nat.le_of_ble_eq_true rfl) hl.1 ⟨rfl, rfl⟩ ⟨Nat.le_of_ble_eq_true rfl, Nat.le_of_ble_eq_true rfl⟩ ⟨Nat.le_of_ble_eq_true rfl, Nat.le_of_ble_eq_true rfl⟩ dX8_both_7) hS (Nat.le_of_ble_eq_true rfl) (Nat.le_of_ble_eq_true rfl) (fun u3 H locs h hP hS => ?_)
  refine lv_iload_n hx hb dX8_both_10 rfl (lv_at hl 1 rfl) ?_
  refine lv_bipush (v := 97) hx hb dX8_both_11 (by decide) ?_
  refine lv_icmp_eq (tgt := 32) hx hb dX8_both_13 (by decide) (fun c => ?_) (fun c => ?_)
  · have h := (if_pos c).symm.trans h
    refine lv_iconst (v := 1) hx hb dX8_both_32 (by decide) ?_
    refine lv_aload_n hx hb dX8_both_33 rfl (lv_at hl 0 rfl) ?_
    refine va_get (D := G.1) (ci := 10) (v := .ref (G.2.1 11)) (C := RX8) (T := TX8) (N := 7) hx hb hts gx_X8 hown hT.2.1 hP 0 rfl rfl 2 (by decide) (hts _ gv_216) (fun _ h9 => h9) rfl dX8_both_34 ?_
    refine lv_iload_n hx hb dX8_both_37 rfl (lv_at hl 2 rfl) ?_
    obtain ⟨p5, gp5, h⟩ := Option.bind_eq_some_iff.mp h
    refine gw_ci (gw_rV (C := RX1) X hP hS (gc_X1_depth l G a1 u3 _ gp5) gk_X1_depth gv_1003 ⟨gv_1004, gv_1005⟩ (va_recv hT.2.1 hP (ci := 4) (q0 := 11) rfl rfl) rfl rfl (Nat.le_of_ble_eq_true rfl) hl.1 ⟨rfl, rfl⟩ ⟨Nat.le_of_ble_eq_true rfl, Nat.le_of_ble_eq_true rfl⟩ ⟨Nat.le_of_ble_eq_true rfl, Nat.le_of_ble_eq_true rfl⟩ dX8_both_38) hS (fun H locs hP hS => ?_)
    refine lv_aload_n hx hb dX8_both_41 rfl (lv_at hl 0 rfl) ?_
    refine va_get (D := G.1) (ci := 10) (v := .ref (G.2.1 11)) (C := RX8) (T := TX8) (N := 7) hx hb hts gx_X8 hown hT.2.1 hP 0 rfl rfl 2 (by decide) (hts _ gv_216) (fun _ h9 => h9) rfl dX8_both_42 ?_
    refine lv_iload_n hx hb dX8_both_45 rfl (lv_at hl 3 rfl) ?_
    obtain ⟨p6, gp6, h⟩ := Option.bind_eq_some_iff.mp h
    refine gw_ci (gw_rV (C := RX1) X hP hS (gc_X1_depth l G a2 p5.2 _ gp6) gk_X1_depth gv_1003 ⟨gv_1004, gv_1005⟩ (va_recv hT.2.1 hP (ci := 4) (q0 := 11) rfl rfl) rfl rfl (Nat.le_of_ble_eq_true rfl) hl.1 ⟨rfl, rfl⟩ ⟨Nat.le_of_ble_eq_true rfl, Nat.le_of_ble_eq_true rfl⟩ ⟨Nat.le_of_ble_eq_true rfl, Nat.le_of_ble_eq_true rfl⟩ dX8_both_46) hS (fun H locs hP hS => ?_)
    refine va_mmax hx hb (hml.trans hl.1.symm) hown (hts _ gv_1007) (hts _ gx_mm1) (hts _ gx_mm2) (hts _ gx_mm3) (Nat.le_of_ble_eq_true rfl) (Nat.le_of_ble_eq_true rfl) (Nat.le_of_ble_eq_true rfl) (Nat.le_of_ble_eq_true rfl) dX8_both_49 ?_
    refine lv_iadd hx hb dX8_both_52 ?_
    refine lv_istore (lv' := [(4, .int ((1 : Int32) + (if p5.1 < p6.1 then p6.1 else p5.1))), (0, .ref (G.2.1 0)), (1, .int a0), (2, .int a1), (3, .int a2)]) hx hb dX8_both_53 hl (by decide) rfl (fun ls hl => ?_)
    refine lv_iload hx hb dX8_both_55 (lv_at hl 0 rfl) ?_
    obtain ⟨q8, gq8, h⟩ := Option.bind_eq_some_iff.mp h
    refine gw_cx X h (gw_xS_ X hP hS (gc_X8_needDepth l hfl G ((1 : Int32) + (if p5.1 < p6.1 then p6.1 else p5.1)) p6.2 _ gq8) gk_X8_needDepth gv_1008 gv_1009 rfl rfl (Nat.le_of_ble_eq_true rfl) hl.1 ⟨rfl, rfl⟩ ⟨Nat.le_of_ble_eq_true rfl, Nat.le_of_ble_eq_true rfl⟩ ⟨Nat.le_of_ble_eq_true rfl, Nat.le_of_ble_eq_true rfl⟩ dX8_both_57) hS (Nat.le_of_ble_eq_true rfl) (Nat.le_of_ble_eq_true rfl) (fun u7 H locs h hP hS => ?_)
    refine lv_aload_n hx hb dX8_both_60 rfl (lv_at hl 1 rfl) ?_
    obtain ⟨q10, gq10, h⟩ := Option.bind_eq_some_iff.mp h
    refine gw_cx X h (gw_xV_ (C := RX8) X hP hS (gc_X8_needRoomForFormula l hfl G  u7 _ gq10) gk_X8_needRoomForFormula gv_977 ⟨gv_979, gv_s19⟩ (va_recv hT.2.1 hP (ci := 10) (q0 := 0) rfl rfl) rfl rfl (Nat.le_of_ble_eq_true rfl) hl.1 ⟨rfl, rfl⟩ ⟨Nat.le_of_ble_eq_true rfl, Nat.le_of_ble_eq_true rfl⟩ ⟨Nat.le_of_ble_eq_true rfl, Nat.le_of_ble_eq_true rfl⟩ dX8_both_61) hS (Nat.le_of_ble_eq_true rfl) (Nat.le_of_ble_eq_true rfl) (fun u9 H locs h hP hS => ?_)
    refine lv_aload_n hx hb dX8_both_64 rfl (lv_at hl 1 rfl) ?_
    refine va_get (D := G.1) (ci := 10) (v := .ref (G.2.1 11)) (C := RX8) (T := TX8) (N := 7) hx hb hts gx_X8 hown hT.2.1 hP 0 rfl rfl 2 (by decide) (hts _ gv_216) (fun _ h9 => h9) rfl dX8_both_65 ?_
    refine lv_iload_n hx hb dX8_both_68 rfl (lv_at hl 3 rfl) ?_
    obtain ⟨p11, gp11, h⟩ := Option.bind_eq_some_iff.mp h
    refine gw_ci (gw_rV (C := RX1) X hP hS (gc_X1_open l G a1 u9 _ gp11) gk_X1_open gv_332 ⟨gv_333, gv_334⟩ (va_recv hT.2.1 hP (ci := 4) (q0 := 11) rfl rfl) rfl rfl (Nat.le_of_ble_eq_true rfl) hl.1 ⟨rfl, rfl⟩ ⟨Nat.le_of_ble_eq_true rfl, Nat.le_of_ble_eq_true rfl⟩ ⟨Nat.le_of_ble_eq_true rfl, Nat.le_of_ble_eq_true rfl⟩ dX8_both_69) hS (fun H locs hP hS => ?_)
    refine lv_aload_n hx hb dX8_both_72 rfl (lv_at hl 1 rfl) ?_
    refine va_get (D := G.1) (ci := 10) (v := .ref (G.2.1 11)) (C := RX8) (T := TX8) (N := 7) hx hb hts gx_X8 hown hT.2.1 hP 0 rfl rfl 2 (by decide) (hts _ gv_216) (fun _ h9 => h9) rfl dX8_both_73 ?_
    refine lv_iload_n hx hb dX8_both_76 rfl (lv_at hl 4 rfl) ?_
    obtain ⟨p12, gp12, h⟩ := Option.bind_eq_some_iff.mp h
    refine gw_ci (gw_rV (C := RX1) X hP hS (gc_X1_open l G a2 p11.2 _ gp12) gk_X1_open gv_332 ⟨gv_333, gv_334⟩ (va_recv hT.2.1 hP (ci := 4) (q0 := 11) rfl rfl) rfl rfl (Nat.le_of_ble_eq_true rfl) hl.1 ⟨rfl, rfl⟩ ⟨Nat.le_of_ble_eq_true rfl, Nat.le_of_ble_eq_true rfl⟩ ⟨Nat.le_of_ble_eq_true rfl, Nat.le_of_ble_eq_true rfl⟩ dX8_both_77) hS (fun H locs hP hS => ?_)
    refine lv_ior hx hb dX8_both_80 ?_
    refine lv_istore (lv' := [(5, .int (p11.1 ||| p12.1)), (4, .int ((1 : Int32) + (if p5.1 < p6.1 then p6.1 else p5.1))), (0, .ref (G.2.1 0)), (1, .int a0), (2, .int a1), (3, .int a2)]) hx hb dX8_both_81 hl (by decide) rfl (fun ls hl => ?_)
    refine lv_aload_n hx hb dX8_both_83 rfl (lv_at hl 2 rfl) ?_
    refine va_get (D := G.1) (ci := 10) (v := .ref (G.2.1 11)) (C := RX8) (T := TX8) (N := 7) hx hb hts gx_X8 hown hT.2.1 hP 0 rfl rfl 2 (by decide) (hts _ gv_216) (fun _ h9 => h9) rfl dX8_both_84 ?_
    refine lv_iload_n hx hb dX8_both_87 rfl (lv_at hl 3 rfl) ?_
    refine lv_iload_n hx hb dX8_both_88 rfl (lv_at hl 4 rfl) ?_
    refine lv_iload_n hx hb dX8_both_89 rfl (lv_at hl 5 rfl) ?_
    refine lv_iconst (v := -1) hx hb dX8_both_90 (by decide) ?_
    refine lv_iload hx hb dX8_both_91 (lv_at hl 1 rfl) ?_
    refine lv_iload hx hb dX8_both_93 (lv_at hl 0 rfl) ?_
    obtain ⟨p13, gp13, h⟩ := Option.bind_eq_some_iff.mp h
    refine gw_ci (gw_rV (C := RX1) X hP hS (gc_X1_add l G a0 a1 a2 (-1 : Int32) ((1 : Int32) + (if p5.1 < p6.1 then p6.1 else p5.1)) (p11.1 ||| p12.1) p12.2 _ gp13) gk_X1_add gv_985 ⟨gv_986, gv_987⟩ (va_recv hT.2.1 hP (ci := 4) (q0 := 11) rfl rfl) rfl rfl (Nat.le_of_ble_eq_true rfl) hl.1 ⟨rfl, rfl⟩ ⟨Nat.le_of_ble_eq_true rfl, Nat.le_of_ble_eq_true rfl⟩ ⟨Nat.le_of_ble_eq_true rfl, Nat.le_of_ble_eq_true rfl⟩ dX8_both_95) hS (fun H locs hP hS => ?_)
    exact gw_xri X hP hS (Nat.le_of_ble_eq_true rfl) (Nat.le_of_ble_eq_true rfl) h dX8_both_98
  · have h := (if_neg c).symm.trans h
    refine lv_iload_n hx hb dX8_both_16 rfl (lv_at hl 1 rfl) ?_
    refine lv_bipush (v := 111) hx hb dX8_both_17 (by decide) ?_
    refine lv_icmp_eq (tgt := 32) hx hb dX8_both_19 (by decide) (fun c => ?_) (fun c => ?_)
    · have h := (if_pos c).symm.trans h
      refine lv_iconst (v := 1) hx hb dX8_both_32 (by decide) ?_
      refine lv_aload_n hx hb dX8_both_33 rfl (lv_at hl 0 rfl) ?_
      refine va_get (D := G.1) (ci := 10) (v := .ref (G.2.1 11)) (C := RX8) (T := TX8) (N := 7) hx hb hts gx_X8 hown hT.2.1 hP 0 rfl rfl 2 (by decide) (hts _ gv_216) (fun _ h9 => h9) rfl dX8_both_34 ?_
      refine lv_iload_n hx hb dX8_both_37 rfl (lv_at hl 2 rfl) ?_
      obtain ⟨p14, gp14, h⟩ := Option.bind_eq_some_iff.mp h
      refine gw_ci (gw_rV (C := RX1) X hP hS (gc_X1_depth l G a1 u3 _ gp14) gk_X1_depth gv_1003 ⟨gv_1004, gv_1005⟩ (va_recv hT.2.1 hP (ci := 4) (q0 := 11) rfl rfl) rfl rfl (Nat.le_of_ble_eq_true rfl) hl.1 ⟨rfl, rfl⟩ ⟨Nat.le_of_ble_eq_true rfl, Nat.le_of_ble_eq_true rfl⟩ ⟨Nat.le_of_ble_eq_true rfl, Nat.le_of_ble_eq_true rfl⟩ dX8_both_38) hS (fun H locs hP hS => ?_)
      refine lv_aload_n hx hb dX8_both_41 rfl (lv_at hl 0 rfl) ?_
      refine va_get (D := G.1) (ci := 10) (v := .ref (G.2.1 11)) (C := RX8) (T := TX8) (N := 7) hx hb hts gx_X8 hown hT.2.1 hP 0 rfl rfl 2 (by decide) (hts _ gv_216) (fun _ h9 => h9) rfl dX8_both_42 ?_
      refine lv_iload_n hx hb dX8_both_45 rfl (lv_at hl 3 rfl) ?_
      obtain ⟨p15, gp15, h⟩ := Option.bind_eq_some_iff.mp h
      refine gw_ci (gw_rV (C := RX1) X hP hS (gc_X1_depth l G a2 p14.2 _ gp15) gk_X1_depth gv_1003 ⟨gv_1004, gv_1005⟩ (va_recv hT.2.1 hP (ci := 4) (q0 := 11) rfl rfl) rfl rfl (Nat.le_of_ble_eq_true rfl) hl.1 ⟨rfl, rfl⟩ ⟨Nat.le_of_ble_eq_true rfl, Nat.le_of_ble_eq_true rfl⟩ ⟨Nat.le_of_ble_eq_true rfl, Nat.le_of_ble_eq_true rfl⟩ dX8_both_46) hS (fun H locs hP hS => ?_)
      refine va_mmax hx hb (hml.trans hl.1.symm) hown (hts _ gv_1007) (hts _ gx_mm1) (hts _ gx_mm2) (hts _ gx_mm3) (Nat.le_of_ble_eq_true rfl) (Nat.le_of_ble_eq_true rfl) (Nat.le_of_ble_eq_true rfl) (Nat.le_of_ble_eq_true rfl) dX8_both_49 ?_
      refine lv_iadd hx hb dX8_both_52 ?_
      refine lv_istore (lv' := [(4, .int ((1 : Int32) + (if p14.1 < p15.1 then p15.1 else p14.1))), (0, .ref (G.2.1 0)), (1, .int a0), (2, .int a1), (3, .int a2)]) hx hb dX8_both_53 hl (by decide) rfl (fun ls hl => ?_)
      refine lv_iload hx hb dX8_both_55 (lv_at hl 0 rfl) ?_
      obtain ⟨q17, gq17, h⟩ := Option.bind_eq_some_iff.mp h
      refine gw_cx X h (gw_xS_ X hP hS (gc_X8_needDepth l hfl G ((1 : Int32) + (if p14.1 < p15.1 then p15.1 else p14.1)) p15.2 _ gq17) gk_X8_needDepth gv_1008 gv_1009 rfl rfl (Nat.le_of_ble_eq_true rfl) hl.1 ⟨rfl, rfl⟩ ⟨Nat.le_of_ble_eq_true rfl, Nat.le_of_ble_eq_true rfl⟩ ⟨Nat.le_of_ble_eq_true rfl, Nat.le_of_ble_eq_true rfl⟩ dX8_both_57) hS (Nat.le_of_ble_eq_true rfl) (Nat.le_of_ble_eq_true rfl) (fun u16 H locs h hP hS => ?_)
      refine lv_aload_n hx hb dX8_both_60 rfl (lv_at hl 1 rfl) ?_
      obtain ⟨q19, gq19, h⟩ := Option.bind_eq_some_iff.mp h
      refine gw_cx X h (gw_xV_ (C := RX8) X hP hS (gc_X8_needRoomForFormula l hfl G  u16 _ gq19) gk_X8_needRoomForFormula gv_977 ⟨gv_979, gv_s19⟩ (va_recv hT.2.1 hP (ci := 10) (q0 := 0) rfl rfl) rfl rfl (Nat.le_of_ble_eq_true rfl) hl.1 ⟨rfl, rfl⟩ ⟨Nat.le_of_ble_eq_true rfl, Nat.le_of_ble_eq_true rfl⟩ ⟨Nat.le_of_ble_eq_true rfl, Nat.le_of_ble_eq_true rfl⟩ dX8_both_61) hS (Nat.le_of_ble_eq_true rfl) (Nat.le_of_ble_eq_true rfl) (fun u18 H locs h hP hS => ?_)
      refine lv_aload_n hx hb dX8_both_64 rfl (lv_at hl 1 rfl) ?_
      refine va_get (D := G.1) (ci := 10) (v := .ref (G.2.1 11)) (C := RX8) (T := TX8) (N := 7) hx hb hts gx_X8 hown hT.2.1 hP 0 rfl rfl 2 (by decide) (hts _ gv_216) (fun _ h9 => h9) rfl dX8_both_65 ?_
      refine lv_iload_n hx hb dX8_both_68 rfl (lv_at hl 3 rfl) ?_
      obtain ⟨p20, gp20, h⟩ := Option.bind_eq_some_iff.mp h
      refine gw_ci (gw_rV (C := RX1) X hP hS (gc_X1_open l G a1 u18 _ gp20) gk_X1_open gv_332 ⟨gv_333, gv_334⟩ (va_recv hT.2.1 hP (ci := 4) (q0 := 11) rfl rfl) rfl rfl (Nat.le_of_ble_eq_true rfl) hl.1 ⟨rfl, rfl⟩ ⟨Nat.le_of_ble_eq_true rfl, Nat.le_of_ble_eq_true rfl⟩ ⟨Nat.le_of_ble_eq_true rfl, Nat.le_of_ble_eq_true rfl⟩ dX8_both_69) hS (fun H locs hP hS => ?_)
      refine lv_aload_n hx hb dX8_both_72 rfl (lv_at hl 1 rfl) ?_
      refine va_get (D := G.1) (ci := 10) (v := .ref (G.2.1 11)) (C := RX8) (T := TX8) (N := 7) hx hb hts gx_X8 hown hT.2.1 hP 0 rfl rfl 2 (by decide) (hts _ gv_216) (fun _ h9 => h9) rfl dX8_both_73 ?_
      refine lv_iload_n hx hb dX8_both_76 rfl (lv_at hl 4 rfl) ?_
      obtain ⟨p21, gp21, h⟩ := Option.bind_eq_some_iff.mp h
      refine gw_ci (gw_rV (C := RX1) X hP hS (gc_X1_open l G a2 p20.2 _ gp21) gk_X1_open gv_332 ⟨gv_333, gv_334⟩ (va_recv hT.2.1 hP (ci := 4) (q0 := 11) rfl rfl) rfl rfl (Nat.le_of_ble_eq_true rfl) hl.1 ⟨rfl, rfl⟩ ⟨Nat.le_of_ble_eq_true rfl, Nat.le_of_ble_eq_true rfl⟩ ⟨Nat.le_of_ble_eq_true rfl, Nat.le_of_ble_eq_true rfl⟩ dX8_both_77) hS (fun H locs hP hS => ?_)
      refine lv_ior hx hb dX8_both_80 ?_
      refine lv_istore (lv' := [(5, .int (p20.1 ||| p21.1)), (4, .int ((1 : Int32) + (if p14.1 < p15.1 then p15.1 else p14.1))), (0, .ref (G.2.1 0)), (1, .int a0), (2, .int a1), (3, .int a2)]) hx hb dX8_both_81 hl (by decide) rfl (fun ls hl => ?_)
      refine lv_aload_n hx hb dX8_both_83 rfl (lv_at hl 2 rfl) ?_
      refine va_get (D := G.1) (ci := 10) (v := .ref (G.2.1 11)) (C := RX8) (T := TX8) (N := 7) hx hb hts gx_X8 hown hT.2.1 hP 0 rfl rfl 2 (by decide) (hts _ gv_216) (fun _ h9 => h9) rfl dX8_both_84 ?_
      refine lv_iload_n hx hb dX8_both_87 rfl (lv_at hl 3 rfl) ?_
      refine lv_iload_n hx hb dX8_both_88 rfl (lv_at hl 4 rfl) ?_
      refine lv_iload_n hx hb dX8_both_89 rfl (lv_at hl 5 rfl) ?_
      refine lv_iconst (v := -1) hx hb dX8_both_90 (by decide) ?_
      refine lv_iload hx hb dX8_both_91 (lv_at hl 1 rfl) ?_
      refine lv_iload hx hb dX8_both_93 (lv_at hl 0 rfl) ?_
      obtain ⟨p22, gp22, h⟩ := Option.bind_eq_some_iff.mp h
      refine gw_ci (gw_rV (C := RX1) X hP hS (gc_X1_add l G a0 a1 a2 (-1 : Int32) ((1 : Int32) + (if p14.1 < p15.1 then p15.1 else p14.1)) (p20.1 ||| p21.1) p21.2 _ gp22) gk_X1_add gv_985 ⟨gv_986, gv_987⟩ (va_recv hT.2.1 hP (ci := 4) (q0 := 11) rfl rfl) rfl rfl (Nat.le_of_ble_eq_true rfl) hl.1 ⟨rfl, rfl⟩ ⟨Nat.le_of_ble_eq_true rfl, Nat.le_of_ble_eq_true rfl⟩ ⟨Nat.le_of_ble_eq_true rfl, Nat.le_of_ble_eq_true rfl⟩ dX8_both_95) hS (fun H locs hP hS => ?_)
      exact gw_xri X hP hS (Nat.le_of_ble_eq_true rfl) (Nat.le_of_ble_eq_true rfl) h dX8_both_98
    · have h := (if_neg c).symm.trans h
      exact gw_thr X hP hS hfl ge_X8_143_147 (i := 15) rfl h hl.1 dX8_both_22 dX8_both_25 dX8_both_26 dX8_both_28 dX8_both_31 ⟨Nat.le_of_ble_eq_true rfl, Nat.le_of_ble_eq_true rfl⟩ ⟨Nat.le_of_ble_eq_true rfl, Nat.le_of_ble_eq_true rfl⟩ (Nat.le_of_ble_eq_true rfl) (Nat.le_of_ble_eq_true rfl)
def f_X8_not (a0 : Int32) (σ : gw_S) : Option ((Int32 ⊕ String) × gw_S) := ((f_X8_needFormula a0 σ).bind fun q2 => gw_bx q2 fun u1 => ((f_X1_depth a0 u1).bind fun p3 => ((f_X8_needDepth ((1 : Int32) + p3.1) p3.2).bind fun q5 => gw_bx q5 fun u4 => ((f_X8_needRoomForFormula  u4).bind fun q7 => gw_bx q7 fun u6 => ((f_X1_open a0 u6).bind fun p8 => ((f_X1_add (110 : Int32) a0 (-1 : Int32) (-1 : Int32) ((1 : Int32) + p3.1) p8.1 p8.2).bind fun p9 => (some (Sum.inl p9.1, p9.2))))))))
set_option maxHeartbeats 4000000 in
set_option maxRecDepth 100000 in
theorem gc_X8_not (l : Launch) (hfl : l.stackTraces = false) (G : gw_G) (a0 : Int32) (σ : gw_S) (o : ((Int32 ⊕ String) × gw_S)) (h : f_X8_not a0 σ = some o) : gw_N (fun sz => gw_xI G sz o) (fun sz => gw_XC G sz o) 3 l yX8_not cX8_not 3 (some .int) { frames := 7, cells := 3, slots := 18, locals := 103 } G [.ref (G.2.1 0), .int a0] σ := by
  refine gw_enx (own := RX8) (lv := [(0, .ref (G.2.1 0)), (1, .int a0)]) (by decide +kernel) rfl (Nat.le_of_ble_eq_true rfl) rfl ?_
  intro p e s m below meth c ls X hl hP
  obtain ⟨hx, hb, hml, hown, hts, -, -, hT, hZ, -⟩ := id X
  have hS : va_S (gw_A G s.heap.size) s.heap s.heap [] := va_S.rf
  unfold f_X8_not at h
  refine lv_aload_n hx hb dX8_not_0 rfl (lv_at hl 0 rfl) ?_
  refine lv_iload_n hx hb dX8_not_1 rfl (lv_at hl 1 rfl) ?_
  obtain ⟨q2, gq2, h⟩ := Option.bind_eq_some_iff.mp h
  refine gw_cx X h (gw_xV_ (C := RX8) X hP hS (gc_X8_needFormula l hfl G a0 σ _ gq2) gk_X8_needFormula gv_997 ⟨gv_999, gv_s20⟩ (va_recv hT.2.1 hP (ci := 10) (q0 := 0) rfl rfl) rfl rfl (Nat.le_of_ble_eq_true rfl) hl.1 ⟨rfl, rfl⟩ ⟨Nat.le_of_ble_eq_true rfl, Nat.le_of_ble_eq_true rfl⟩ ⟨Nat.le_of_ble_eq_true rfl, Nat.le_of_ble_eq_true rfl⟩ dX8_not_2) hS (Nat.le_of_ble_eq_true rfl) (Nat.le_of_ble_eq_true rfl) (fun u1 H locs h hP hS => ?_)
  refine lv_iconst (v := 1) hx hb dX8_not_5 (by decide) ?_
  refine lv_aload_n hx hb dX8_not_6 rfl (lv_at hl 0 rfl) ?_
  refine va_get (D := G.1) (ci := 10) (v := .ref (G.2.1 11)) (C := RX8) (T := TX8) (N := 7) hx hb hts gx_X8 hown hT.2.1 hP 0 rfl rfl 2 (by decide) (hts _ gv_216) (fun _ h9 => h9) rfl dX8_not_7 ?_
  refine lv_iload_n hx hb dX8_not_10 rfl (lv_at hl 1 rfl) ?_
  obtain ⟨p3, gp3, h⟩ := Option.bind_eq_some_iff.mp h
  refine gw_ci (gw_rV (C := RX1) X hP hS (gc_X1_depth l G a0 u1 _ gp3) gk_X1_depth gv_1003 ⟨gv_1004, gv_1005⟩ (va_recv hT.2.1 hP (ci := 4) (q0 := 11) rfl rfl) rfl rfl (Nat.le_of_ble_eq_true rfl) hl.1 ⟨rfl, rfl⟩ ⟨Nat.le_of_ble_eq_true rfl, Nat.le_of_ble_eq_true rfl⟩ ⟨Nat.le_of_ble_eq_true rfl, Nat.le_of_ble_eq_true rfl⟩ dX8_not_11) hS (fun H locs hP hS => ?_)
  refine lv_iadd hx hb dX8_not_14 ?_
  refine lv_istore_n (lv' := [(2, .int ((1 : Int32) + p3.1)), (0, .ref (G.2.1 0)), (1, .int a0)]) hx hb dX8_not_15 rfl hl (by decide) rfl (fun ls hl => ?_)
  refine lv_iload_n hx hb dX8_not_16 rfl (lv_at hl 0 rfl) ?_
  obtain ⟨q5, gq5, h⟩ := Option.bind_eq_some_iff.mp h
  refine gw_cx X h (gw_xS_ X hP hS (gc_X8_needDepth l hfl G ((1 : Int32) + p3.1) p3.2 _ gq5) gk_X8_needDepth gv_1008 gv_1009 rfl rfl (Nat.le_of_ble_eq_true rfl) hl.1 ⟨rfl, rfl⟩ ⟨Nat.le_of_ble_eq_true rfl, Nat.le_of_ble_eq_true rfl⟩ ⟨Nat.le_of_ble_eq_true rfl, Nat.le_of_ble_eq_true rfl⟩ dX8_not_17) hS (Nat.le_of_ble_eq_true rfl) (Nat.le_of_ble_eq_true rfl) (fun u4 H locs h hP hS => ?_)
  refine lv_aload_n hx hb dX8_not_20 rfl (lv_at hl 1 rfl) ?_
  obtain ⟨q7, gq7, h⟩ := Option.bind_eq_some_iff.mp h
  refine gw_cx X h (gw_xV_ (C := RX8) X hP hS (gc_X8_needRoomForFormula l hfl G  u4 _ gq7) gk_X8_needRoomForFormula gv_977 ⟨gv_979, gv_s19⟩ (va_recv hT.2.1 hP (ci := 10) (q0 := 0) rfl rfl) rfl rfl (Nat.le_of_ble_eq_true rfl) hl.1 ⟨rfl, rfl⟩ ⟨Nat.le_of_ble_eq_true rfl, Nat.le_of_ble_eq_true rfl⟩ ⟨Nat.le_of_ble_eq_true rfl, Nat.le_of_ble_eq_true rfl⟩ dX8_not_21) hS (Nat.le_of_ble_eq_true rfl) (Nat.le_of_ble_eq_true rfl) (fun u6 H locs h hP hS => ?_)
  refine lv_aload_n hx hb dX8_not_24 rfl (lv_at hl 1 rfl) ?_
  refine va_get (D := G.1) (ci := 10) (v := .ref (G.2.1 11)) (C := RX8) (T := TX8) (N := 7) hx hb hts gx_X8 hown hT.2.1 hP 0 rfl rfl 2 (by decide) (hts _ gv_216) (fun _ h9 => h9) rfl dX8_not_25 ?_
  refine lv_bipush (v := 110) hx hb dX8_not_28 (by decide) ?_
  refine lv_iload_n hx hb dX8_not_30 rfl (lv_at hl 2 rfl) ?_
  refine lv_iconst (v := -1) hx hb dX8_not_31 (by decide) ?_
  refine lv_iconst (v := -1) hx hb dX8_not_32 (by decide) ?_
  refine lv_iload_n hx hb dX8_not_33 rfl (lv_at hl 0 rfl) ?_
  refine lv_aload_n hx hb dX8_not_34 rfl (lv_at hl 1 rfl) ?_
  refine va_get (D := G.1) (ci := 10) (v := .ref (G.2.1 11)) (C := RX8) (T := TX8) (N := 7) hx hb hts gx_X8 hown hT.2.1 hP 0 rfl rfl 2 (by decide) (hts _ gv_216) (fun _ h9 => h9) rfl dX8_not_35 ?_
  refine lv_iload_n hx hb dX8_not_38 rfl (lv_at hl 2 rfl) ?_
  obtain ⟨p8, gp8, h⟩ := Option.bind_eq_some_iff.mp h
  refine gw_ci (gw_rV (C := RX1) X hP hS (gc_X1_open l G a0 u6 _ gp8) gk_X1_open gv_332 ⟨gv_333, gv_334⟩ (va_recv hT.2.1 hP (ci := 4) (q0 := 11) rfl rfl) rfl rfl (Nat.le_of_ble_eq_true rfl) hl.1 ⟨rfl, rfl⟩ ⟨Nat.le_of_ble_eq_true rfl, Nat.le_of_ble_eq_true rfl⟩ ⟨Nat.le_of_ble_eq_true rfl, Nat.le_of_ble_eq_true rfl⟩ dX8_not_39) hS (fun H locs hP hS => ?_)
  obtain ⟨p9, gp9, h⟩ := Option.bind_eq_some_iff.mp h
  refine gw_ci (gw_rV (C := RX1) X hP hS (gc_X1_add l G (110 : Int32) a0 (-1 : Int32) (-1 : Int32) ((1 : Int32) + p3.1) p8.1 p8.2 _ gp9) gk_X1_add gv_985 ⟨gv_986, gv_987⟩ (va_recv hT.2.1 hP (ci := 4) (q0 := 11) rfl rfl) rfl rfl (Nat.le_of_ble_eq_true rfl) hl.1 ⟨rfl, rfl⟩ ⟨Nat.le_of_ble_eq_true rfl, Nat.le_of_ble_eq_true rfl⟩ ⟨Nat.le_of_ble_eq_true rfl, Nat.le_of_ble_eq_true rfl⟩ dX8_not_42) hS (fun H locs hP hS => ?_)
  exact gw_xri X hP hS (Nat.le_of_ble_eq_true rfl) (Nat.le_of_ble_eq_true rfl) h dX8_not_45
def f_X8_bind (a0 : Int32) (a1 : Int32) (a2 : Int32) (a3 : Int32) (σ : gw_S) : Option ((Int32 ⊕ String) × gw_S) := ((f_X8_needFormula a3 σ).bind fun q2 => gw_bx q2 fun u1 => (if a0 = (65 : Int32) then (if a1 < 0 then (some (Sum.inr "java/lang/IllegalArgumentException", u1)) else (if a1 < (4 : Int32) then ((f_X8_needTerm a2 u1).bind fun q4 => gw_bx q4 fun u3 => ((f_X1_depth a3 u3).bind fun p5 => ((f_X8_needDepth ((1 : Int32) + p5.1) p5.2).bind fun q7 => gw_bx q7 fun u6 => ((f_X8_needRoomForFormula  u6).bind fun q9 => gw_bx q9 fun u8 => ((f_X1_open a3 u8).bind fun p10 => ((f_X8_letterOf a2 p10.2).bind fun p11 => ((f_X1_add a0 a2 a3 a1 ((1 : Int32) + p5.1) ((p10.1 &&& (((1 : Int32) <<< (a1 &&& 31)) ^^^ (-1 : Int32))) ||| p11.1) p11.2).bind fun p12 => (some (Sum.inl p12.1, p12.2))))))))) else (some (Sum.inr "java/lang/IllegalArgumentException", u1)))) else (if a0 = (69 : Int32) then (if a1 < 0 then (some (Sum.inr "java/lang/IllegalArgumentException", u1)) else (if a1 < (4 : Int32) then ((f_X8_needTerm a2 u1).bind fun q14 => gw_bx q14 fun u13 => ((f_X1_depth a3 u13).bind fun p15 => ((f_X8_needDepth ((1 : Int32) + p15.1) p15.2).bind fun q17 => gw_bx q17 fun u16 => ((f_X8_needRoomForFormula  u16).bind fun q19 => gw_bx q19 fun u18 => ((f_X1_open a3 u18).bind fun p20 => ((f_X8_letterOf a2 p20.2).bind fun p21 => ((f_X1_add a0 a2 a3 a1 ((1 : Int32) + p15.1) ((p20.1 &&& (((1 : Int32) <<< (a1 &&& 31)) ^^^ (-1 : Int32))) ||| p21.1) p21.2).bind fun p22 => (some (Sum.inl p22.1, p22.2))))))))) else (some (Sum.inr "java/lang/IllegalArgumentException", u1)))) else (some (Sum.inr "java/lang/IllegalArgumentException", u1)))))
set_option maxHeartbeats 4000000 in
set_option maxRecDepth 100000 in
theorem gc_X8_bind (l : Launch) (hfl : l.stackTraces = false) (G : gw_G) (a0 : Int32) (a1 : Int32) (a2 : Int32) (a3 : Int32) (σ : gw_S) (o : ((Int32 ⊕ String) × gw_S)) (h : f_X8_bind a0 a1 a2 a3 σ = some o) : gw_N (fun sz => gw_xI G sz o) (fun sz => gw_XC G sz o) 4 l yX8_bind cX8_bind 7 (some .int) { frames := 7, cells := 4, slots := 24, locals := 103 } G [.ref (G.2.1 0), .int a0, .int a1, .int a2, .int a3] σ := by
  refine gw_enx (own := RX8) (lv := [(0, .ref (G.2.1 0)), (1, .int a0), (2, .int a1), (3, .int a2), (4, .int a3)]) (by decide +kernel) rfl (Nat.le_of_ble_eq_true rfl) rfl ?_
  intro p e s m below meth c ls X hl hP
  obtain ⟨hx, hb, hml, hown, hts, -, -, hT, hZ, -⟩ := id X
  have hS : va_S (gw_A G s.heap.size) s.heap s.heap [] := va_S.rf
  unfold f_X8_bind at h
  refine lv_aload_n hx hb dX8_bind_0 rfl (lv_at hl 0 rfl) ?_
  refine lv_iload hx hb dX8_bind_1 (lv_at hl 4 rfl) ?_
  obtain ⟨q2, gq2, h⟩ := Option.bind_eq_some_iff.mp h
  refine gw_cx X h (gw_xV_ (C := RX8) X hP hS (gc_X8_needFormula l hfl G a3 σ _ gq2) gk_X8_needFormula gv_997 ⟨gv_999, gv_s20⟩ (va_recv hT.2.1 hP (ci := 10) (q0 := 0) rfl rfl) rfl rfl (Nat.le_of_ble_eq_true rfl) hl.1 ⟨rfl, rfl⟩ ⟨Nat.le_of_ble_eq_true rfl, Nat.le_of_ble_eq_true rfl⟩ ⟨Nat.le_of_ble_eq_true rfl, Nat.le_of_ble_eq_true rfl⟩ dX8_bind_3) hS (Nat.le_of_ble_eq_true rfl) (Nat.le_of_ble_eq_true rfl) (fun u1 H locs h hP hS => ?_)
  refine lv_iload_n hx hb dX8_bind_6 rfl (lv_at hl 1 rfl) ?_
  refine lv_bipush (v := 65) hx hb dX8_bind_7 (by decide) ?_
  refine lv_icmp_eq (tgt := 28) hx hb dX8_bind_9 (by decide) (fun c => ?_) (fun c => ?_)
  · have h := (if_pos c).symm.trans h
    refine lv_iload_n hx hb dX8_bind_28 rfl (lv_at hl 2 rfl) ?_
    refine lv_if_lt (tgt := 37) hx hb dX8_bind_29 (by decide) (fun c => ?_) (fun c => ?_)
    · have h := (if_pos c).symm.trans h
      exact gw_thr X hP hS hfl ge_X8_143_147 (i := 20) rfl h hl.1 dX8_bind_37 dX8_bind_40 dX8_bind_41 dX8_bind_43 dX8_bind_46 ⟨Nat.le_of_ble_eq_true rfl, Nat.le_of_ble_eq_true rfl⟩ ⟨Nat.le_of_ble_eq_true rfl, Nat.le_of_ble_eq_true rfl⟩ (Nat.le_of_ble_eq_true rfl) (Nat.le_of_ble_eq_true rfl)
    · have h := (if_neg c).symm.trans h
      refine lv_iload_n hx hb dX8_bind_32 rfl (lv_at hl 2 rfl) ?_
      refine lv_iconst (v := 4) hx hb dX8_bind_33 (by decide) ?_
      refine lv_icmp_lt (tgt := 47) hx hb dX8_bind_34 (by decide) (fun c => ?_) (fun c => ?_)
      · have h := (if_pos c).symm.trans h
        refine lv_aload_n hx hb dX8_bind_47 rfl (lv_at hl 0 rfl) ?_
        refine lv_iload_n hx hb dX8_bind_48 rfl (lv_at hl 3 rfl) ?_
        obtain ⟨q4, gq4, h⟩ := Option.bind_eq_some_iff.mp h
        refine gw_cx X h (gw_xV_ (C := RX8) X hP hS (gc_X8_needTerm l hfl G a2 u1 _ gq4) gk_X8_needTerm gv_971 ⟨gv_973, gv_s18⟩ (va_recv hT.2.1 hP (ci := 10) (q0 := 0) rfl rfl) rfl rfl (Nat.le_of_ble_eq_true rfl) hl.1 ⟨rfl, rfl⟩ ⟨Nat.le_of_ble_eq_true rfl, Nat.le_of_ble_eq_true rfl⟩ ⟨Nat.le_of_ble_eq_true rfl, Nat.le_of_ble_eq_true rfl⟩ dX8_bind_49) hS (Nat.le_of_ble_eq_true rfl) (Nat.le_of_ble_eq_true rfl) (fun u3 H locs h hP hS => ?_)
        refine lv_iconst (v := 1) hx hb dX8_bind_52 (by decide) ?_
        refine lv_aload_n hx hb dX8_bind_53 rfl (lv_at hl 0 rfl) ?_
        refine va_get (D := G.1) (ci := 10) (v := .ref (G.2.1 11)) (C := RX8) (T := TX8) (N := 7) hx hb hts gx_X8 hown hT.2.1 hP 0 rfl rfl 2 (by decide) (hts _ gv_216) (fun _ h9 => h9) rfl dX8_bind_54 ?_
        refine lv_iload hx hb dX8_bind_57 (lv_at hl 4 rfl) ?_
        obtain ⟨p5, gp5, h⟩ := Option.bind_eq_some_iff.mp h
        refine gw_ci (gw_rV (C := RX1) X hP hS (gc_X1_depth l G a3 u3 _ gp5) gk_X1_depth gv_1003 ⟨gv_1004, gv_1005⟩ (va_recv hT.2.1 hP (ci := 4) (q0 := 11) rfl rfl) rfl rfl (Nat.le_of_ble_eq_true rfl) hl.1 ⟨rfl, rfl⟩ ⟨Nat.le_of_ble_eq_true rfl, Nat.le_of_ble_eq_true rfl⟩ ⟨Nat.le_of_ble_eq_true rfl, Nat.le_of_ble_eq_true rfl⟩ dX8_bind_59) hS (fun H locs hP hS => ?_)
        refine lv_iadd hx hb dX8_bind_62 ?_
        refine lv_istore (lv' := [(5, .int ((1 : Int32) + p5.1)), (0, .ref (G.2.1 0)), (1, .int a0), (2, .int a1), (3, .int a2), (4, .int a3)]) hx hb dX8_bind_63 hl (by decide) rfl (fun ls hl => ?_)
        refine lv_iload hx hb dX8_bind_65 (lv_at hl 0 rfl) ?_
        obtain ⟨q7, gq7, h⟩ := Option.bind_eq_some_iff.mp h
        refine gw_cx X h (gw_xS_ X hP hS (gc_X8_needDepth l hfl G ((1 : Int32) + p5.1) p5.2 _ gq7) gk_X8_needDepth gv_1008 gv_1009 rfl rfl (Nat.le_of_ble_eq_true rfl) hl.1 ⟨rfl, rfl⟩ ⟨Nat.le_of_ble_eq_true rfl, Nat.le_of_ble_eq_true rfl⟩ ⟨Nat.le_of_ble_eq_true rfl, Nat.le_of_ble_eq_true rfl⟩ dX8_bind_67) hS (Nat.le_of_ble_eq_true rfl) (Nat.le_of_ble_eq_true rfl) (fun u6 H locs h hP hS => ?_)
        refine lv_aload_n hx hb dX8_bind_70 rfl (lv_at hl 1 rfl) ?_
        obtain ⟨q9, gq9, h⟩ := Option.bind_eq_some_iff.mp h
        refine gw_cx X h (gw_xV_ (C := RX8) X hP hS (gc_X8_needRoomForFormula l hfl G  u6 _ gq9) gk_X8_needRoomForFormula gv_977 ⟨gv_979, gv_s19⟩ (va_recv hT.2.1 hP (ci := 10) (q0 := 0) rfl rfl) rfl rfl (Nat.le_of_ble_eq_true rfl) hl.1 ⟨rfl, rfl⟩ ⟨Nat.le_of_ble_eq_true rfl, Nat.le_of_ble_eq_true rfl⟩ ⟨Nat.le_of_ble_eq_true rfl, Nat.le_of_ble_eq_true rfl⟩ dX8_bind_71) hS (Nat.le_of_ble_eq_true rfl) (Nat.le_of_ble_eq_true rfl) (fun u8 H locs h hP hS => ?_)
        refine lv_aload_n hx hb dX8_bind_74 rfl (lv_at hl 1 rfl) ?_
        refine va_get (D := G.1) (ci := 10) (v := .ref (G.2.1 11)) (C := RX8) (T := TX8) (N := 7) hx hb hts gx_X8 hown hT.2.1 hP 0 rfl rfl 2 (by decide) (hts _ gv_216) (fun _ h9 => h9) rfl dX8_bind_75 ?_
        refine lv_iload hx hb dX8_bind_78 (lv_at hl 5 rfl) ?_
        obtain ⟨p10, gp10, h⟩ := Option.bind_eq_some_iff.mp h
        refine gw_ci (gw_rV (C := RX1) X hP hS (gc_X1_open l G a3 u8 _ gp10) gk_X1_open gv_332 ⟨gv_333, gv_334⟩ (va_recv hT.2.1 hP (ci := 4) (q0 := 11) rfl rfl) rfl rfl (Nat.le_of_ble_eq_true rfl) hl.1 ⟨rfl, rfl⟩ ⟨Nat.le_of_ble_eq_true rfl, Nat.le_of_ble_eq_true rfl⟩ ⟨Nat.le_of_ble_eq_true rfl, Nat.le_of_ble_eq_true rfl⟩ dX8_bind_80) hS (fun H locs hP hS => ?_)
        refine lv_iconst (v := 1) hx hb dX8_bind_83 (by decide) ?_
        refine lv_iload_n hx hb dX8_bind_84 rfl (lv_at hl 3 rfl) ?_
        refine lv_ishl hx hb dX8_bind_85 ?_
        refine lv_iconst (v := -1) hx hb dX8_bind_86 (by decide) ?_
        refine lv_ixor hx hb dX8_bind_87 ?_
        refine lv_iand hx hb dX8_bind_88 ?_
        refine lv_iload_n hx hb dX8_bind_89 rfl (lv_at hl 4 rfl) ?_
        obtain ⟨p11, gp11, h⟩ := Option.bind_eq_some_iff.mp h
        refine gw_ci (gw_rS X hP hS (gc_X8_letterOf l G a2 p10.2 _ gp11) gk_X8_letterOf gv_982 gv_983 rfl rfl (Nat.le_of_ble_eq_true rfl) hl.1 ⟨rfl, rfl⟩ ⟨Nat.le_of_ble_eq_true rfl, Nat.le_of_ble_eq_true rfl⟩ ⟨Nat.le_of_ble_eq_true rfl, Nat.le_of_ble_eq_true rfl⟩ dX8_bind_90) hS (fun H locs hP hS => ?_)
        refine lv_ior hx hb dX8_bind_93 ?_
        refine lv_istore (lv' := [(6, .int ((p10.1 &&& (((1 : Int32) <<< (a1 &&& 31)) ^^^ (-1 : Int32))) ||| p11.1)), (5, .int ((1 : Int32) + p5.1)), (0, .ref (G.2.1 0)), (1, .int a0), (2, .int a1), (3, .int a2), (4, .int a3)]) hx hb dX8_bind_94 hl (by decide) rfl (fun ls hl => ?_)
        refine lv_aload_n hx hb dX8_bind_96 rfl (lv_at hl 2 rfl) ?_
        refine va_get (D := G.1) (ci := 10) (v := .ref (G.2.1 11)) (C := RX8) (T := TX8) (N := 7) hx hb hts gx_X8 hown hT.2.1 hP 0 rfl rfl 2 (by decide) (hts _ gv_216) (fun _ h9 => h9) rfl dX8_bind_97 ?_
        refine lv_iload_n hx hb dX8_bind_100 rfl (lv_at hl 3 rfl) ?_
        refine lv_iload_n hx hb dX8_bind_101 rfl (lv_at hl 5 rfl) ?_
        refine lv_iload hx hb dX8_bind_102 (lv_at hl 6 rfl) ?_
        refine lv_iload_n hx hb dX8_bind_104 rfl (lv_at hl 4 rfl) ?_
        refine lv_iload hx hb dX8_bind_105 (lv_at hl 1 rfl) ?_
        refine lv_iload hx hb dX8_bind_107 (lv_at hl 0 rfl) ?_
        obtain ⟨p12, gp12, h⟩ := Option.bind_eq_some_iff.mp h
        refine gw_ci (gw_rV (C := RX1) X hP hS (gc_X1_add l G a0 a2 a3 a1 ((1 : Int32) + p5.1) ((p10.1 &&& (((1 : Int32) <<< (a1 &&& 31)) ^^^ (-1 : Int32))) ||| p11.1) p11.2 _ gp12) gk_X1_add gv_985 ⟨gv_986, gv_987⟩ (va_recv hT.2.1 hP (ci := 4) (q0 := 11) rfl rfl) rfl rfl (Nat.le_of_ble_eq_true rfl) hl.1 ⟨rfl, rfl⟩ ⟨Nat.le_of_ble_eq_true rfl, Nat.le_of_ble_eq_true rfl⟩ ⟨Nat.le_of_ble_eq_true rfl, Nat.le_of_ble_eq_true rfl⟩ dX8_bind_109) hS (fun H locs hP hS => ?_)
        exact gw_xri X hP hS (Nat.le_of_ble_eq_true rfl) (Nat.le_of_ble_eq_true rfl) h dX8_bind_112
      · have h := (if_neg c).symm.trans h
        exact gw_thr X hP hS hfl ge_X8_143_147 (i := 20) rfl h hl.1 dX8_bind_37 dX8_bind_40 dX8_bind_41 dX8_bind_43 dX8_bind_46 ⟨Nat.le_of_ble_eq_true rfl, Nat.le_of_ble_eq_true rfl⟩ ⟨Nat.le_of_ble_eq_true rfl, Nat.le_of_ble_eq_true rfl⟩ (Nat.le_of_ble_eq_true rfl) (Nat.le_of_ble_eq_true rfl)
  · have h := (if_neg c).symm.trans h
    refine lv_iload_n hx hb dX8_bind_12 rfl (lv_at hl 1 rfl) ?_
    refine lv_bipush (v := 69) hx hb dX8_bind_13 (by decide) ?_
    refine lv_icmp_eq (tgt := 28) hx hb dX8_bind_15 (by decide) (fun c => ?_) (fun c => ?_)
    · have h := (if_pos c).symm.trans h
      refine lv_iload_n hx hb dX8_bind_28 rfl (lv_at hl 2 rfl) ?_
      refine lv_if_lt (tgt := 37) hx hb dX8_bind_29 (by decide) (fun c => ?_) (fun c => ?_)
      · have h := (if_pos c).symm.trans h
        exact gw_thr X hP hS hfl ge_X8_143_147 (i := 20) rfl h hl.1 dX8_bind_37 dX8_bind_40 dX8_bind_41 dX8_bind_43 dX8_bind_46 ⟨Nat.le_of_ble_eq_true rfl, Nat.le_of_ble_eq_true rfl⟩ ⟨Nat.le_of_ble_eq_true rfl, Nat.le_of_ble_eq_true rfl⟩ (Nat.le_of_ble_eq_true rfl) (Nat.le_of_ble_eq_true rfl)
      · have h := (if_neg c).symm.trans h
        refine lv_iload_n hx hb dX8_bind_32 rfl (lv_at hl 2 rfl) ?_
        refine lv_iconst (v := 4) hx hb dX8_bind_33 (by decide) ?_
        refine lv_icmp_lt (tgt := 47) hx hb dX8_bind_34 (by decide) (fun c => ?_) (fun c => ?_)
        · have h := (if_pos c).symm.trans h
          refine lv_aload_n hx hb dX8_bind_47 rfl (lv_at hl 0 rfl) ?_
          refine lv_iload_n hx hb dX8_bind_48 rfl (lv_at hl 3 rfl) ?_
          obtain ⟨q14, gq14, h⟩ := Option.bind_eq_some_iff.mp h
          refine gw_cx X h (gw_xV_ (C := RX8) X hP hS (gc_X8_needTerm l hfl G a2 u1 _ gq14) gk_X8_needTerm gv_971 ⟨gv_973, gv_s18⟩ (va_recv hT.2.1 hP (ci := 10) (q0 := 0) rfl rfl) rfl rfl (Nat.le_of_ble_eq_true rfl) hl.1 ⟨rfl, rfl⟩ ⟨Nat.le_of_ble_eq_true rfl, Nat.le_of_ble_eq_true rfl⟩ ⟨Nat.le_of_ble_eq_true rfl, Nat.le_of_ble_eq_true rfl⟩ dX8_bind_49) hS (Nat.le_of_ble_eq_true rfl) (Nat.le_of_ble_eq_true rfl) (fun u13 H locs h hP hS => ?_)
          refine lv_iconst (v := 1) hx hb dX8_bind_52 (by decide) ?_
          refine lv_aload_n hx hb dX8_bind_53 rfl (lv_at hl 0 rfl) ?_
          refine va_get (D := G.1) (ci := 10) (v := .ref (G.2.1 11)) (C := RX8) (T := TX8) (N := 7) hx hb hts gx_X8 hown hT.2.1 hP 0 rfl rfl 2 (by decide) (hts _ gv_216) (fun _ h9 => h9) rfl dX8_bind_54 ?_
          refine lv_iload hx hb dX8_bind_57 (lv_at hl 4 rfl) ?_
          obtain ⟨p15, gp15, h⟩ := Option.bind_eq_some_iff.mp h
          refine gw_ci (gw_rV (C := RX1) X hP hS (gc_X1_depth l G a3 u13 _ gp15) gk_X1_depth gv_1003 ⟨gv_1004, gv_1005⟩ (va_recv hT.2.1 hP (ci := 4) (q0 := 11) rfl rfl) rfl rfl (Nat.le_of_ble_eq_true rfl) hl.1 ⟨rfl, rfl⟩ ⟨Nat.le_of_ble_eq_true rfl, Nat.le_of_ble_eq_true rfl⟩ ⟨Nat.le_of_ble_eq_true rfl, Nat.le_of_ble_eq_true rfl⟩ dX8_bind_59) hS (fun H locs hP hS => ?_)
          refine lv_iadd hx hb dX8_bind_62 ?_
          refine lv_istore (lv' := [(5, .int ((1 : Int32) + p15.1)), (0, .ref (G.2.1 0)), (1, .int a0), (2, .int a1), (3, .int a2), (4, .int a3)]) hx hb dX8_bind_63 hl (by decide) rfl (fun ls hl => ?_)
          refine lv_iload hx hb dX8_bind_65 (lv_at hl 0 rfl) ?_
          obtain ⟨q17, gq17, h⟩ := Option.bind_eq_some_iff.mp h
          refine gw_cx X h (gw_xS_ X hP hS (gc_X8_needDepth l hfl G ((1 : Int32) + p15.1) p15.2 _ gq17) gk_X8_needDepth gv_1008 gv_1009 rfl rfl (Nat.le_of_ble_eq_true rfl) hl.1 ⟨rfl, rfl⟩ ⟨Nat.le_of_ble_eq_true rfl, Nat.le_of_ble_eq_true rfl⟩ ⟨Nat.le_of_ble_eq_true rfl, Nat.le_of_ble_eq_true rfl⟩ dX8_bind_67) hS (Nat.le_of_ble_eq_true rfl) (Nat.le_of_ble_eq_true rfl) (fun u16 H locs h hP hS => ?_)
          refine lv_aload_n hx hb dX8_bind_70 rfl (lv_at hl 1 rfl) ?_
          obtain ⟨q19, gq19, h⟩ := Option.bind_eq_some_iff.mp h
          refine gw_cx X h (gw_xV_ (C := RX8) X hP hS (gc_X8_needRoomForFormula l hfl G  u16 _ gq19) gk_X8_needRoomForFormula gv_977 ⟨gv_979, gv_s19⟩ (va_recv hT.2.1 hP (ci := 10) (q0 := 0) rfl rfl) rfl rfl (Nat.le_of_ble_eq_true rfl) hl.1 ⟨rfl, rfl⟩ ⟨Nat.le_of_ble_eq_true rfl, Nat.le_of_ble_eq_true rfl⟩ ⟨Nat.le_of_ble_eq_true rfl, Nat.le_of_ble_eq_true rfl⟩ dX8_bind_71) hS (Nat.le_of_ble_eq_true rfl) (Nat.le_of_ble_eq_true rfl) (fun u18 H locs h hP hS => ?_)
          refine lv_aload_n hx hb dX8_bind_74 rfl (lv_at hl 1 rfl) ?_
          refine va_get (D := G.1) (ci := 10) (v := .ref (G.2.1 11)) (C := RX8) (T := TX8) (N := 7) hx hb hts gx_X8 hown hT.2.1 hP 0 rfl rfl 2 (by decide) (hts _ gv_216) (fun _ h9 => h9) rfl dX8_bind_75 ?_
          refine lv_iload hx hb dX8_bind_78 (lv_at hl 5 rfl) ?_
          obtain ⟨p20, gp20, h⟩ := Option.bind_eq_some_iff.mp h
          refine gw_ci (gw_rV (C := RX1) X hP hS (gc_X1_open l G a3 u18 _ gp20) gk_X1_open gv_332 ⟨gv_333, gv_334⟩ (va_recv hT.2.1 hP (ci := 4) (q0 := 11) rfl rfl) rfl rfl (Nat.le_of_ble_eq_true rfl) hl.1 ⟨rfl, rfl⟩ ⟨Nat.le_of_ble_eq_true rfl, Nat.le_of_ble_eq_true rfl⟩ ⟨Nat.le_of_ble_eq_true rfl, Nat.le_of_ble_eq_true rfl⟩ dX8_bind_80) hS (fun H locs hP hS => ?_)
          refine lv_iconst (v := 1) hx hb dX8_bind_83 (by decide) ?_
          refine lv_iload_n hx hb dX8_bind_84 rfl (lv_at hl 3 rfl) ?_
          refine lv_ishl hx hb dX8_bind_85 ?_
          refine lv_iconst (v := -1) hx hb dX8_bind_86 (by decide) ?_
          refine lv_ixor hx hb dX8_bind_87 ?_
          refine lv_iand hx hb dX8_bind_88 ?_
          refine lv_iload_n hx hb dX8_bind_89 rfl (lv_at hl 4 rfl) ?_
          obtain ⟨p21, gp21, h⟩ := Option.bind_eq_some_iff.mp h
          refine gw_ci (gw_rS X hP hS (gc_X8_letterOf l G a2 p20.2 _ gp21) gk_X8_letterOf gv_982 gv_983 rfl rfl (Nat.le_of_ble_eq_true rfl) hl.1 ⟨rfl, rfl⟩ ⟨Nat.le_of_ble_eq_true rfl, Nat.le_of_ble_eq_true rfl⟩ ⟨Nat.le_of_ble_eq_true rfl, Nat.le_of_ble_eq_true rfl⟩ dX8_bind_90) hS (fun H locs hP hS => ?_)
          refine lv_ior hx hb dX8_bind_93 ?_
          refine lv_istore (lv' := [(6, .int ((p20.1 &&& (((1 : Int32) <<< (a1 &&& 31)) ^^^ (-1 : Int32))) ||| p21.1)), (5, .int ((1 : Int32) + p15.1)), (0, .ref (G.2.1 0)), (1, .int a0), (2, .int a1), (3, .int a2), (4, .int a3)]) hx hb dX8_bind_94 hl (by decide) rfl (fun ls hl => ?_)
          refine lv_aload_n hx hb dX8_bind_96 rfl (lv_at hl 2 rfl) ?_
          refine va_get (D := G.1) (ci := 10) (v := .ref (G.2.1 11)) (C := RX8) (T := TX8) (N := 7) hx hb hts gx_X8 hown hT.2.1 hP 0 rfl rfl 2 (by decide) (hts _ gv_216) (fun _ h9 => h9) rfl dX8_bind_97 ?_
          refine lv_iload_n hx hb dX8_bind_100 rfl (lv_at hl 3 rfl) ?_
          refine lv_iload_n hx hb dX8_bind_101 rfl (lv_at hl 5 rfl) ?_
          refine lv_iload hx hb dX8_bind_102 (lv_at hl 6 rfl) ?_
          refine lv_iload_n hx hb dX8_bind_104 rfl (lv_at hl 4 rfl) ?_
          refine lv_iload hx hb dX8_bind_105 (lv_at hl 1 rfl) ?_
          refine lv_iload hx hb dX8_bind_107 (lv_at hl 0 rfl) ?_
          obtain ⟨p22, gp22, h⟩ := Option.bind_eq_some_iff.mp h
          refine gw_ci (gw_rV (C := RX1) X hP hS (gc_X1_add l G a0 a2 a3 a1 ((1 : Int32) + p15.1) ((p20.1 &&& (((1 : Int32) <<< (a1 &&& 31)) ^^^ (-1 : Int32))) ||| p21.1) p21.2 _ gp22) gk_X1_add gv_985 ⟨gv_986, gv_987⟩ (va_recv hT.2.1 hP (ci := 4) (q0 := 11) rfl rfl) rfl rfl (Nat.le_of_ble_eq_true rfl) hl.1 ⟨rfl, rfl⟩ ⟨Nat.le_of_ble_eq_true rfl, Nat.le_of_ble_eq_true rfl⟩ ⟨Nat.le_of_ble_eq_true rfl, Nat.le_of_ble_eq_true rfl⟩ dX8_bind_109) hS (fun H locs hP hS => ?_)
          exact gw_xri X hP hS (Nat.le_of_ble_eq_true rfl) (Nat.le_of_ble_eq_true rfl) h dX8_bind_112
        · have h := (if_neg c).symm.trans h
          exact gw_thr X hP hS hfl ge_X8_143_147 (i := 20) rfl h hl.1 dX8_bind_37 dX8_bind_40 dX8_bind_41 dX8_bind_43 dX8_bind_46 ⟨Nat.le_of_ble_eq_true rfl, Nat.le_of_ble_eq_true rfl⟩ ⟨Nat.le_of_ble_eq_true rfl, Nat.le_of_ble_eq_true rfl⟩ (Nat.le_of_ble_eq_true rfl) (Nat.le_of_ble_eq_true rfl)
    · have h := (if_neg c).symm.trans h
      exact gw_thr X hP hS hfl ge_X8_143_147 (i := 15) rfl h hl.1 dX8_bind_18 dX8_bind_21 dX8_bind_22 dX8_bind_24 dX8_bind_27 ⟨Nat.le_of_ble_eq_true rfl, Nat.le_of_ble_eq_true rfl⟩ ⟨Nat.le_of_ble_eq_true rfl, Nat.le_of_ble_eq_true rfl⟩ (Nat.le_of_ble_eq_true rfl) (Nat.le_of_ble_eq_true rfl)
def f_X8_free (a0 : Int32) (σ : gw_S) : Option ((Int32 ⊕ String) × gw_S) := ((f_X8_needFormula a0 σ).bind fun q2 => gw_bx q2 fun u1 => ((f_X1_open a0 u1).bind fun p3 => (some (Sum.inl p3.1, p3.2))))
set_option maxHeartbeats 4000000 in
set_option maxRecDepth 100000 in
theorem gc_X8_free (l : Launch) (hfl : l.stackTraces = false) (G : gw_G) (a0 : Int32) (σ : gw_S) (o : ((Int32 ⊕ String) × gw_S)) (h : f_X8_free a0 σ = some o) : gw_N (fun sz => gw_xI G sz o) (fun sz => gw_XC G sz o) 1 l yX8_free cX8_free 2 (some .int) { frames := 7, cells := 1, slots := 6, locals := 103 } G [.ref (G.2.1 0), .int a0] σ := by
  refine gw_enx (own := RX8) (lv := [(0, .ref (G.2.1 0)), (1, .int a0)]) (by decide +kernel) rfl (Nat.le_of_ble_eq_true rfl) rfl ?_
  intro p e s m below meth c ls X hl hP
  obtain ⟨hx, hb, hml, hown, hts, -, -, hT, hZ, -⟩ := id X
  have hS : va_S (gw_A G s.heap.size) s.heap s.heap [] := va_S.rf
  unfold f_X8_free at h
  refine lv_aload_n hx hb dX8_free_0 rfl (lv_at hl 0 rfl) ?_
  refine lv_iload_n hx hb dX8_free_1 rfl (lv_at hl 1 rfl) ?_
  obtain ⟨q2, gq2, h⟩ := Option.bind_eq_some_iff.mp h
  refine gw_cx X h (gw_xV_ (C := RX8) X hP hS (gc_X8_needFormula l hfl G a0 σ _ gq2) gk_X8_needFormula gv_997 ⟨gv_999, gv_s20⟩ (va_recv hT.2.1 hP (ci := 10) (q0 := 0) rfl rfl) rfl rfl (Nat.le_of_ble_eq_true rfl) hl.1 ⟨rfl, rfl⟩ ⟨Nat.le_of_ble_eq_true rfl, Nat.le_of_ble_eq_true rfl⟩ ⟨Nat.le_of_ble_eq_true rfl, Nat.le_of_ble_eq_true rfl⟩ dX8_free_2) hS (Nat.le_of_ble_eq_true rfl) (Nat.le_of_ble_eq_true rfl) (fun u1 H locs h hP hS => ?_)
  refine lv_aload_n hx hb dX8_free_5 rfl (lv_at hl 0 rfl) ?_
  refine va_get (D := G.1) (ci := 10) (v := .ref (G.2.1 11)) (C := RX8) (T := TX8) (N := 7) hx hb hts gx_X8 hown hT.2.1 hP 0 rfl rfl 2 (by decide) (hts _ gv_216) (fun _ h9 => h9) rfl dX8_free_6 ?_
  refine lv_iload_n hx hb dX8_free_9 rfl (lv_at hl 1 rfl) ?_
  obtain ⟨p3, gp3, h⟩ := Option.bind_eq_some_iff.mp h
  refine gw_ci (gw_rV (C := RX1) X hP hS (gc_X1_open l G a0 u1 _ gp3) gk_X1_open gv_332 ⟨gv_333, gv_334⟩ (va_recv hT.2.1 hP (ci := 4) (q0 := 11) rfl rfl) rfl rfl (Nat.le_of_ble_eq_true rfl) hl.1 ⟨rfl, rfl⟩ ⟨Nat.le_of_ble_eq_true rfl, Nat.le_of_ble_eq_true rfl⟩ ⟨Nat.le_of_ble_eq_true rfl, Nat.le_of_ble_eq_true rfl⟩ dX8_free_10) hS (fun H locs hP hS => ?_)
  exact gw_xri X hP hS (Nat.le_of_ble_eq_true rfl) (Nat.le_of_ble_eq_true rfl) h dX8_free_13
def f_X8_value (a0 : Int32) (σ : gw_S) : Option ((Int32 ⊕ String) × gw_S) := ((f_X8_needClosed a0 σ).bind fun q2 => gw_bx q2 fun u1 => ((f_X5_judge_V a0 u1).bind fun p3 => (some (Sum.inl p3.1, p3.2))))
set_option maxHeartbeats 4000000 in
set_option maxRecDepth 100000 in
theorem gc_X8_value (l : Launch) (hfl : l.stackTraces = false) (G : gw_G) (a0 : Int32) (σ : gw_S) (o : ((Int32 ⊕ String) × gw_S)) (h : f_X8_value a0 σ = some o) : gw_N (fun sz => gw_xI G sz o) (fun sz => gw_XC G sz o) 2 l yX8_value cX8_value 2 (some .int) { frames := 301, cells := 2, slots := 12, locals := 5021 } G [.ref (G.2.1 0), .int a0] σ := by
  refine gw_enx (own := RX8) (lv := [(0, .ref (G.2.1 0)), (1, .int a0)]) (by decide +kernel) rfl (Nat.le_of_ble_eq_true rfl) rfl ?_
  intro p e s m below meth c ls X hl hP
  obtain ⟨hx, hb, hml, hown, hts, -, -, hT, hZ, -⟩ := id X
  have hS : va_S (gw_A G s.heap.size) s.heap s.heap [] := va_S.rf
  unfold f_X8_value at h
  refine lv_aload_n hx hb dX8_value_0 rfl (lv_at hl 0 rfl) ?_
  refine lv_iload_n hx hb dX8_value_1 rfl (lv_at hl 1 rfl) ?_
  obtain ⟨q2, gq2, h⟩ := Option.bind_eq_some_iff.mp h
  refine gw_cx X h (gw_xV_ (C := RX8) X hP hS (gc_X8_needClosed l hfl G a0 σ _ gq2) gk_X8_needClosed gv_1041 ⟨gv_1043, gv_s21⟩ (va_recv hT.2.1 hP (ci := 10) (q0 := 0) rfl rfl) rfl rfl (Nat.le_of_ble_eq_true rfl) hl.1 ⟨rfl, rfl⟩ ⟨Nat.le_of_ble_eq_true rfl, Nat.le_of_ble_eq_true rfl⟩ ⟨Nat.le_of_ble_eq_true rfl, Nat.le_of_ble_eq_true rfl⟩ dX8_value_2) hS (Nat.le_of_ble_eq_true rfl) (Nat.le_of_ble_eq_true rfl) (fun u1 H locs h hP hS => ?_)
  refine lv_aload_n hx hb dX8_value_5 rfl (lv_at hl 0 rfl) ?_
  refine va_get (D := G.1) (ci := 10) (v := .ref (G.2.1 18)) (C := RX8) (T := TX8) (N := 7) hx hb hts gx_X8 hown hT.2.1 hP 0 rfl rfl 3 (by decide) (hts _ gv_217) (fun _ h9 => h9) rfl dX8_value_6 ?_
  refine lv_iload_n hx hb dX8_value_9 rfl (lv_at hl 1 rfl) ?_
  obtain ⟨p3, gp3, h⟩ := Option.bind_eq_some_iff.mp h
  refine gw_ci (gw_rU (x := ⟨"Genericwood$Way", "judge", "(I)I"⟩) (owner := "Genericwood$Way") (C := RX4) X hP hS (gc_X5_judge_V l G a0 u1 _ gp3) gk_X5_judge ⟨by decide +kernel, by decide +kernel⟩ gv_337 ⟨gv_339, gv_341, gv_338⟩ (va_Decl.of (hts _ gv_338) (hts _ gk_X5_judge.1)) (va_recv hT.2.1 hP (ci := 7) (q0 := 18) rfl rfl) rfl rfl (Nat.le_of_ble_eq_true rfl) hl.1 ⟨rfl, rfl⟩ ⟨Nat.le_of_ble_eq_true rfl, Nat.le_of_ble_eq_true rfl⟩ ⟨Nat.le_of_ble_eq_true rfl, Nat.le_of_ble_eq_true rfl⟩ dX8_value_10) hS (fun H locs hP hS => ?_)
  exact gw_xri X hP hS (Nat.le_of_ble_eq_true rfl) (Nat.le_of_ble_eq_true rfl) h dX8_value_13
def f_X8_forces (a0 : Int32) (a1 : Int32) (σ : gw_S) : Option ((Int32 ⊕ String) × gw_S) := ((f_X8_needCondition a0 σ).bind fun q2 => gw_bx q2 fun u1 => ((f_X8_needClosed a1 u1).bind fun q4 => gw_bx q4 fun u3 => ((f_X5_judge_F a1 u3).bind fun p5 => ((f_X8_contains p5.1 a0 p5.2).bind fun p6 => (some (Sum.inl p6.1, p6.2))))))
set_option maxHeartbeats 4000000 in
set_option maxRecDepth 100000 in
theorem gc_X8_forces (l : Launch) (hfl : l.stackTraces = false) (G : gw_G) (a0 : Int32) (a1 : Int32) (σ : gw_S) (o : ((Int32 ⊕ String) × gw_S)) (h : f_X8_forces a0 a1 σ = some o) : gw_N (fun sz => gw_xZ G sz o) (fun sz => gw_XC G sz o) 3 l yX8_forces cX8_forces 3 (some .boolean) { frames := 301, cells := 3, slots := 18, locals := 5021 } G [.ref (G.2.1 0), .int a0, .int a1] σ := by
  refine gw_enx (own := RX8) (lv := [(0, .ref (G.2.1 0)), (1, .int a0), (2, .int a1)]) (by decide +kernel) rfl (Nat.le_of_ble_eq_true rfl) rfl ?_
  intro p e s m below meth c ls X hl hP
  obtain ⟨hx, hb, hml, hown, hts, -, -, hT, hZ, -⟩ := id X
  have hS : va_S (gw_A G s.heap.size) s.heap s.heap [] := va_S.rf
  unfold f_X8_forces at h
  refine lv_aload_n hx hb dX8_forces_0 rfl (lv_at hl 0 rfl) ?_
  refine lv_iload_n hx hb dX8_forces_1 rfl (lv_at hl 1 rfl) ?_
  obtain ⟨q2, gq2, h⟩ := Option.bind_eq_some_iff.mp h
  refine gw_cx X h (gw_xV_ (C := RX8) X hP hS (gc_X8_needCondition l hfl G a0 σ _ gq2) gk_X8_needCondition gv_645 ⟨gv_647, gv_s8⟩ (va_recv hT.2.1 hP (ci := 10) (q0 := 0) rfl rfl) rfl rfl (Nat.le_of_ble_eq_true rfl) hl.1 ⟨rfl, rfl⟩ ⟨Nat.le_of_ble_eq_true rfl, Nat.le_of_ble_eq_true rfl⟩ ⟨Nat.le_of_ble_eq_true rfl, Nat.le_of_ble_eq_true rfl⟩ dX8_forces_2) hS (Nat.le_of_ble_eq_true rfl) (Nat.le_of_ble_eq_true rfl) (fun u1 H locs h hP hS => ?_)
  refine lv_aload_n hx hb dX8_forces_5 rfl (lv_at hl 0 rfl) ?_
  refine lv_iload_n hx hb dX8_forces_6 rfl (lv_at hl 2 rfl) ?_
  obtain ⟨q4, gq4, h⟩ := Option.bind_eq_some_iff.mp h
  refine gw_cx X h (gw_xV_ (C := RX8) X hP hS (gc_X8_needClosed l hfl G a1 u1 _ gq4) gk_X8_needClosed gv_1041 ⟨gv_1043, gv_s21⟩ (va_recv hT.2.1 hP (ci := 10) (q0 := 0) rfl rfl) rfl rfl (Nat.le_of_ble_eq_true rfl) hl.1 ⟨rfl, rfl⟩ ⟨Nat.le_of_ble_eq_true rfl, Nat.le_of_ble_eq_true rfl⟩ ⟨Nat.le_of_ble_eq_true rfl, Nat.le_of_ble_eq_true rfl⟩ dX8_forces_7) hS (Nat.le_of_ble_eq_true rfl) (Nat.le_of_ble_eq_true rfl) (fun u3 H locs h hP hS => ?_)
  refine lv_aload_n hx hb dX8_forces_10 rfl (lv_at hl 0 rfl) ?_
  refine va_get (D := G.1) (ci := 10) (v := .ref (G.2.1 22)) (C := RX8) (T := TX8) (N := 7) hx hb hts gx_X8 hown hT.2.1 hP 0 rfl rfl 4 (by decide) (hts _ gv_218) (fun _ h9 => h9) rfl dX8_forces_11 ?_
  refine lv_iload_n hx hb dX8_forces_14 rfl (lv_at hl 2 rfl) ?_
  obtain ⟨p5, gp5, h⟩ := Option.bind_eq_some_iff.mp h
  refine gw_ci (gw_rU (x := ⟨"Genericwood$Way", "judge", "(I)I"⟩) (owner := "Genericwood$Way") (C := RX0) X hP hS (gc_X5_judge_F l G a1 u3 _ gp5) gk_X5_judge ⟨by decide +kernel, by decide +kernel⟩ gv_337 ⟨gv_339, gv_340, gv_338⟩ (va_Decl.of (hts _ gv_338) (hts _ gk_X5_judge.1)) (va_recv hT.2.1 hP (ci := 3) (q0 := 22) rfl rfl) rfl rfl (Nat.le_of_ble_eq_true rfl) hl.1 ⟨rfl, rfl⟩ ⟨Nat.le_of_ble_eq_true rfl, Nat.le_of_ble_eq_true rfl⟩ ⟨Nat.le_of_ble_eq_true rfl, Nat.le_of_ble_eq_true rfl⟩ dX8_forces_15) hS (fun H locs hP hS => ?_)
  refine lv_iload_n hx hb dX8_forces_18 rfl (lv_at hl 1 rfl) ?_
  obtain ⟨p6, gp6, h⟩ := Option.bind_eq_some_iff.mp h
  refine gw_cz (gw_rS X hP hS (gc_X8_contains l G p5.1 a0 p5.2 _ gp6) gk_X8_contains gv_485 gv_278 rfl rfl (Nat.le_of_ble_eq_true rfl) hl.1 ⟨rfl, rfl⟩ ⟨Nat.le_of_ble_eq_true rfl, Nat.le_of_ble_eq_true rfl⟩ ⟨Nat.le_of_ble_eq_true rfl, Nat.le_of_ble_eq_true rfl⟩ dX8_forces_19) hS (fun H locs hb_p6 hP hS => ?_)
  exact gw_xrz X hP hS hb_p6 (Nat.le_of_ble_eq_true rfl) (Nat.le_of_ble_eq_true rfl) h dX8_forces_22
def f_X8_weakly (a0 : Int32) (a1 : Int32) (σ : gw_S) : Option ((Int32 ⊕ String) × gw_S) := ((f_X8_needCondition a0 σ).bind fun q2 => gw_bx q2 fun u1 => ((f_X8_needClosed a1 u1).bind fun q4 => gw_bx q4 fun u3 => ((f_X5_judge_W a1 u3).bind fun p5 => ((f_X8_contains p5.1 a0 p5.2).bind fun p6 => (some (Sum.inl p6.1, p6.2))))))
set_option maxHeartbeats 4000000 in
set_option maxRecDepth 100000 in
theorem gc_X8_weakly (l : Launch) (hfl : l.stackTraces = false) (G : gw_G) (a0 : Int32) (a1 : Int32) (σ : gw_S) (o : ((Int32 ⊕ String) × gw_S)) (h : f_X8_weakly a0 a1 σ = some o) : gw_N (fun sz => gw_xZ G sz o) (fun sz => gw_XC G sz o) 3 l yX8_weakly cX8_weakly 3 (some .boolean) { frames := 301, cells := 3, slots := 18, locals := 5021 } G [.ref (G.2.1 0), .int a0, .int a1] σ := by
  refine gw_enx (own := RX8) (lv := [(0, .ref (G.2.1 0)), (1, .int a0), (2, .int a1)]) (by decide +kernel) rfl (Nat.le_of_ble_eq_true rfl) rfl ?_
  intro p e s m below meth c ls X hl hP
  obtain ⟨hx, hb, hml, hown, hts, -, -, hT, hZ, -⟩ := id X
  have hS : va_S (gw_A G s.heap.size) s.heap s.heap [] := va_S.rf
  unfold f_X8_weakly at h
  refine lv_aload_n hx hb dX8_weakly_0 rfl (lv_at hl 0 rfl) ?_
  refine lv_iload_n hx hb dX8_weakly_1 rfl (lv_at hl 1 rfl) ?_
  obtain ⟨q2, gq2, h⟩ := Option.bind_eq_some_iff.mp h
  refine gw_cx X h (gw_xV_ (C := RX8) X hP hS (gc_X8_needCondition l hfl G a0 σ _ gq2) gk_X8_needCondition gv_645 ⟨gv_647, gv_s8⟩ (va_recv hT.2.1 hP (ci := 10) (q0 := 0) rfl rfl) rfl rfl (Nat.le_of_ble_eq_true rfl) hl.1 ⟨rfl, rfl⟩ ⟨Nat.le_of_ble_eq_true rfl, Nat.le_of_ble_eq_true rfl⟩ ⟨Nat.le_of_ble_eq_true rfl, Nat.le_of_ble_eq_true rfl⟩ dX8_weakly_2) hS (Nat.le_of_ble_eq_true rfl) (Nat.le_of_ble_eq_true rfl) (fun u1 H locs h hP hS => ?_)
  refine lv_aload_n hx hb dX8_weakly_5 rfl (lv_at hl 0 rfl) ?_
  refine lv_iload_n hx hb dX8_weakly_6 rfl (lv_at hl 2 rfl) ?_
  obtain ⟨q4, gq4, h⟩ := Option.bind_eq_some_iff.mp h
  refine gw_cx X h (gw_xV_ (C := RX8) X hP hS (gc_X8_needClosed l hfl G a1 u1 _ gq4) gk_X8_needClosed gv_1041 ⟨gv_1043, gv_s21⟩ (va_recv hT.2.1 hP (ci := 10) (q0 := 0) rfl rfl) rfl rfl (Nat.le_of_ble_eq_true rfl) hl.1 ⟨rfl, rfl⟩ ⟨Nat.le_of_ble_eq_true rfl, Nat.le_of_ble_eq_true rfl⟩ ⟨Nat.le_of_ble_eq_true rfl, Nat.le_of_ble_eq_true rfl⟩ dX8_weakly_7) hS (Nat.le_of_ble_eq_true rfl) (Nat.le_of_ble_eq_true rfl) (fun u3 H locs h hP hS => ?_)
  refine lv_aload_n hx hb dX8_weakly_10 rfl (lv_at hl 0 rfl) ?_
  refine va_get (D := G.1) (ci := 10) (v := .ref (G.2.1 26)) (C := RX8) (T := TX8) (N := 7) hx hb hts gx_X8 hown hT.2.1 hP 0 rfl rfl 5 (by decide) (hts _ gv_219) (fun _ h9 => h9) rfl dX8_weakly_11 ?_
  refine lv_iload_n hx hb dX8_weakly_14 rfl (lv_at hl 2 rfl) ?_
  obtain ⟨p5, gp5, h⟩ := Option.bind_eq_some_iff.mp h
  refine gw_ci (gw_rU (x := ⟨"Genericwood$Way", "judge", "(I)I"⟩) (owner := "Genericwood$Way") (C := RX6) X hP hS (gc_X5_judge_W l G a1 u3 _ gp5) gk_X5_judge ⟨by decide +kernel, by decide +kernel⟩ gv_337 ⟨gv_339, gv_342, gv_338⟩ (va_Decl.of (hts _ gv_338) (hts _ gk_X5_judge.1)) (va_recv hT.2.1 hP (ci := 8) (q0 := 26) rfl rfl) rfl rfl (Nat.le_of_ble_eq_true rfl) hl.1 ⟨rfl, rfl⟩ ⟨Nat.le_of_ble_eq_true rfl, Nat.le_of_ble_eq_true rfl⟩ ⟨Nat.le_of_ble_eq_true rfl, Nat.le_of_ble_eq_true rfl⟩ dX8_weakly_15) hS (fun H locs hP hS => ?_)
  refine lv_iload_n hx hb dX8_weakly_18 rfl (lv_at hl 1 rfl) ?_
  obtain ⟨p6, gp6, h⟩ := Option.bind_eq_some_iff.mp h
  refine gw_cz (gw_rS X hP hS (gc_X8_contains l G p5.1 a0 p5.2 _ gp6) gk_X8_contains gv_485 gv_278 rfl rfl (Nat.le_of_ble_eq_true rfl) hl.1 ⟨rfl, rfl⟩ ⟨Nat.le_of_ble_eq_true rfl, Nat.le_of_ble_eq_true rfl⟩ ⟨Nat.le_of_ble_eq_true rfl, Nat.le_of_ble_eq_true rfl⟩ dX8_weakly_19) hS (fun H locs hb_p6 hP hS => ?_)
  exact gw_xrz X hP hS hb_p6 (Nat.le_of_ble_eq_true rfl) (Nat.le_of_ble_eq_true rfl) h dX8_weakly_22
def f_X8_holds (a0 : Int32) (a1 : Int32) (σ : gw_S) : Option ((Int32 ⊕ String) × gw_S) := ((f_X8_needClosed a0 σ).bind fun q2 => gw_bx q2 fun u1 => ((f_X8_needWorld a1 u1).bind fun q4 => gw_bx q4 fun u3 => ((f_X7_enter a1 (0 : Int32) u3).bind fun p5 => ((f_X7_agrees a0 p5).bind fun p6 => (some (Sum.inl p6.1, p6.2))))))
set_option maxHeartbeats 4000000 in
set_option maxRecDepth 100000 in
theorem gc_X8_holds (l : Launch) (hfl : l.stackTraces = false) (G : gw_G) (a0 : Int32) (a1 : Int32) (σ : gw_S) (o : ((Int32 ⊕ String) × gw_S)) (h : f_X8_holds a0 a1 σ = some o) : gw_N (fun sz => gw_xZ G sz o) (fun sz => gw_XC G sz o) 3 l yX8_holds cX8_holds 3 (some .boolean) { frames := 301, cells := 3, slots := 18, locals := 5021 } G [.ref (G.2.1 0), .int a0, .int a1] σ := by
  refine gw_enx (own := RX8) (lv := [(0, .ref (G.2.1 0)), (1, .int a0), (2, .int a1)]) (by decide +kernel) rfl (Nat.le_of_ble_eq_true rfl) rfl ?_
  intro p e s m below meth c ls X hl hP
  obtain ⟨hx, hb, hml, hown, hts, -, -, hT, hZ, -⟩ := id X
  have hS : va_S (gw_A G s.heap.size) s.heap s.heap [] := va_S.rf
  unfold f_X8_holds at h
  refine lv_aload_n hx hb dX8_holds_0 rfl (lv_at hl 0 rfl) ?_
  refine lv_iload_n hx hb dX8_holds_1 rfl (lv_at hl 1 rfl) ?_
  obtain ⟨q2, gq2, h⟩ := Option.bind_eq_some_iff.mp h
  refine gw_cx X h (gw_xV_ (C := RX8) X hP hS (gc_X8_needClosed l hfl G a0 σ _ gq2) gk_X8_needClosed gv_1041 ⟨gv_1043, gv_s21⟩ (va_recv hT.2.1 hP (ci := 10) (q0 := 0) rfl rfl) rfl rfl (Nat.le_of_ble_eq_true rfl) hl.1 ⟨rfl, rfl⟩ ⟨Nat.le_of_ble_eq_true rfl, Nat.le_of_ble_eq_true rfl⟩ ⟨Nat.le_of_ble_eq_true rfl, Nat.le_of_ble_eq_true rfl⟩ dX8_holds_2) hS (Nat.le_of_ble_eq_true rfl) (Nat.le_of_ble_eq_true rfl) (fun u1 H locs h hP hS => ?_)
  refine lv_aload_n hx hb dX8_holds_5 rfl (lv_at hl 0 rfl) ?_
  refine lv_iload_n hx hb dX8_holds_6 rfl (lv_at hl 2 rfl) ?_
  obtain ⟨q4, gq4, h⟩ := Option.bind_eq_some_iff.mp h
  refine gw_cx X h (gw_xV_ (C := RX8) X hP hS (gc_X8_needWorld l hfl G a1 u1 _ gq4) gk_X8_needWorld gv_781 ⟨gv_783, gv_s11⟩ (va_recv hT.2.1 hP (ci := 10) (q0 := 0) rfl rfl) rfl rfl (Nat.le_of_ble_eq_true rfl) hl.1 ⟨rfl, rfl⟩ ⟨Nat.le_of_ble_eq_true rfl, Nat.le_of_ble_eq_true rfl⟩ ⟨Nat.le_of_ble_eq_true rfl, Nat.le_of_ble_eq_true rfl⟩ dX8_holds_7) hS (Nat.le_of_ble_eq_true rfl) (Nat.le_of_ble_eq_true rfl) (fun u3 H locs h hP hS => ?_)
  refine lv_aload_n hx hb dX8_holds_10 rfl (lv_at hl 0 rfl) ?_
  refine va_get (D := G.1) (ci := 10) (v := .ref (G.2.1 30)) (C := RX8) (T := TX8) (N := 7) hx hb hts gx_X8 hown hT.2.1 hP 0 rfl rfl 6 (by decide) (hts _ gv_220) (fun _ h9 => h9) rfl dX8_holds_11 ?_
  refine lv_iload_n hx hb dX8_holds_14 rfl (lv_at hl 2 rfl) ?_
  refine lv_iconst (v := 0) hx hb dX8_holds_15 (by decide) ?_
  obtain ⟨p5, gp5, h⟩ := Option.bind_eq_some_iff.mp h
  refine gw_cv (gw_rV (C := RX7) X hP hS (gc_X7_enter l G a1 (0 : Int32) u3 _ gp5) gk_X7_enter gv_536 ⟨gv_496, gv_497⟩ (va_recv hT.2.1 hP (ci := 9) (q0 := 30) rfl rfl) rfl rfl (Nat.le_of_ble_eq_true rfl) hl.1 ⟨rfl, rfl⟩ ⟨Nat.le_of_ble_eq_true rfl, Nat.le_of_ble_eq_true rfl⟩ ⟨Nat.le_of_ble_eq_true rfl, Nat.le_of_ble_eq_true rfl⟩ dX8_holds_16) hS (fun H locs hP hS => ?_)
  refine lv_aload_n hx hb dX8_holds_19 rfl (lv_at hl 0 rfl) ?_
  refine va_get (D := G.1) (ci := 10) (v := .ref (G.2.1 30)) (C := RX8) (T := TX8) (N := 7) hx hb hts gx_X8 hown hT.2.1 hP 0 rfl rfl 6 (by decide) (hts _ gv_220) (fun _ h9 => h9) rfl dX8_holds_20 ?_
  refine lv_iload_n hx hb dX8_holds_23 rfl (lv_at hl 1 rfl) ?_
  obtain ⟨p6, gp6, h⟩ := Option.bind_eq_some_iff.mp h
  refine gw_cz (gw_rV (C := RX7) X hP hS (gc_X7_agrees l G a0 p5 _ gp6) gk_X7_agrees gv_1067 ⟨gv_515, gv_516⟩ (va_recv hT.2.1 hP (ci := 9) (q0 := 30) rfl rfl) rfl rfl (Nat.le_of_ble_eq_true rfl) hl.1 ⟨rfl, rfl⟩ ⟨Nat.le_of_ble_eq_true rfl, Nat.le_of_ble_eq_true rfl⟩ ⟨Nat.le_of_ble_eq_true rfl, Nat.le_of_ble_eq_true rfl⟩ dX8_holds_24) hS (fun H locs hb_p6 hP hS => ?_)
  exact gw_xrz X hP hS hb_p6 (Nat.le_of_ble_eq_true rfl) (Nat.le_of_ble_eq_true rfl) h dX8_holds_27
