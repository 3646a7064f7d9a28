theorem gv_105 : Cond.fieldLink RX1 30 "Genericwood$Formulas" "count" "I" ∈ gw_L := gw_tab 105 (by decide +kernel) (by decide +kernel)
theorem gv_106 : Cond.fieldLink RX1 9 "Genericwood$Formulas" "kinds" "[I" ∈ gw_L := gw_tab 106 (by decide +kernel) (by decide +kernel)
theorem gv_989 : Cond.methodLinkNest RX1 34 yX8_put "Genericwood" ∈ gw_L := gw_tab 989 (by decide +kernel) (by decide +kernel)
theorem gv_107 : Cond.fieldLink RX1 15 "Genericwood$Formulas" "firsts" "[I" ∈ gw_L := gw_tab 107 (by decide +kernel) (by decide +kernel)
theorem gv_108 : Cond.fieldLink RX1 18 "Genericwood$Formulas" "seconds" "[I" ∈ gw_L := gw_tab 108 (by decide +kernel) (by decide +kernel)
theorem gv_109 : Cond.fieldLink RX1 21 "Genericwood$Formulas" "letters" "[I" ∈ gw_L := gw_tab 109 (by decide +kernel) (by decide +kernel)
theorem gv_110 : Cond.fieldLink RX1 24 "Genericwood$Formulas" "depths" "[I" ∈ gw_L := gw_tab 110 (by decide +kernel) (by decide +kernel)
theorem gv_111 : Cond.fieldLink RX1 27 "Genericwood$Formulas" "opens" "[I" ∈ gw_L := gw_tab 111 (by decide +kernel) (by decide +kernel)
theorem gv_336 : Cond.methodLinkNest RX1 38 yX8_at "Genericwood" ∈ gw_L := gw_tab 336 (by decide +kernel) (by decide +kernel)
theorem gv_72 : Cond.fieldLink RX2 34 "Genericwood$Names" "count" "I" ∈ gw_L := gw_tab 72 (by decide +kernel) (by decide +kernel)
theorem gv_73 : Cond.fieldLink RX2 38 "Genericwood$Names" "changes" "I" ∈ gw_L := gw_tab 73 (by decide +kernel) (by decide +kernel)
theorem gv_74 : Cond.fieldLink RX2 9 "Genericwood$Names" "sizes" "[I" ∈ gw_L := gw_tab 74 (by decide +kernel) (by decide +kernel)
theorem gv_311 : Cond.methodLinkNest RX2 41 yX8_at "Genericwood" ∈ gw_L := gw_tab 311 (by decide +kernel) (by decide +kernel)
theorem gv_75 : Cond.fieldLink RX2 15 "Genericwood$Names" "pairs" "[I" ∈ gw_L := gw_tab 75 (by decide +kernel) (by decide +kernel)
theorem gv_76 : Cond.fieldLink RX2 18 "Genericwood$Names" "heights" "[I" ∈ gw_L := gw_tab 76 (by decide +kernel) (by decide +kernel)
theorem gv_315 : Cond.code yX2_pairsOf cX2_pairsOf 2 (some .int) ∈ gw_L := gw_tab 315 (by decide +kernel) (by decide +kernel)
theorem gv_3 : Cond.initialized yX2_pairsOf.cls ∈ gw_L := gw_tab 3 (by decide +kernel) (by decide +kernel)
theorem gk_X2_pairsOf : gw_K yX2_pairsOf cX2_pairsOf 2 (some .int) 1 := ⟨gv_315, gv_3, by decide +kernel, by decide +kernel⟩
theorem gv_313 : Cond.instanceMethod yX2_pairsOf ∈ gw_L := gw_tab 313 (by decide +kernel) (by decide +kernel)
theorem gv_810 : Cond.methodLink RX2 45 yX2_pairsOf ∈ gw_L := gw_tab 810 (by decide +kernel) (by decide +kernel)
theorem gv_314 : Cond.selects RX2 yX2_pairsOf yX2_pairsOf ∈ gw_L := gw_tab 314 (by decide +kernel) (by decide +kernel)
theorem gv_319 : Cond.code yX2_lower cX2_lower 3 (some .int) ∈ gw_L := gw_tab 319 (by decide +kernel) (by decide +kernel)
theorem gk_X2_lower : gw_K yX2_lower cX2_lower 3 (some .int) 2 := ⟨gv_319, gv_3, by decide +kernel, by decide +kernel⟩
theorem gv_317 : Cond.instanceMethod yX2_lower ∈ gw_L := gw_tab 317 (by decide +kernel) (by decide +kernel)
theorem gv_811 : Cond.methodLink RX2 49 yX2_lower ∈ gw_L := gw_tab 811 (by decide +kernel) (by decide +kernel)
theorem gv_318 : Cond.selects RX2 yX2_lower yX2_lower ∈ gw_L := gw_tab 318 (by decide +kernel) (by decide +kernel)
theorem gv_323 : Cond.code yX2_promise cX2_promise 3 (some .int) ∈ gw_L := gw_tab 323 (by decide +kernel) (by decide +kernel)
theorem gk_X2_promise : gw_K yX2_promise cX2_promise 3 (some .int) 2 := ⟨gv_323, gv_3, by decide +kernel, by decide +kernel⟩
theorem gv_321 : Cond.instanceMethod yX2_promise ∈ gw_L := gw_tab 321 (by decide +kernel) (by decide +kernel)
theorem gv_843 : Cond.methodLink RX2 53 yX2_promise ∈ gw_L := gw_tab 843 (by decide +kernel) (by decide +kernel)
theorem gv_322 : Cond.selects RX2 yX2_promise yX2_promise ∈ gw_L := gw_tab 322 (by decide +kernel) (by decide +kernel)
theorem gv_812 : Cond.methodLink RX2 63 Lib.Math.max.name ∈ gw_L := gw_tab 812 (by decide +kernel) (by decide +kernel)
theorem gv_813 : Cond.methodLinkNest RX2 59 yX8_put "Genericwood" ∈ gw_L := gw_tab 813 (by decide +kernel) (by decide +kernel)
theorem gv_809 : Cond.code yX2_rankAll cX2_rankAll 7 none ∈ gw_L := gw_tab 809 (by decide +kernel) (by decide +kernel)
theorem gk_X2_rankAll : gw_K yX2_rankAll cX2_rankAll 7 none 3 := ⟨gv_809, gv_3, by decide +kernel, by decide +kernel⟩
theorem gv_808 : Cond.instanceMethod yX2_rankAll ∈ gw_L := gw_tab 808 (by decide +kernel) (by decide +kernel)
theorem gv_806 : Cond.methodLink RX2 68 yX2_rankAll ∈ gw_L := gw_tab 806 (by decide +kernel) (by decide +kernel)
theorem gv_s14 : Cond.selects RX2 yX2_rankAll yX2_rankAll ∈ gw_L := gw_sel 14 (by decide +kernel) (by decide +kernel)
theorem gv_805 : Cond.code yX2_changed cX2_changed 1 none ∈ gw_L := gw_tab 805 (by decide +kernel) (by decide +kernel)
theorem gk_X2_changed : gw_K yX2_changed cX2_changed 1 none 0 := ⟨gv_805, gv_3, by decide +kernel, by decide +kernel⟩
theorem gv_804 : Cond.instanceMethod yX2_changed ∈ gw_L := gw_tab 804 (by decide +kernel) (by decide +kernel)
theorem gv_802 : Cond.methodLink RX2 56 yX2_changed ∈ gw_L := gw_tab 802 (by decide +kernel) (by decide +kernel)
theorem gv_s13 : Cond.selects RX2 yX2_changed yX2_changed ∈ gw_L := gw_sel 13 (by decide +kernel) (by decide +kernel)
theorem gv_77 : Cond.fieldLink RX2 21 "Genericwood$Names" "trial" "[I" ∈ gw_L := gw_tab 77 (by decide +kernel) (by decide +kernel)
theorem gv_79 : Cond.fieldLink RX2 27 "Genericwood$Names" "standards" "[I" ∈ gw_L := gw_tab 79 (by decide +kernel) (by decide +kernel)
theorem gv_838 : Cond.code yX2_standardOf cX2_standardOf 2 (some .int) ∈ gw_L := gw_tab 838 (by decide +kernel) (by decide +kernel)
theorem gk_X2_standardOf : gw_K yX2_standardOf cX2_standardOf 2 (some .int) 1 := ⟨gv_838, gv_3, by decide +kernel, by decide +kernel⟩
theorem gv_836 : Cond.instanceMethod yX2_standardOf ∈ gw_L := gw_tab 836 (by decide +kernel) (by decide +kernel)
theorem gv_835 : Cond.methodLink RX2 71 yX2_standardOf ∈ gw_L := gw_tab 835 (by decide +kernel) (by decide +kernel)
theorem gv_837 : Cond.selects RX2 yX2_standardOf yX2_standardOf ∈ gw_L := gw_tab 837 (by decide +kernel) (by decide +kernel)
theorem gv_886 : Cond.methodLinkNest RX2 74 yX8_contains "Genericwood" ∈ gw_L := gw_tab 886 (by decide +kernel) (by decide +kernel)
theorem gv_801 : Cond.code yX2_add cX2_add 2 (some .int) ∈ gw_L := gw_tab 801 (by decide +kernel) (by decide +kernel)
theorem gk_X2_add : gw_K yX2_add cX2_add 2 (some .int) 0 := ⟨gv_801, gv_3, by decide +kernel, by decide +kernel⟩
theorem gv_799 : Cond.instanceMethod yX2_add ∈ gw_L := gw_tab 799 (by decide +kernel) (by decide +kernel)
theorem gv_891 : Cond.methodLink RX2 78 yX2_add ∈ gw_L := gw_tab 891 (by decide +kernel) (by decide +kernel)
theorem gv_800 : Cond.selects RX2 yX2_add yX2_add ∈ gw_L := gw_tab 800 (by decide +kernel) (by decide +kernel)
theorem gv_853 : Cond.code yX2_addPair cX2_addPair 5 none ∈ gw_L := gw_tab 853 (by decide +kernel) (by decide +kernel)
theorem gk_X2_addPair : gw_K yX2_addPair cX2_addPair 5 none 3 := ⟨gv_853, gv_3, by decide +kernel, by decide +kernel⟩
theorem gv_851 : Cond.instanceMethod yX2_addPair ∈ gw_L := gw_tab 851 (by decide +kernel) (by decide +kernel)
theorem gv_892 : Cond.methodLink RX2 82 yX2_addPair ∈ gw_L := gw_tab 892 (by decide +kernel) (by decide +kernel)
theorem gv_852 : Cond.selects RX2 yX2_addPair yX2_addPair ∈ gw_L := gw_tab 852 (by decide +kernel) (by decide +kernel)
theorem gv_78 : Cond.fieldLink RX2 24 "Genericwood$Names" "drafted" "[I" ∈ gw_L := gw_tab 78 (by decide +kernel) (by decide +kernel)
theorem gv_71 : Cond.fieldLink RX2 30 "Genericwood$Names" "order" "LGenericwood$Order;" ∈ gw_L := gw_tab 71 (by decide +kernel) (by decide +kernel)
theorem gv_952 : Cond.methodLink RX2 90 yX3_down ∈ gw_L := gw_tab 952 (by decide +kernel) (by decide +kernel)
theorem gv_261 : Cond.code yX3_size cX3_size 1 (some .int) ∈ gw_L := gw_tab 261 (by decide +kernel) (by decide +kernel)
theorem gk_X3_size : gw_K yX3_size cX3_size 1 (some .int) 0 := ⟨gv_261, gv_2, by decide +kernel, by decide +kernel⟩
theorem gv_259 : Cond.instanceMethod yX3_size ∈ gw_L := gw_tab 259 (by decide +kernel) (by decide +kernel)
theorem gv_953 : Cond.methodLink RX2 95 yX3_size ∈ gw_L := gw_tab 953 (by decide +kernel) (by decide +kernel)
theorem gv_260 : Cond.selects RX3 yX3_size yX3_size ∈ gw_L := gw_tab 260 (by decide +kernel) (by decide +kernel)
theorem gv_957 : Cond.code yX2_isDrafted cX2_isDrafted 4 (some .boolean) ∈ gw_L := gw_tab 957 (by decide +kernel) (by decide +kernel)
theorem gk_X2_isDrafted : gw_K yX2_isDrafted cX2_isDrafted 4 (some .boolean) 2 := ⟨gv_957, gv_3, by decide +kernel, by decide +kernel⟩
theorem gv_956 : Cond.instanceMethod yX2_isDrafted ∈ gw_L := gw_tab 956 (by decide +kernel) (by decide +kernel)
theorem gv_954 : Cond.methodLink RX2 98 yX2_isDrafted ∈ gw_L := gw_tab 954 (by decide +kernel) (by decide +kernel)
theorem gv_s17 : Cond.selects RX2 yX2_isDrafted yX2_isDrafted ∈ gw_L := gw_sel 17 (by decide +kernel) (by decide +kernel)
theorem gv_951 : Cond.code yX2_draftPart cX2_draftPart 9 (some .int) ∈ gw_L := gw_tab 951 (by decide +kernel) (by decide +kernel)
theorem gk_X2_draftPart : gw_K yX2_draftPart cX2_draftPart 9 (some .int) 3 := ⟨gv_951, gv_3, by decide +kernel, by decide +kernel⟩
theorem gv_950 : Cond.instanceMethod yX2_draftPart ∈ gw_L := gw_tab 950 (by decide +kernel) (by decide +kernel)
theorem gv_948 : Cond.methodLink RX2 86 yX2_draftPart ∈ gw_L := gw_tab 948 (by decide +kernel) (by decide +kernel)
theorem gv_s16 : Cond.selects RX2 yX2_draftPart yX2_draftPart ∈ gw_L := gw_sel 16 (by decide +kernel) (by decide +kernel)
def f_X1_size (σ : gw_S) : Option (Int32 × gw_S) := (some ((σ 11 0), σ))
set_option maxHeartbeats 4000000 in
set_option maxRecDepth 100000 in
theorem gc_X1_size (l : Launch) (G : gw_G) (σ : gw_S) (o : (Int32 × gw_S)) (h : f_X1_size σ = some o) : gw_M (fun sz => gw_QI G sz o) l yX1_size cX1_size 1 (some .int) { frames := 0, cells := 0, slots := 0, locals := 0 } G [.ref (G.2.1 11)] σ := by
  refine gw_en (own := RX1) (lv := [(0, .ref (G.2.1 11))]) (by decide +kernel) rfl (Nat.le_of_ble_eq_true rfl) rfl ?_
  intro p e s m below meth c ls X hl hP
  obtain ⟨hx, hb, hml, hown, hts, -, -, hT, hZ, -⟩ := id X
  have hS : va_S (gw_A G s.heap.size) s.heap s.heap [] := va_S.rf
  unfold f_X1_size at h
  refine lv_aload_n hx hb dX1_size_0 rfl (lv_at hl 0 rfl) ?_
  refine va_get (D := G.1) (ci := 4) (v := .int (σ 11 0)) (C := RX1) (T := TX1) (N := 7) hx hb hts gx_X1 hown hT.2.1 hP 11 rfl rfl 0 (by decide) (hts _ gv_105) (fun _ h9 => h9) rfl dX1_size_1 ?_
  exact gw_ri X hP hS h dX1_size_4
def f_X1_knows (a0 : Int32) (σ : gw_S) : Option (Int32 × gw_S) := (if a0 < 0 then (some ((0 : Int32), σ)) else (if (σ 11 0) ≤ a0 then (some ((0 : Int32), σ)) else (some ((1 : Int32), σ))))
set_option maxHeartbeats 4000000 in
set_option maxRecDepth 100000 in
theorem gc_X1_knows (l : Launch) (G : gw_G) (a0 : Int32) (σ : gw_S) (o : (Int32 × gw_S)) (h : f_X1_knows a0 σ = some o) : gw_M (fun sz => gw_QZ G sz o) l yX1_knows cX1_knows 2 (some .boolean) { frames := 0, cells := 0, slots := 0, locals := 0 } G [.ref (G.2.1 11), .int a0] σ := by
  refine gw_en (own := RX1) (lv := [(0, .ref (G.2.1 11)), (1, .int a0)]) (by decide +kernel) rfl (Nat.le_of_ble_eq_true rfl) rfl ?_
  intro p e s m below meth c ls X hl hP
  obtain ⟨hx, hb, hml, hown, hts, -, -, hT, hZ, -⟩ := id X
  have hS : va_S (gw_A G s.heap.size) s.heap s.heap [] := va_S.rf
  unfold f_X1_knows at h
  refine lv_iload_n hx hb dX1_knows_0 rfl (lv_at hl 1 rfl) ?_
  refine lv_if_lt (tgt := 16) hx hb dX1_knows_1 (by decide) (fun c => ?_) (fun c => ?_)
  · have h := (if_pos c).symm.trans h
    refine lv_iconst (v := 0) hx hb dX1_knows_16 (by decide) ?_
    exact gw_rz X hP hS rfl h dX1_knows_17
  · have h := (if_neg c).symm.trans h
    refine lv_iload_n hx hb dX1_knows_4 rfl (lv_at hl 1 rfl) ?_
    refine lv_aload_n hx hb dX1_knows_5 rfl (lv_at hl 0 rfl) ?_
    refine va_get (D := G.1) (ci := 4) (v := .int (σ 11 0)) (C := RX1) (T := TX1) (N := 7) hx hb hts gx_X1 hown hT.2.1 hP 11 rfl rfl 0 (by decide) (hts _ gv_105) (fun _ h9 => h9) rfl dX1_knows_6 ?_
    refine lv_icmp_ge (tgt := 16) hx hb dX1_knows_9 (by decide) (fun c => ?_) (fun c => ?_)
    · have h := (if_pos c).symm.trans h
      refine lv_iconst (v := 0) hx hb dX1_knows_16 (by decide) ?_
      exact gw_rz X hP hS rfl h dX1_knows_17
    · have h := (if_neg c).symm.trans h
      refine lv_iconst (v := 1) hx hb dX1_knows_12 (by decide) ?_
      refine lv_goto (tgt := 17) hx hb dX1_knows_13 (by decide) ?_
      exact gw_rz X hP hS rfl h dX1_knows_17
def f_X1_add (a0 : Int32) (a1 : Int32) (a2 : Int32) (a3 : Int32) (a4 : Int32) (a5 : Int32) (σ : gw_S) : Option (Int32 × gw_S) := ((f_X8_put 12 (σ 11 0) a0 σ).bind fun p1 => ((f_X8_put 13 (σ 11 0) a1 p1).bind fun p2 => ((f_X8_put 14 (σ 11 0) a2 p2).bind fun p3 => ((f_X8_put 15 (σ 11 0) a3 p3).bind fun p4 => ((f_X8_put 16 (σ 11 0) a4 p4).bind fun p5 => ((f_X8_put 17 (σ 11 0) a5 p5).bind fun p6 => (some ((σ 11 0), (gw_up p6 11 0 ((p6 11 0) + (1 : Int32)))))))))))
set_option maxHeartbeats 4000000 in
set_option maxRecDepth 100000 in
theorem gc_X1_add (l : Launch) (G : gw_G) (a0 : Int32) (a1 : Int32) (a2 : Int32) (a3 : Int32) (a4 : Int32) (a5 : Int32) (σ : gw_S) (o : (Int32 × gw_S)) (h : f_X1_add a0 a1 a2 a3 a4 a5 σ = some o) : gw_M (fun sz => gw_QI G sz o) l yX1_add cX1_add 8 (some .int) { frames := 1, cells := 0, slots := 0, locals := 22 } G [.ref (G.2.1 11), .int a0, .int a1, .int a2, .int a3, .int a4, .int a5] σ := by
  refine gw_en (own := RX1) (lv := [(0, .ref (G.2.1 11)), (1, .int a0), (2, .int a1), (3, .int a2), (4, .int a3), (5, .int a4), (6, .int a5)]) (by decide +kernel) rfl (Nat.le_of_ble_eq_true rfl) rfl ?_
  intro p e s m below meth c ls X hl hP
  obtain ⟨hx, hb, hml, hown, hts, -, -, hT, hZ, -⟩ := id X
  have hS : va_S (gw_A G s.heap.size) s.heap s.heap [] := va_S.rf
  unfold f_X1_add at h
  refine lv_aload_n hx hb dX1_add_0 rfl (lv_at hl 0 rfl) ?_
  refine va_get (D := G.1) (ci := 4) (v := .int (σ 11 0)) (C := RX1) (T := TX1) (N := 7) hx hb hts gx_X1 hown hT.2.1 hP 11 rfl rfl 0 (by decide) (hts _ gv_105) (fun _ h9 => h9) rfl dX1_add_1 ?_
  refine lv_istore (lv' := [(7, .int (σ 11 0)), (0, .ref (G.2.1 11)), (1, .int a0), (2, .int a1), (3, .int a2), (4, .int a3), (5, .int a4), (6, .int a5)]) hx hb dX1_add_4 hl (by decide) rfl (fun ls hl => ?_)
  refine lv_aload_n hx hb dX1_add_6 rfl (lv_at hl 1 rfl) ?_
  refine va_get (D := G.1) (ci := 4) (v := .ref (G.2.1 12)) (C := RX1) (T := TX1) (N := 7) hx hb hts gx_X1 hown hT.2.1 hP 11 rfl rfl 1 (by decide) (hts _ gv_106) (fun _ h9 => h9) rfl dX1_add_7 ?_
  refine lv_iload hx hb dX1_add_10 (lv_at hl 0 rfl) ?_
  refine lv_iload_n hx hb dX1_add_12 rfl (lv_at hl 2 rfl) ?_
  obtain ⟨p1, gp1, h⟩ := Option.bind_eq_some_iff.mp h
  refine gw_cv (gw_rN (host := "Genericwood") X hP hS (gc_X8_put l G 12 ⟨by decide, by decide⟩ (σ 11 0) a0 σ _ gp1) gk_X8_put gv_989 gv_403 rfl rfl (Nat.le_of_ble_eq_true rfl) hl.1 ⟨rfl, rfl⟩ ⟨Nat.le_of_ble_eq_true rfl, Nat.le_of_ble_eq_true rfl⟩ ⟨Nat.le_of_ble_eq_true rfl, Nat.le_of_ble_eq_true rfl⟩ dX1_add_13) hS (fun H locs hP hS => ?_)
  refine lv_aload_n hx hb dX1_add_16 rfl (lv_at hl 1 rfl) ?_
  refine va_get (D := G.1) (ci := 4) (v := .ref (G.2.1 13)) (C := RX1) (T := TX1) (N := 7) hx hb hts gx_X1 hown hT.2.1 hP 11 rfl rfl 2 (by decide) (hts _ gv_107) (fun _ h9 => h9) rfl dX1_add_17 ?_
  refine lv_iload hx hb dX1_add_20 (lv_at hl 0 rfl) ?_
  refine lv_iload_n hx hb dX1_add_22 rfl (lv_at hl 3 rfl) ?_
  obtain ⟨p2, gp2, h⟩ := Option.bind_eq_some_iff.mp h
  refine gw_cv (gw_rN (host := "Genericwood") X hP hS (gc_X8_put l G 13 ⟨by decide, by decide⟩ (σ 11 0) a1 p1 _ gp2) gk_X8_put gv_989 gv_403 rfl rfl (Nat.le_of_ble_eq_true rfl) hl.1 ⟨rfl, rfl⟩ ⟨Nat.le_of_ble_eq_true rfl, Nat.le_of_ble_eq_true rfl⟩ ⟨Nat.le_of_ble_eq_true rfl, Nat.le_of_ble_eq_true rfl⟩ dX1_add_23) hS (fun H locs hP hS => ?_)
  refine lv_aload_n hx hb dX1_add_26 rfl (lv_at hl 1 rfl) ?_
  refine va_get (D := G.1) (ci := 4) (v := .ref (G.2.1 14)) (C := RX1) (T := TX1) (N := 7) hx hb hts gx_X1 hown hT.2.1 hP 11 rfl rfl 3 (by decide) (hts _ gv_108) (fun _ h9 => h9) rfl dX1_add_27 ?_
  refine lv_iload hx hb dX1_add_30 (lv_at hl 0 rfl) ?_
  refine lv_iload_n hx hb dX1_add_32 rfl (lv_at hl 4 rfl) ?_
  obtain ⟨p3, gp3, h⟩ := Option.bind_eq_some_iff.mp h
  refine gw_cv (gw_rN (host := "Genericwood") X hP hS (gc_X8_put l G 14 ⟨by decide, by decide⟩ (σ 11 0) a2 p2 _ gp3) gk_X8_put gv_989 gv_403 rfl rfl (Nat.le_of_ble_eq_true rfl) hl.1 ⟨rfl, rfl⟩ ⟨Nat.le_of_ble_eq_true rfl, Nat.le_of_ble_eq_true rfl⟩ ⟨Nat.le_of_ble_eq_true rfl, Nat.le_of_ble_eq_true rfl⟩ dX1_add_33) hS (fun H locs hP hS => ?_)
  refine lv_aload_n hx hb dX1_add_36 rfl (lv_at hl 1 rfl) ?_
  refine va_get (D := G.1) (ci := 4) (v := .ref (G.2.1 15)) (C := RX1) (T := TX1) (N := 7) hx hb hts gx_X1 hown hT.2.1 hP 11 rfl rfl 4 (by decide) (hts _ gv_109) (fun _ h9 => h9) rfl dX1_add_37 ?_
  refine lv_iload hx hb dX1_add_40 (lv_at hl 0 rfl) ?_
  refine lv_iload hx hb dX1_add_42 (lv_at hl 5 rfl) ?_
  obtain ⟨p4, gp4, h⟩ := Option.bind_eq_some_iff.mp h
  refine gw_cv (gw_rN (host := "Genericwood") X hP hS (gc_X8_put l G 15 ⟨by decide, by decide⟩ (σ 11 0) a3 p3 _ gp4) gk_X8_put gv_989 gv_403 rfl rfl (Nat.le_of_ble_eq_true rfl) hl.1 ⟨rfl, rfl⟩ ⟨Nat.le_of_ble_eq_true rfl, Nat.le_of_ble_eq_true rfl⟩ ⟨Nat.le_of_ble_eq_true rfl, Nat.le_of_ble_eq_true rfl⟩ dX1_add_44) hS (fun H locs hP hS => ?_)
  refine lv_aload_n hx hb dX1_add_47 rfl (lv_at hl 1 rfl) ?_
  refine va_get (D := G.1) (ci := 4) (v := .ref (G.2.1 16)) (C := RX1) (T := TX1) (N := 7) hx hb hts gx_X1 hown hT.2.1 hP 11 rfl rfl 5 (by decide) (hts _ gv_110) (fun _ h9 => h9) rfl dX1_add_48 ?_
  refine lv_iload hx hb dX1_add_51 (lv_at hl 0 rfl) ?_
  refine lv_iload hx hb dX1_add_53 (lv_at hl 6 rfl) ?_
  obtain ⟨p5, gp5, h⟩ := Option.bind_eq_some_iff.mp h
  refine gw_cv (gw_rN (host := "Genericwood") X hP hS (gc_X8_put l G 16 ⟨by decide, by decide⟩ (σ 11 0) a4 p4 _ gp5) gk_X8_put gv_989 gv_403 rfl rfl (Nat.le_of_ble_eq_true rfl) hl.1 ⟨rfl, rfl⟩ ⟨Nat.le_of_ble_eq_true rfl, Nat.le_of_ble_eq_true rfl⟩ ⟨Nat.le_of_ble_eq_true rfl, Nat.le_of_ble_eq_true rfl⟩ dX1_add_55) hS (fun H locs hP hS => ?_)
  refine lv_aload_n hx hb dX1_add_58 rfl (lv_at hl 1 rfl) ?_
  refine va_get (D := G.1) (ci := 4) (v := .ref (G.2.1 17)) (C := RX1) (T := TX1) (N := 7) hx hb hts gx_X1 hown hT.2.1 hP 11 rfl rfl 6 (by decide) (hts _ gv_111) (fun _ h9 => h9) rfl dX1_add_59 ?_
  refine lv_iload hx hb dX1_add_62 (lv_at hl 0 rfl) ?_
  refine lv_iload hx hb dX1_add_64 (lv_at hl 7 rfl) ?_
  obtain ⟨p6, gp6, h⟩ := Option.bind_eq_some_iff.mp h
  refine gw_cv (gw_rN (host := "Genericwood") X hP hS (gc_X8_put l G 17 ⟨by decide, by decide⟩ (σ 11 0) a5 p5 _ gp6) gk_X8_put gv_989 gv_403 rfl rfl (Nat.le_of_ble_eq_true rfl) hl.1 ⟨rfl, rfl⟩ ⟨Nat.le_of_ble_eq_true rfl, Nat.le_of_ble_eq_true rfl⟩ ⟨Nat.le_of_ble_eq_true rfl, Nat.le_of_ble_eq_true rfl⟩ dX1_add_66) hS (fun H locs hP hS => ?_)
  refine lv_aload_n hx hb dX1_add_69 rfl (lv_at hl 1 rfl) ?_
  refine lv_dup hx hb dX1_add_70 rfl ?_
  refine va_get (D := G.1) (ci := 4) (v := .int (p6 11 0)) (C := RX1) (T := TX1) (N := 7) hx hb hts gx_X1 hown hT.2.1 hP 11 rfl rfl 0 (by decide) (hts _ gv_105) (fun _ h9 => h9) rfl dX1_add_71 ?_
  refine lv_iconst (v := 1) hx hb dX1_add_74 (by decide) ?_
  refine lv_iadd hx hb dX1_add_75 ?_
  refine va_put (D := G.1) (ci := 4) (v := .int ((p6 11 0) + (1 : Int32))) (ty := .int) (C := RX1) (T := TX1) (N := 7) hx hb hts gx_X1 tyX1 tyX1_ok nmX1 hown hT.2.1 hP (gw_D hT.1 s.heap.size _) hS 11 rfl rfl 0 (by decide) (hts _ gv_105) (fun _ h9 => h9) rfl gx_pI rfl rfl (Nat.le_of_ble_eq_true rfl) dX1_add_76 (fun H locs hP _ hS => ?_)
  have hP : gw_P G (gw_up p6 11 0 ((p6 11 0) + (1 : Int32))) H := hP
  refine lv_iload hx hb dX1_add_79 (lv_at hl 0 rfl) ?_
  exact gw_ri X hP hS h dX1_add_81
def f_X1_removeAll (σ : gw_S) : Option (Int32 × gw_S) := (some ((σ 11 0), (gw_up σ 11 0 (0 : Int32))))
set_option maxHeartbeats 4000000 in
set_option maxRecDepth 100000 in
theorem gc_X1_removeAll (l : Launch) (G : gw_G) (σ : gw_S) (o : (Int32 × gw_S)) (h : f_X1_removeAll σ = some o) : gw_M (fun sz => gw_QI G sz o) l yX1_removeAll cX1_removeAll 2 (some .int) { frames := 0, cells := 0, slots := 0, locals := 0 } G [.ref (G.2.1 11)] σ := by
  refine gw_en (own := RX1) (lv := [(0, .ref (G.2.1 11))]) (by decide +kernel) rfl (Nat.le_of_ble_eq_true rfl) rfl ?_
  intro p e s m below meth c ls X hl hP
  obtain ⟨hx, hb, hml, hown, hts, -, -, hT, hZ, -⟩ := id X
  have hS : va_S (gw_A G s.heap.size) s.heap s.heap [] := va_S.rf
  unfold f_X1_removeAll at h
  refine lv_aload_n hx hb dX1_removeAll_0 rfl (lv_at hl 0 rfl) ?_
  refine va_get (D := G.1) (ci := 4) (v := .int (σ 11 0)) (C := RX1) (T := TX1) (N := 7) hx hb hts gx_X1 hown hT.2.1 hP 11 rfl rfl 0 (by decide) (hts _ gv_105) (fun _ h9 => h9) rfl dX1_removeAll_1 ?_
  refine lv_istore_n (lv' := [(1, .int (σ 11 0)), (0, .ref (G.2.1 11))]) hx hb dX1_removeAll_4 rfl hl (by decide) rfl (fun ls hl => ?_)
  refine lv_aload_n hx hb dX1_removeAll_5 rfl (lv_at hl 1 rfl) ?_
  refine lv_iconst (v := 0) hx hb dX1_removeAll_6 (by decide) ?_
  refine va_put (D := G.1) (ci := 4) (v := .int (0 : Int32)) (ty := .int) (C := RX1) (T := TX1) (N := 7) hx hb hts gx_X1 tyX1 tyX1_ok nmX1 hown hT.2.1 hP (gw_D hT.1 s.heap.size _) hS 11 rfl rfl 0 (by decide) (hts _ gv_105) (fun _ h9 => h9) rfl gx_pI rfl rfl (Nat.le_of_ble_eq_true rfl) dX1_removeAll_7 (fun H locs hP _ hS => ?_)
  have hP : gw_P G (gw_up σ 11 0 (0 : Int32)) H := hP
  refine lv_iload_n hx hb dX1_removeAll_10 rfl (lv_at hl 0 rfl) ?_
  exact gw_ri X hP hS h dX1_removeAll_11
def f_X1_kind (a0 : Int32) (σ : gw_S) : Option (Int32 × gw_S) := ((f_X8_at 12 a0 σ).bind fun p1 => (some (p1.1, p1.2)))
set_option maxHeartbeats 4000000 in
set_option maxRecDepth 100000 in
theorem gc_X1_kind (l : Launch) (G : gw_G) (a0 : Int32) (σ : gw_S) (o : (Int32 × gw_S)) (h : f_X1_kind a0 σ = some o) : gw_M (fun sz => gw_QI G sz o) l yX1_kind cX1_kind 2 (some .int) { frames := 1, cells := 0, slots := 0, locals := 21 } G [.ref (G.2.1 11), .int a0] σ := by
  refine gw_en (own := RX1) (lv := [(0, .ref (G.2.1 11)), (1, .int a0)]) (by decide +kernel) rfl (Nat.le_of_ble_eq_true rfl) rfl ?_
  intro p e s m below meth c ls X hl hP
  obtain ⟨hx, hb, hml, hown, hts, -, -, hT, hZ, -⟩ := id X
  have hS : va_S (gw_A G s.heap.size) s.heap s.heap [] := va_S.rf
  unfold f_X1_kind at h
  refine lv_aload_n hx hb dX1_kind_0 rfl (lv_at hl 0 rfl) ?_
  refine va_get (D := G.1) (ci := 4) (v := .ref (G.2.1 12)) (C := RX1) (T := TX1) (N := 7) hx hb hts gx_X1 hown hT.2.1 hP 11 rfl rfl 1 (by decide) (hts _ gv_106) (fun _ h9 => h9) rfl dX1_kind_1 ?_
  refine lv_iload_n hx hb dX1_kind_4 rfl (lv_at hl 1 rfl) ?_
  obtain ⟨p1, gp1, h⟩ := Option.bind_eq_some_iff.mp h
  refine gw_ci (gw_rN (host := "Genericwood") X hP hS (gc_X8_at l G 12 ⟨by decide, by decide⟩ a0 σ _ gp1) gk_X8_at gv_336 gv_275 rfl rfl (Nat.le_of_ble_eq_true rfl) hl.1 ⟨rfl, rfl⟩ ⟨Nat.le_of_ble_eq_true rfl, Nat.le_of_ble_eq_true rfl⟩ ⟨Nat.le_of_ble_eq_true rfl, Nat.le_of_ble_eq_true rfl⟩ dX1_kind_5) hS (fun H locs hP hS => ?_)
  exact gw_ri X hP hS h dX1_kind_8
def f_X1_first (a0 : Int32) (σ : gw_S) : Option (Int32 × gw_S) := ((f_X8_at 13 a0 σ).bind fun p1 => (some (p1.1, p1.2)))
set_option maxHeartbeats 4000000 in
set_option maxRecDepth 100000 in
theorem gc_X1_first (l : Launch) (G : gw_G) (a0 : Int32) (σ : gw_S) (o : (Int32 × gw_S)) (h : f_X1_first a0 σ = some o) : gw_M (fun sz => gw_QI G sz o) l yX1_first cX1_first 2 (some .int) { frames := 1, cells := 0, slots := 0, locals := 21 } G [.ref (G.2.1 11), .int a0] σ := by
  refine gw_en (own := RX1) (lv := [(0, .ref (G.2.1 11)), (1, .int a0)]) (by decide +kernel) rfl (Nat.le_of_ble_eq_true rfl) rfl ?_
  intro p e s m below meth c ls X hl hP
  obtain ⟨hx, hb, hml, hown, hts, -, -, hT, hZ, -⟩ := id X
  have hS : va_S (gw_A G s.heap.size) s.heap s.heap [] := va_S.rf
  unfold f_X1_first at h
  refine lv_aload_n hx hb dX1_first_0 rfl (lv_at hl 0 rfl) ?_
  refine va_get (D := G.1) (ci := 4) (v := .ref (G.2.1 13)) (C := RX1) (T := TX1) (N := 7) hx hb hts gx_X1 hown hT.2.1 hP 11 rfl rfl 2 (by decide) (hts _ gv_107) (fun _ h9 => h9) rfl dX1_first_1 ?_
  refine lv_iload_n hx hb dX1_first_4 rfl (lv_at hl 1 rfl) ?_
  obtain ⟨p1, gp1, h⟩ := Option.bind_eq_some_iff.mp h
  refine gw_ci (gw_rN (host := "Genericwood") X hP hS (gc_X8_at l G 13 ⟨by decide, by decide⟩ a0 σ _ gp1) gk_X8_at gv_336 gv_275 rfl rfl (Nat.le_of_ble_eq_true rfl) hl.1 ⟨rfl, rfl⟩ ⟨Nat.le_of_ble_eq_true rfl, Nat.le_of_ble_eq_true rfl⟩ ⟨Nat.le_of_ble_eq_true rfl, Nat.le_of_ble_eq_true rfl⟩ dX1_first_5) hS (fun H locs hP hS => ?_)
  exact gw_ri X hP hS h dX1_first_8
def f_X1_second (a0 : Int32) (σ : gw_S) : Option (Int32 × gw_S) := ((f_X8_at 14 a0 σ).bind fun p1 => (some (p1.1, p1.2)))
set_option maxHeartbeats 4000000 in
set_option maxRecDepth 100000 in
theorem gc_X1_second (l : Launch) (G : gw_G) (a0 : Int32) (σ : gw_S) (o : (Int32 × gw_S)) (h : f_X1_second a0 σ = some o) : gw_M (fun sz => gw_QI G sz o) l yX1_second cX1_second 2 (some .int) { frames := 1, cells := 0, slots := 0, locals := 21 } G [.ref (G.2.1 11), .int a0] σ := by
  refine gw_en (own := RX1) (lv := [(0, .ref (G.2.1 11)), (1, .int a0)]) (by decide +kernel) rfl (Nat.le_of_ble_eq_true rfl) rfl ?_
  intro p e s m below meth c ls X hl hP
  obtain ⟨hx, hb, hml, hown, hts, -, -, hT, hZ, -⟩ := id X
  have hS : va_S (gw_A G s.heap.size) s.heap s.heap [] := va_S.rf
  unfold f_X1_second at h
  refine lv_aload_n hx hb dX1_second_0 rfl (lv_at hl 0 rfl) ?_
  refine va_get (D := G.1) (ci := 4) (v := .ref (G.2.1 14)) (C := RX1) (T := TX1) (N := 7) hx hb hts gx_X1 hown hT.2.1 hP 11 rfl rfl 3 (by decide) (hts _ gv_108) (fun _ h9 => h9) rfl dX1_second_1 ?_
  refine lv_iload_n hx hb dX1_second_4 rfl (lv_at hl 1 rfl) ?_
  obtain ⟨p1, gp1, h⟩ := Option.bind_eq_some_iff.mp h
  refine gw_ci (gw_rN (host := "Genericwood") X hP hS (gc_X8_at l G 14 ⟨by decide, by decide⟩ a0 σ _ gp1) gk_X8_at gv_336 gv_275 rfl rfl (Nat.le_of_ble_eq_true rfl) hl.1 ⟨rfl, rfl⟩ ⟨Nat.le_of_ble_eq_true rfl, Nat.le_of_ble_eq_true rfl⟩ ⟨Nat.le_of_ble_eq_true rfl, Nat.le_of_ble_eq_true rfl⟩ dX1_second_5) hS (fun H locs hP hS => ?_)
  exact gw_ri X hP hS h dX1_second_8
def f_X1_letter (a0 : Int32) (σ : gw_S) : Option (Int32 × gw_S) := ((f_X8_at 15 a0 σ).bind fun p1 => (some (p1.1, p1.2)))
set_option maxHeartbeats 4000000 in
set_option maxRecDepth 100000 in
theorem gc_X1_letter (l : Launch) (G : gw_G) (a0 : Int32) (σ : gw_S) (o : (Int32 × gw_S)) (h : f_X1_letter a0 σ = some o) : gw_M (fun sz => gw_QI G sz o) l yX1_letter cX1_letter 2 (some .int) { frames := 1, cells := 0, slots := 0, locals := 21 } G [.ref (G.2.1 11), .int a0] σ := by
  refine gw_en (own := RX1) (lv := [(0, .ref (G.2.1 11)), (1, .int a0)]) (by decide +kernel) rfl (Nat.le_of_ble_eq_true rfl) rfl ?_
  intro p e s m below meth c ls X hl hP
  obtain ⟨hx, hb, hml, hown, hts, -, -, hT, hZ, -⟩ := id X
  have hS : va_S (gw_A G s.heap.size) s.heap s.heap [] := va_S.rf
  unfold f_X1_letter at h
  refine lv_aload_n hx hb dX1_letter_0 rfl (lv_at hl 0 rfl) ?_
  refine va_get (D := G.1) (ci := 4) (v := .ref (G.2.1 15)) (C := RX1) (T := TX1) (N := 7) hx hb hts gx_X1 hown hT.2.1 hP 11 rfl rfl 4 (by decide) (hts _ gv_109) (fun _ h9 => h9) rfl dX1_letter_1 ?_
  refine lv_iload_n hx hb dX1_letter_4 rfl (lv_at hl 1 rfl) ?_
  obtain ⟨p1, gp1, h⟩ := Option.bind_eq_some_iff.mp h
  refine gw_ci (gw_rN (host := "Genericwood") X hP hS (gc_X8_at l G 15 ⟨by decide, by decide⟩ a0 σ _ gp1) gk_X8_at gv_336 gv_275 rfl rfl (Nat.le_of_ble_eq_true rfl) hl.1 ⟨rfl, rfl⟩ ⟨Nat.le_of_ble_eq_true rfl, Nat.le_of_ble_eq_true rfl⟩ ⟨Nat.le_of_ble_eq_true rfl, Nat.le_of_ble_eq_true rfl⟩ dX1_letter_5) hS (fun H locs hP hS => ?_)
  exact gw_ri X hP hS h dX1_letter_8
def f_X1_depth (a0 : Int32) (σ : gw_S) : Option (Int32 × gw_S) := ((f_X8_at 16 a0 σ).bind fun p1 => (some (p1.1, p1.2)))
set_option maxHeartbeats 4000000 in
set_option maxRecDepth 100000 in
theorem gc_X1_depth (l : Launch) (G : gw_G) (a0 : Int32) (σ : gw_S) (o : (Int32 × gw_S)) (h : f_X1_depth a0 σ = some o) : gw_M (fun sz => gw_QI G sz o) l yX1_depth cX1_depth 2 (some .int) { frames := 1, cells := 0, slots := 0, locals := 21 } G [.ref (G.2.1 11), .int a0] σ := by
  refine gw_en (own := RX1) (lv := [(0, .ref (G.2.1 11)), (1, .int a0)]) (by decide +kernel) rfl (Nat.le_of_ble_eq_true rfl) rfl ?_
  intro p e s m below meth c ls X hl hP
  obtain ⟨hx, hb, hml, hown, hts, -, -, hT, hZ, -⟩ := id X
  have hS : va_S (gw_A G s.heap.size) s.heap s.heap [] := va_S.rf
  unfold f_X1_depth at h
  refine lv_aload_n hx hb dX1_depth_0 rfl (lv_at hl 0 rfl) ?_
  refine va_get (D := G.1) (ci := 4) (v := .ref (G.2.1 16)) (C := RX1) (T := TX1) (N := 7) hx hb hts gx_X1 hown hT.2.1 hP 11 rfl rfl 5 (by decide) (hts _ gv_110) (fun _ h9 => h9) rfl dX1_depth_1 ?_
  refine lv_iload_n hx hb dX1_depth_4 rfl (lv_at hl 1 rfl) ?_
  obtain ⟨p1, gp1, h⟩ := Option.bind_eq_some_iff.mp h
  refine gw_ci (gw_rN (host := "Genericwood") X hP hS (gc_X8_at l G 16 ⟨by decide, by decide⟩ a0 σ _ gp1) gk_X8_at gv_336 gv_275 rfl rfl (Nat.le_of_ble_eq_true rfl) hl.1 ⟨rfl, rfl⟩ ⟨Nat.le_of_ble_eq_true rfl, Nat.le_of_ble_eq_true rfl⟩ ⟨Nat.le_of_ble_eq_true rfl, Nat.le_of_ble_eq_true rfl⟩ dX1_depth_5) hS (fun H locs hP hS => ?_)
  exact gw_ri X hP hS h dX1_depth_8
def f_X1_open (a0 : Int32) (σ : gw_S) : Option (Int32 × gw_S) := ((f_X8_at 17 a0 σ).bind fun p1 => (some (p1.1, p1.2)))
set_option maxHeartbeats 4000000 in
set_option maxRecDepth 100000 in
theorem gc_X1_open (l : Launch) (G : gw_G) (a0 : Int32) (σ : gw_S) (o : (Int32 × gw_S)) (h : f_X1_open a0 σ = some o) : gw_M (fun sz => gw_QI G sz o) l yX1_open cX1_open 2 (some .int) { frames := 1, cells := 0, slots := 0, locals := 21 } G [.ref (G.2.1 11), .int a0] σ := by
  refine gw_en (own := RX1) (lv := [(0, .ref (G.2.1 11)), (1, .int a0)]) (by decide +kernel) rfl (Nat.le_of_ble_eq_true rfl) rfl ?_
  intro p e s m below meth c ls X hl hP
  obtain ⟨hx, hb, hml, hown, hts, -, -, hT, hZ, -⟩ := id X
  have hS : va_S (gw_A G s.heap.size) s.heap s.heap [] := va_S.rf
  unfold f_X1_open at h
  refine lv_aload_n hx hb dX1_open_0 rfl (lv_at hl 0 rfl) ?_
  refine va_get (D := G.1) (ci := 4) (v := .ref (G.2.1 17)) (C := RX1) (T := TX1) (N := 7) hx hb hts gx_X1 hown hT.2.1 hP 11 rfl rfl 6 (by decide) (hts _ gv_111) (fun _ h9 => h9) rfl dX1_open_1 ?_
  refine lv_iload_n hx hb dX1_open_4 rfl (lv_at hl 1 rfl) ?_
  obtain ⟨p1, gp1, h⟩ := Option.bind_eq_some_iff.mp h
  refine gw_ci (gw_rN (host := "Genericwood") X hP hS (gc_X8_at l G 17 ⟨by decide, by decide⟩ a0 σ _ gp1) gk_X8_at gv_336 gv_275 rfl rfl (Nat.le_of_ble_eq_true rfl) hl.1 ⟨rfl, rfl⟩ ⟨Nat.le_of_ble_eq_true rfl, Nat.le_of_ble_eq_true rfl⟩ ⟨Nat.le_of_ble_eq_true rfl, Nat.le_of_ble_eq_true rfl⟩ dX1_open_5) hS (fun H locs hP hS => ?_)
  exact gw_ri X hP hS h dX1_open_8
def f_X2_size (σ : gw_S) : Option (Int32 × gw_S) := (some ((σ 4 1), σ))
set_option maxHeartbeats 4000000 in
set_option maxRecDepth 100000 in
theorem gc_X2_size (l : Launch) (G : gw_G) (σ : gw_S) (o : (Int32 × gw_S)) (h : f_X2_size σ = some o) : gw_M (fun sz => gw_QI G sz o) l yX2_size cX2_size 1 (some .int) { frames := 0, cells := 0, slots := 0, locals := 0 } G [.ref (G.2.1 4)] σ := by
  refine gw_en (own := RX2) (lv := [(0, .ref (G.2.1 4))]) (by decide +kernel) rfl (Nat.le_of_ble_eq_true rfl) rfl ?_
  intro p e s m below meth c ls X hl hP
  obtain ⟨hx, hb, hml, hown, hts, -, -, hT, hZ, -⟩ := id X
  have hS : va_S (gw_A G s.heap.size) s.heap s.heap [] := va_S.rf
  unfold f_X2_size at h
  refine lv_aload_n hx hb dX2_size_0 rfl (lv_at hl 0 rfl) ?_
  refine va_get (D := G.1) (ci := 5) (v := .int (σ 4 1)) (C := RX2) (T := TX2) (N := 9) hx hb hts gx_X2 hown hT.2.1 hP 4 rfl rfl 1 (by decide) (hts _ gv_72) (fun _ h9 => h9) rfl dX2_size_1 ?_
  exact gw_ri X hP hS h dX2_size_4
def f_X2_changes (σ : gw_S) : Option (Int32 × gw_S) := (some ((σ 4 2), σ))
set_option maxHeartbeats 4000000 in
set_option maxRecDepth 100000 in
theorem gc_X2_changes (l : Launch) (G : gw_G) (σ : gw_S) (o : (Int32 × gw_S)) (h : f_X2_changes σ = some o) : gw_M (fun sz => gw_QI G sz o) l yX2_changes cX2_changes 1 (some .int) { frames := 0, cells := 0, slots := 0, locals := 0 } G [.ref (G.2.1 4)] σ := by
  refine gw_en (own := RX2) (lv := [(0, .ref (G.2.1 4))]) (by decide +kernel) rfl (Nat.le_of_ble_eq_true rfl) rfl ?_
  intro p e s m below meth c ls X hl hP
  obtain ⟨hx, hb, hml, hown, hts, -, -, hT, hZ, -⟩ := id X
  have hS : va_S (gw_A G s.heap.size) s.heap s.heap [] := va_S.rf
  unfold f_X2_changes at h
  refine lv_aload_n hx hb dX2_changes_0 rfl (lv_at hl 0 rfl) ?_
  refine va_get (D := G.1) (ci := 5) (v := .int (σ 4 2)) (C := RX2) (T := TX2) (N := 9) hx hb hts gx_X2 hown hT.2.1 hP 4 rfl rfl 2 (by decide) (hts _ gv_73) (fun _ h9 => h9) rfl dX2_changes_1 ?_
  exact gw_ri X hP hS h dX2_changes_4
def f_X2_knows (a0 : Int32) (σ : gw_S) : Option (Int32 × gw_S) := (if a0 < 0 then (some ((0 : Int32), σ)) else (if (σ 4 1) ≤ a0 then (some ((0 : Int32), σ)) else (some ((1 : Int32), σ))))
set_option maxHeartbeats 4000000 in
set_option maxRecDepth 100000 in
theorem gc_X2_knows (l : Launch) (G : gw_G) (a0 : Int32) (σ : gw_S) (o : (Int32 × gw_S)) (h : f_X2_knows a0 σ = some o) : gw_M (fun sz => gw_QZ G sz o) l yX2_knows cX2_knows 2 (some .boolean) { frames := 0, cells := 0, slots := 0, locals := 0 } G [.ref (G.2.1 4), .int a0] σ := by
  refine gw_en (own := RX2) (lv := [(0, .ref (G.2.1 4)), (1, .int a0)]) (by decide +kernel) rfl (Nat.le_of_ble_eq_true rfl) rfl ?_
  intro p e s m below meth c ls X hl hP
  obtain ⟨hx, hb, hml, hown, hts, -, -, hT, hZ, -⟩ := id X
  have hS : va_S (gw_A G s.heap.size) s.heap s.heap [] := va_S.rf
  unfold f_X2_knows at h
  refine lv_iload_n hx hb dX2_knows_0 rfl (lv_at hl 1 rfl) ?_
  refine lv_if_lt (tgt := 16) hx hb dX2_knows_1 (by decide) (fun c => ?_) (fun c => ?_)
  · have h := (if_pos c).symm.trans h
    refine lv_iconst (v := 0) hx hb dX2_knows_16 (by decide) ?_
    exact gw_rz X hP hS rfl h dX2_knows_17
  · have h := (if_neg c).symm.trans h
    refine lv_iload_n hx hb dX2_knows_4 rfl (lv_at hl 1 rfl) ?_
    refine lv_aload_n hx hb dX2_knows_5 rfl (lv_at hl 0 rfl) ?_
    refine va_get (D := G.1) (ci := 5) (v := .int (σ 4 1)) (C := RX2) (T := TX2) (N := 9) hx hb hts gx_X2 hown hT.2.1 hP 4 rfl rfl 1 (by decide) (hts _ gv_72) (fun _ h9 => h9) rfl dX2_knows_6 ?_
    refine lv_icmp_ge (tgt := 16) hx hb dX2_knows_9 (by decide) (fun c => ?_) (fun c => ?_)
    · have h := (if_pos c).symm.trans h
      refine lv_iconst (v := 0) hx hb dX2_knows_16 (by decide) ?_
      exact gw_rz X hP hS rfl h dX2_knows_17
    · have h := (if_neg c).symm.trans h
      refine lv_iconst (v := 1) hx hb dX2_knows_12 (by decide) ?_
      refine lv_goto (tgt := 17) hx hb dX2_knows_13 (by decide) ?_
      exact gw_rz X hP hS rfl h dX2_knows_17
def f_X2_pairsOf (a0 : Int32) (σ : gw_S) : Option (Int32 × gw_S) := ((f_X8_at 5 a0 σ).bind fun p1 => (some (p1.1, p1.2)))
set_option maxHeartbeats 4000000 in
set_option maxRecDepth 100000 in
theorem gc_X2_pairsOf (l : Launch) (G : gw_G) (a0 : Int32) (σ : gw_S) (o : (Int32 × gw_S)) (h : f_X2_pairsOf a0 σ = some o) : gw_M (fun sz => gw_QI G sz o) l yX2_pairsOf cX2_pairsOf 2 (some .int) { frames := 1, cells := 0, slots := 0, locals := 21 } G [.ref (G.2.1 4), .int a0] σ := by
  refine gw_en (own := RX2) (lv := [(0, .ref (G.2.1 4)), (1, .int a0)]) (by decide +kernel) rfl (Nat.le_of_ble_eq_true rfl) rfl ?_
  intro p e s m below meth c ls X hl hP
  obtain ⟨hx, hb, hml, hown, hts, -, -, hT, hZ, -⟩ := id X
  have hS : va_S (gw_A G s.heap.size) s.heap s.heap [] := va_S.rf
  unfold f_X2_pairsOf at h
  refine lv_aload_n hx hb dX2_pairsOf_0 rfl (lv_at hl 0 rfl) ?_
  refine va_get (D := G.1) (ci := 5) (v := .ref (G.2.1 5)) (C := RX2) (T := TX2) (N := 9) hx hb hts gx_X2 hown hT.2.1 hP 4 rfl rfl 3 (by decide) (hts _ gv_74) (fun _ h9 => h9) rfl dX2_pairsOf_1 ?_
  refine lv_iload_n hx hb dX2_pairsOf_4 rfl (lv_at hl 1 rfl) ?_
  obtain ⟨p1, gp1, h⟩ := Option.bind_eq_some_iff.mp h
  refine gw_ci (gw_rN (host := "Genericwood") X hP hS (gc_X8_at l G 5 ⟨by decide, by decide⟩ a0 σ _ gp1) gk_X8_at gv_311 gv_275 rfl rfl (Nat.le_of_ble_eq_true rfl) hl.1 ⟨rfl, rfl⟩ ⟨Nat.le_of_ble_eq_true rfl, Nat.le_of_ble_eq_true rfl⟩ ⟨Nat.le_of_ble_eq_true rfl, Nat.le_of_ble_eq_true rfl⟩ dX2_pairsOf_5) hS (fun H locs hP hS => ?_)
  exact gw_ri X hP hS h dX2_pairsOf_8
def f_X2_lower (a0 : Int32) (a1 : Int32) (σ : gw_S) : Option (Int32 × gw_S) := ((f_X8_at 6 ((a0 * (4 : Int32)) + a1) σ).bind fun p1 => (some ((p1.1 &&& (15 : Int32)), p1.2)))
set_option maxHeartbeats 4000000 in
set_option maxRecDepth 100000 in
theorem gc_X2_lower (l : Launch) (G : gw_G) (a0 : Int32) (a1 : Int32) (σ : gw_S) (o : (Int32 × gw_S)) (h : f_X2_lower a0 a1 σ = some o) : gw_M (fun sz => gw_QI G sz o) l yX2_lower cX2_lower 3 (some .int) { frames := 1, cells := 0, slots := 0, locals := 21 } G [.ref (G.2.1 4), .int a0, .int a1] σ := by
  refine gw_en (own := RX2) (lv := [(0, .ref (G.2.1 4)), (1, .int a0), (2, .int a1)]) (by decide +kernel) rfl (Nat.le_of_ble_eq_true rfl) rfl ?_
  intro p e s m below meth c ls X hl hP
  obtain ⟨hx, hb, hml, hown, hts, -, -, hT, hZ, -⟩ := id X
  have hS : va_S (gw_A G s.heap.size) s.heap s.heap [] := va_S.rf
  unfold f_X2_lower at h
  refine lv_aload_n hx hb dX2_lower_0 rfl (lv_at hl 0 rfl) ?_
  refine va_get (D := G.1) (ci := 5) (v := .ref (G.2.1 6)) (C := RX2) (T := TX2) (N := 9) hx hb hts gx_X2 hown hT.2.1 hP 4 rfl rfl 4 (by decide) (hts _ gv_75) (fun _ h9 => h9) rfl dX2_lower_1 ?_
  refine lv_iload_n hx hb dX2_lower_4 rfl (lv_at hl 1 rfl) ?_
  refine lv_iconst (v := 4) hx hb dX2_lower_5 (by decide) ?_
  refine lv_imul hx hb dX2_lower_6 ?_
  refine lv_iload_n hx hb dX2_lower_7 rfl (lv_at hl 2 rfl) ?_
  refine lv_iadd hx hb dX2_lower_8 ?_
  obtain ⟨p1, gp1, h⟩ := Option.bind_eq_some_iff.mp h
  refine gw_ci (gw_rN (host := "Genericwood") X hP hS (gc_X8_at l G 6 ⟨by decide, by decide⟩ ((a0 * (4 : Int32)) + a1) σ _ gp1) gk_X8_at gv_311 gv_275 rfl rfl (Nat.le_of_ble_eq_true rfl) hl.1 ⟨rfl, rfl⟩ ⟨Nat.le_of_ble_eq_true rfl, Nat.le_of_ble_eq_true rfl⟩ ⟨Nat.le_of_ble_eq_true rfl, Nat.le_of_ble_eq_true rfl⟩ dX2_lower_9) hS (fun H locs hP hS => ?_)
  refine lv_bipush (v := 15) hx hb dX2_lower_12 (by decide) ?_
  refine lv_iand hx hb dX2_lower_14 ?_
  exact gw_ri X hP hS h dX2_lower_15
def f_X2_promise (a0 : Int32) (a1 : Int32) (σ : gw_S) : Option (Int32 × gw_S) := ((f_X8_at 6 ((a0 * (4 : Int32)) + a1) σ).bind fun p1 => (some ((p1.1 >>> ((4 : Int32) &&& 31)), p1.2)))
set_option maxHeartbeats 4000000 in
set_option maxRecDepth 100000 in
theorem gc_X2_promise (l : Launch) (G : gw_G) (a0 : Int32) (a1 : Int32) (σ : gw_S) (o : (Int32 × gw_S)) (h : f_X2_promise a0 a1 σ = some o) : gw_M (fun sz => gw_QI G sz o) l yX2_promise cX2_promise 3 (some .int) { frames := 1, cells := 0, slots := 0, locals := 21 } G [.ref (G.2.1 4), .int a0, .int a1] σ := by
  refine gw_en (own := RX2) (lv := [(0, .ref (G.2.1 4)), (1, .int a0), (2, .int a1)]) (by decide +kernel) rfl (Nat.le_of_ble_eq_true rfl) rfl ?_
  intro p e s m below meth c ls X hl hP
  obtain ⟨hx, hb, hml, hown, hts, -, -, hT, hZ, -⟩ := id X
  have hS : va_S (gw_A G s.heap.size) s.heap s.heap [] := va_S.rf
  unfold f_X2_promise at h
  refine lv_aload_n hx hb dX2_promise_0 rfl (lv_at hl 0 rfl) ?_
  refine va_get (D := G.1) (ci := 5) (v := .ref (G.2.1 6)) (C := RX2) (T := TX2) (N := 9) hx hb hts gx_X2 hown hT.2.1 hP 4 rfl rfl 4 (by decide) (hts _ gv_75) (fun _ h9 => h9) rfl dX2_promise_1 ?_
  refine lv_iload_n hx hb dX2_promise_4 rfl (lv_at hl 1 rfl) ?_
  refine lv_iconst (v := 4) hx hb dX2_promise_5 (by decide) ?_
  refine lv_imul hx hb dX2_promise_6 ?_
  refine lv_iload_n hx hb dX2_promise_7 rfl (lv_at hl 2 rfl) ?_
  refine lv_iadd hx hb dX2_promise_8 ?_
  obtain ⟨p1, gp1, h⟩ := Option.bind_eq_some_iff.mp h
  refine gw_ci (gw_rN (host := "Genericwood") X hP hS (gc_X8_at l G 6 ⟨by decide, by decide⟩ ((a0 * (4 : Int32)) + a1) σ _ gp1) gk_X8_at gv_311 gv_275 rfl rfl (Nat.le_of_ble_eq_true rfl) hl.1 ⟨rfl, rfl⟩ ⟨Nat.le_of_ble_eq_true rfl, Nat.le_of_ble_eq_true rfl⟩ ⟨Nat.le_of_ble_eq_true rfl, Nat.le_of_ble_eq_true rfl⟩ dX2_promise_9) hS (fun H locs hP hS => ?_)
  refine lv_iconst (v := 4) hx hb dX2_promise_12 (by decide) ?_
  refine lv_ishr hx hb dX2_promise_13 ?_
  exact gw_ri X hP hS h dX2_promise_14
def f_X2_height (a0 : Int32) (σ : gw_S) : Option (Int32 × gw_S) := ((f_X8_at 7 a0 σ).bind fun p1 => (some (p1.1, p1.2)))
set_option maxHeartbeats 4000000 in
set_option maxRecDepth 100000 in
theorem gc_X2_height (l : Launch) (G : gw_G) (a0 : Int32) (σ : gw_S) (o : (Int32 × gw_S)) (h : f_X2_height a0 σ = some o) : gw_M (fun sz => gw_QI G sz o) l yX2_height cX2_height 2 (some .int) { frames := 1, cells := 0, slots := 0, locals := 21 } G [.ref (G.2.1 4), .int a0] σ := by
  refine gw_en (own := RX2) (lv := [(0, .ref (G.2.1 4)), (1, .int a0)]) (by decide +kernel) rfl (Nat.le_of_ble_eq_true rfl) rfl ?_
  intro p e s m below meth c ls X hl hP
  obtain ⟨hx, hb, hml, hown, hts, -, -, hT, hZ, -⟩ := id X
  have hS : va_S (gw_A G s.heap.size) s.heap s.heap [] := va_S.rf
  unfold f_X2_height at h
  refine lv_aload_n hx hb dX2_height_0 rfl (lv_at hl 0 rfl) ?_
  refine va_get (D := G.1) (ci := 5) (v := .ref (G.2.1 7)) (C := RX2) (T := TX2) (N := 9) hx hb hts gx_X2 hown hT.2.1 hP 4 rfl rfl 5 (by decide) (hts _ gv_76) (fun _ h9 => h9) rfl dX2_height_1 ?_
  refine lv_iload_n hx hb dX2_height_4 rfl (lv_at hl 1 rfl) ?_
  obtain ⟨p1, gp1, h⟩ := Option.bind_eq_some_iff.mp h
  refine gw_ci (gw_rN (host := "Genericwood") X hP hS (gc_X8_at l G 7 ⟨by decide, by decide⟩ a0 σ _ gp1) gk_X8_at gv_311 gv_275 rfl rfl (Nat.le_of_ble_eq_true rfl) hl.1 ⟨rfl, rfl⟩ ⟨Nat.le_of_ble_eq_true rfl, Nat.le_of_ble_eq_true rfl⟩ ⟨Nat.le_of_ble_eq_true rfl, Nat.le_of_ble_eq_true rfl⟩ dX2_height_5) hS (fun H locs hP hS => ?_)
  exact gw_ri X hP hS h dX2_height_8
def f_X2_hasPair_L3 : Nat → Int32 → Int32 → Int32 → Int32 → gw_S → Option (Int32 × gw_S)
  | 0, _, _, _, _, _ => none
  | n + 1, v3_1, v3_2, v3_3, v3_4, σ => ((f_X2_pairsOf v3_1 σ).bind fun p1 => (if p1.1 ≤ v3_4 then (some ((0 : Int32), p1.2)) else ((f_X2_lower v3_1 v3_4 p1.2).bind fun p2 => (if p2.1 = v3_2 then ((f_X2_promise v3_1 v3_4 p2.2).bind fun p3 => (if p3.1 = v3_3 then (some ((1 : Int32), p3.2)) else (f_X2_hasPair_L3 n v3_1 v3_2 v3_3 (v3_4 + (1 : Int32)) p3.2))) else (f_X2_hasPair_L3 n v3_1 v3_2 v3_3 (v3_4 + (1 : Int32)) p2.2)))))
def f_X2_hasPair (a0 : Int32) (a1 : Int32) (a2 : Int32) (σ : gw_S) : Option (Int32 × gw_S) := (f_X2_hasPair_L3 64 a0 a1 a2 (0 : Int32) σ)
set_option maxHeartbeats 4000000 in
set_option maxRecDepth 100000 in
theorem gc_X2_hasPair (l : Launch) (G : gw_G) (a0 : Int32) (a1 : Int32) (a2 : Int32) (σ : gw_S) (o : (Int32 × gw_S)) (h : f_X2_hasPair a0 a1 a2 σ = some o) : gw_M (fun sz => gw_QZ G sz o) l yX2_hasPair cX2_hasPair 5 (some .boolean) { frames := 2, cells := 0, slots := 0, locals := 43 } G [.ref (G.2.1 4), .int a0, .int a1, .int a2] σ := by
  refine gw_en (own := RX2) (lv := [(0, .ref (G.2.1 4)), (1, .int a0), (2, .int a1), (3, .int a2)]) (by decide +kernel) rfl (Nat.le_of_ble_eq_true rfl) rfl ?_
  intro p e s m below meth c ls X hl hP
  obtain ⟨hx, hb, hml, hown, hts, -, -, hT, hZ, -⟩ := id X
  have hS : va_S (gw_A G s.heap.size) s.heap s.heap [] := va_S.rf
  have L3 : ∀ (n : Nat) (v3_1 : Int32) (v3_2 : Int32) (v3_3 : Int32) (v3_4 : Int32) (σ : gw_S) (H : Heap) (locs : List Loc) (ls : Array Slot), f_X2_hasPair_L3 n v3_1 v3_2 v3_3 v3_4 σ = some o → gw_P G σ H → va_S (gw_A G s.heap.size) s.heap H locs → lv_has ls 5 [(0, .ref (G.2.1 4)), (1, .int v3_1), (2, .int v3_2), (3, .int v3_3), (4, .int v3_4)] → W p l e { frames := 2, cells := 0, slots := 0, locals := 43 } s m [.ref (G.2.1 4), .int a0, .int a1, .int a2].toArray below meth c H locs 0 0 (MQ below (gw_QZ G s.heap.size o) [.ref (G.2.1 4), .int a0, .int a1, .int a2].toArray s 0 0 (gw_A G s.heap.size)) (F0 m 3 ls []) := by
    intro n
    induction n with
    | zero =>
      intro v3_1 v3_2 v3_3 v3_4 σ H locs ls h
      exact absurd h (by rw [f_X2_hasPair_L3.eq_1]; exact fun h => nomatch h)
    | succ n ih =>
      intro v3_1 v3_2 v3_3 v3_4 σ H locs ls h hP hS hl
      rw [f_X2_hasPair_L3.eq_2] at h
      refine lv_iload hx hb dX2_hasPair_3 (lv_at hl 4 rfl) ?_
      refine lv_aload_n hx hb dX2_hasPair_5 rfl (lv_at hl 0 rfl) ?_
      refine lv_iload_n hx hb dX2_hasPair_6 rfl (lv_at hl 1 rfl) ?_
      obtain ⟨p1, gp1, h⟩ := Option.bind_eq_some_iff.mp h
      refine gw_ci (gw_rV (C := RX2) X hP hS (gc_X2_pairsOf l G v3_1 σ _ gp1) gk_X2_pairsOf gv_810 ⟨gv_313, gv_314⟩ (va_recv hT.2.1 hP (ci := 5) (q0 := 4) rfl rfl) rfl rfl (Nat.le_of_ble_eq_true rfl) hl.1 ⟨rfl, rfl⟩ ⟨Nat.le_of_ble_eq_true rfl, Nat.le_of_ble_eq_true rfl⟩ ⟨Nat.le_of_ble_eq_true rfl, Nat.le_of_ble_eq_true rfl⟩ dX2_hasPair_7) hS (fun H locs hP hS => ?_)
      refine lv_icmp_ge (tgt := 43) hx hb dX2_hasPair_10 (by decide) (fun c => ?_) (fun c => ?_)
      · have h := (if_pos c).symm.trans h
        refine lv_iconst (v := 0) hx hb dX2_hasPair_43 (by decide) ?_
        exact gw_rz X hP hS rfl h dX2_hasPair_44
      · have h := (if_neg c).symm.trans h
        refine lv_aload_n hx hb dX2_hasPair_13 rfl (lv_at hl 0 rfl) ?_
        refine lv_iload_n hx hb dX2_hasPair_14 rfl (lv_at hl 1 rfl) ?_
        refine lv_iload hx hb dX2_hasPair_15 (lv_at hl 4 rfl) ?_
        obtain ⟨p2, gp2, h⟩ := Option.bind_eq_some_iff.mp h
        refine gw_ci (gw_rV (C := RX2) X hP hS (gc_X2_lower l G v3_1 v3_4 p1.2 _ gp2) gk_X2_lower gv_811 ⟨gv_317, gv_318⟩ (va_recv hT.2.1 hP (ci := 5) (q0 := 4) rfl rfl) rfl rfl (Nat.le_of_ble_eq_true rfl) hl.1 ⟨rfl, rfl⟩ ⟨Nat.le_of_ble_eq_true rfl, Nat.le_of_ble_eq_true rfl⟩ ⟨Nat.le_of_ble_eq_true rfl, Nat.le_of_ble_eq_true rfl⟩ dX2_hasPair_17) hS (fun H locs hP hS => ?_)
        refine lv_iload_n hx hb dX2_hasPair_20 rfl (lv_at hl 2 rfl) ?_
        refine lv_icmp_ne (tgt := 37) hx hb dX2_hasPair_21 (by decide) (fun c => ?_) (fun c => ?_)
        · have h := (if_neg c).symm.trans h
          refine lv_iinc (v := (v3_4 + (1 : Int32))) (lv' := [(4, .int (v3_4 + (1 : Int32))), (0, .ref (G.2.1 4)), (1, .int v3_1), (2, .int v3_2), (3, .int v3_3)]) hx hb dX2_hasPair_37 hl (k := 4) rfl rfl (by decide) rfl (fun ls hl => ?_)
          refine lv_goto (tgt := 3) hx hb dX2_hasPair_40 (by decide) ?_
          exact ih v3_1 v3_2 v3_3 (v3_4 + (1 : Int32)) p2.2 _ _ _ h hP hS (lv_sub hl [1, 2, 3, 4, 0] rfl)
        · have h := (if_pos c).symm.trans h
          refine lv_aload_n hx hb dX2_hasPair_24 rfl (lv_at hl 0 rfl) ?_
          refine lv_iload_n hx hb dX2_hasPair_25 rfl (lv_at hl 1 rfl) ?_
          refine lv_iload hx hb dX2_hasPair_26 (lv_at hl 4 rfl) ?_
          obtain ⟨p3, gp3, h⟩ := Option.bind_eq_some_iff.mp h
          refine gw_ci (gw_rV (C := RX2) X hP hS (gc_X2_promise l G v3_1 v3_4 p2.2 _ gp3) gk_X2_promise gv_843 ⟨gv_321, gv_322⟩ (va_recv hT.2.1 hP (ci := 5) (q0 := 4) rfl rfl) rfl rfl (Nat.le_of_ble_eq_true rfl) hl.1 ⟨rfl, rfl⟩ ⟨Nat.le_of_ble_eq_true rfl, Nat.le_of_ble_eq_true rfl⟩ ⟨Nat.le_of_ble_eq_true rfl, Nat.le_of_ble_eq_true rfl⟩ dX2_hasPair_28) hS (fun H locs hP hS => ?_)
          refine lv_iload_n hx hb dX2_hasPair_31 rfl (lv_at hl 3 rfl) ?_
          refine lv_icmp_ne (tgt := 37) hx hb dX2_hasPair_32 (by decide) (fun c => ?_) (fun c => ?_)
          · have h := (if_neg c).symm.trans h
            refine lv_iinc (v := (v3_4 + (1 : Int32))) (lv' := [(4, .int (v3_4 + (1 : Int32))), (0, .ref (G.2.1 4)), (1, .int v3_1), (2, .int v3_2), (3, .int v3_3)]) hx hb dX2_hasPair_37 hl (k := 4) rfl rfl (by decide) rfl (fun ls hl => ?_)
            refine lv_goto (tgt := 3) hx hb dX2_hasPair_40 (by decide) ?_
            exact ih v3_1 v3_2 v3_3 (v3_4 + (1 : Int32)) p3.2 _ _ _ h hP hS (lv_sub hl [1, 2, 3, 4, 0] rfl)
          · have h := (if_pos c).symm.trans h
            refine lv_iconst (v := 1) hx hb dX2_hasPair_35 (by decide) ?_
            exact gw_rz X hP hS rfl h dX2_hasPair_36
  unfold f_X2_hasPair at h
  refine lv_iconst (v := 0) hx hb dX2_hasPair_0 (by decide) ?_
  refine lv_istore (lv' := [(4, .int (0 : Int32)), (0, .ref (G.2.1 4)), (1, .int a0), (2, .int a1), (3, .int a2)]) hx hb dX2_hasPair_1 hl (by decide) rfl (fun ls hl => ?_)
  exact L3 64 a0 a1 a2 (0 : Int32) σ _ _ _ h hP hS (lv_sub hl [1, 2, 3, 4, 0] rfl)
def f_X2_rankAll_h_L34 : Nat → (Int32 → Int32 → Int32 → Int32 → gw_S → Option gw_S) → Int32 → Int32 → Int32 → Int32 → Int32 → gw_S → Option gw_S
  | 0, _, _, _, _, _, _, _ => none
  | n + 1, K, v34_2, v34_3, v34_4, v34_5, v34_6, σ => ((f_X2_pairsOf v34_4 σ).bind fun p1 => (if p1.1 ≤ v34_6 then (K v34_2 v34_3 v34_4 v34_5 p1.2) else ((f_X2_lower v34_4 v34_6 p1.2).bind fun p2 => ((f_X8_at 7 p2.1 p2.2).bind fun p3 => (f_X2_rankAll_h_L34 n K v34_2 v34_3 v34_4 (if v34_5 < ((1 : Int32) + p3.1) then ((1 : Int32) + p3.1) else v34_5) (v34_6 + (1 : Int32)) p3.2)))))
def f_X2_rankAll_h_L3 : Nat → Int32 → Int32 → Int32 → gw_S → Option gw_S
  | 0, _, _, _, _ => none
  | n + 1, v3_2, v3_3, v3_4, σ => (if (σ 4 1) ≤ v3_4 then (some σ) else (if v3_4 = v3_2 then ((f_X8_at 7 v3_3 σ).bind fun p5 => (f_X2_rankAll_h_L34 64 (fun w34_2 w34_3 w34_4 w34_5 σ34 => ((f_X8_put 7 w34_4 w34_5 σ34).bind fun p6 => (f_X2_rankAll_h_L3 n w34_2 w34_3 (w34_4 + (1 : Int32)) p6))) v3_2 v3_3 v3_4 ((1 : Int32) + p5.1) (0 : Int32) p5.2)) else (f_X2_rankAll_h_L34 64 (fun w34_2 w34_3 w34_4 w34_5 σ34 => ((f_X8_put 7 w34_4 w34_5 σ34).bind fun p4 => (f_X2_rankAll_h_L3 n w34_2 w34_3 (w34_4 + (1 : Int32)) p4))) v3_2 v3_3 v3_4 (0 : Int32) (0 : Int32) σ)))
def f_X2_rankAll_h (a1 : Int32) (a2 : Int32) (σ : gw_S) : Option gw_S := (f_X2_rankAll_h_L3 64 a1 a2 (0 : Int32) σ)
set_option maxHeartbeats 4000000 in
set_option maxRecDepth 100000 in
theorem gc_X2_rankAll_h (l : Launch) (G : gw_G) (a1 : Int32) (a2 : Int32) (σ : gw_S) (o : gw_S) (h : f_X2_rankAll_h a1 a2 σ = some o) : gw_M (fun sz => gw_QV G sz o) l yX2_rankAll cX2_rankAll 7 none { frames := 2, cells := 0, slots := 0, locals := 43 } G [.ref (G.2.1 4), .ref (G.2.1 7), .int a1, .int a2] σ := by
  refine gw_en (own := RX2) (lv := [(0, .ref (G.2.1 4)), (1, .ref (G.2.1 7)), (2, .int a1), (3, .int a2)]) (by decide +kernel) rfl (Nat.le_of_ble_eq_true rfl) rfl ?_
  intro p e s m below meth c ls X hl hP
  obtain ⟨hx, hb, hml, hown, hts, -, -, hT, hZ, -⟩ := id X
  have hS : va_S (gw_A G s.heap.size) s.heap s.heap [] := va_S.rf
  have L34 : ∀ (n : Nat) (K : Int32 → Int32 → Int32 → Int32 → gw_S → Option gw_S) (v34_2 : Int32) (v34_3 : Int32) (v34_4 : Int32) (v34_5 : Int32) (v34_6 : Int32) (σ : gw_S) (H : Heap) (locs : List Loc) (ls : Array Slot), f_X2_rankAll_h_L34 n K v34_2 v34_3 v34_4 v34_5 v34_6 σ = some o → gw_P G σ H → va_S (gw_A G s.heap.size) s.heap H locs → lv_has ls 7 [(0, .ref (G.2.1 4)), (1, .ref (G.2.1 7)), (2, .int v34_2), (3, .int v34_3), (4, .int v34_4), (5, .int v34_5), (6, .int v34_6)] → (∀ (w2 : Int32) (w3 : Int32) (w4 : Int32) (w5 : Int32) (σ : gw_S) (H : Heap) (locs : List Loc) (ls : Array Slot), K w2 w3 w4 w5 σ = some o → gw_P G σ H → va_S (gw_A G s.heap.size) s.heap H locs → lv_has ls 7 [(0, .ref (G.2.1 4)), (1, .ref (G.2.1 7)), (2, .int w2), (3, .int w3), (4, .int w4), (5, .int w5)] → W p l e { frames := 2, cells := 0, slots := 0, locals := 43 } s m [.ref (G.2.1 4), .ref (G.2.1 7), .int a1, .int a2].toArray below meth c H locs 0 0 (MQ below (gw_QV G s.heap.size o) [.ref (G.2.1 4), .ref (G.2.1 7), .int a1, .int a2].toArray s 0 0 (gw_A G s.heap.size)) (F0 m 72 ls [])) → W p l e { frames := 2, cells := 0, slots := 0, locals := 43 } s m [.ref (G.2.1 4), .ref (G.2.1 7), .int a1, .int a2].toArray below meth c H locs 0 0 (MQ below (gw_QV G s.heap.size o) [.ref (G.2.1 4), .ref (G.2.1 7), .int a1, .int a2].toArray s 0 0 (gw_A G s.heap.size)) (F0 m 34 ls []) := by
    intro n K
    induction n with
    | zero =>
      intro v34_2 v34_3 v34_4 v34_5 v34_6 σ H locs ls h
      exact absurd h (by rw [f_X2_rankAll_h_L34.eq_1]; exact fun h => nomatch h)
    | succ n ih =>
      intro v34_2 v34_3 v34_4 v34_5 v34_6 σ H locs ls h hP hS hl hK
      rw [f_X2_rankAll_h_L34.eq_2] at h
      refine lv_iload hx hb dX2_rankAll_34 (lv_at hl 6 rfl) ?_
      refine lv_aload_n hx hb dX2_rankAll_36 rfl (lv_at hl 0 rfl) ?_
      refine lv_iload hx hb dX2_rankAll_37 (lv_at hl 4 rfl) ?_
      obtain ⟨p1, gp1, h⟩ := Option.bind_eq_some_iff.mp h
      refine gw_ci (gw_rV (C := RX2) X hP hS (gc_X2_pairsOf l G v34_4 σ _ gp1) gk_X2_pairsOf gv_810 ⟨gv_313, gv_314⟩ (va_recv hT.2.1 hP (ci := 5) (q0 := 4) rfl rfl) rfl rfl (Nat.le_of_ble_eq_true rfl) hl.1 ⟨rfl, rfl⟩ ⟨Nat.le_of_ble_eq_true rfl, Nat.le_of_ble_eq_true rfl⟩ ⟨Nat.le_of_ble_eq_true rfl, Nat.le_of_ble_eq_true rfl⟩ dX2_rankAll_39) hS (fun H locs hP hS => ?_)
      refine lv_icmp_ge (tgt := 72) hx hb dX2_rankAll_42 (by decide) (fun c => ?_) (fun c => ?_)
      · have h := (if_pos c).symm.trans h
        exact hK v34_2 v34_3 v34_4 v34_5 p1.2 _ _ _ h hP hS (lv_sub hl [0, 1, 2, 3, 4, 5] rfl)
      · have h := (if_neg c).symm.trans h
        refine lv_iload hx hb dX2_rankAll_45 (lv_at hl 5 rfl) ?_
        refine lv_iconst (v := 1) hx hb dX2_rankAll_47 (by decide) ?_
        refine lv_aload_n hx hb dX2_rankAll_48 rfl (lv_at hl 1 rfl) ?_
        refine lv_aload_n hx hb dX2_rankAll_49 rfl (lv_at hl 0 rfl) ?_
        refine lv_iload hx hb dX2_rankAll_50 (lv_at hl 4 rfl) ?_
        refine lv_iload hx hb dX2_rankAll_52 (lv_at hl 6 rfl) ?_
        obtain ⟨p2, gp2, h⟩ := Option.bind_eq_some_iff.mp h
        refine gw_ci (gw_rV (C := RX2) X hP hS (gc_X2_lower l G v34_4 v34_6 p1.2 _ gp2) gk_X2_lower gv_811 ⟨gv_317, gv_318⟩ (va_recv hT.2.1 hP (ci := 5) (q0 := 4) rfl rfl) rfl rfl (Nat.le_of_ble_eq_true rfl) hl.1 ⟨rfl, rfl⟩ ⟨Nat.le_of_ble_eq_true rfl, Nat.le_of_ble_eq_true rfl⟩ ⟨Nat.le_of_ble_eq_true rfl, Nat.le_of_ble_eq_true rfl⟩ dX2_rankAll_54) hS (fun H locs hP hS => ?_)
        obtain ⟨p3, gp3, h⟩ := Option.bind_eq_some_iff.mp h
        refine gw_ci (gw_rN (host := "Genericwood") X hP hS (gc_X8_at l G 7 ⟨by decide, by decide⟩ p2.1 p2.2 _ gp3) gk_X8_at gv_311 gv_275 rfl rfl (Nat.le_of_ble_eq_true rfl) hl.1 ⟨rfl, rfl⟩ ⟨Nat.le_of_ble_eq_true rfl, Nat.le_of_ble_eq_true rfl⟩ ⟨Nat.le_of_ble_eq_true rfl, Nat.le_of_ble_eq_true rfl⟩ dX2_rankAll_57) hS (fun H locs hP hS => ?_)
        refine lv_iadd hx hb dX2_rankAll_60 ?_
        refine va_mmax hx hb (hml.trans hl.1.symm) hown (hts _ gv_812) (hts _ gx_mm1) (hts _ gx_mm2) (hts _ gx_mm3) (Nat.le_of_ble_eq_true rfl) (Nat.le_of_ble_eq_true rfl) (Nat.le_of_ble_eq_true rfl) (Nat.le_of_ble_eq_true rfl) dX2_rankAll_61 ?_
        refine lv_istore (lv' := [(5, .int (if v34_5 < ((1 : Int32) + p3.1) then ((1 : Int32) + p3.1) else v34_5)), (0, .ref (G.2.1 4)), (1, .ref (G.2.1 7)), (2, .int v34_2), (3, .int v34_3), (4, .int v34_4), (6, .int v34_6)]) hx hb dX2_rankAll_64 hl (by decide) rfl (fun ls hl => ?_)
        refine lv_iinc (v := (v34_6 + (1 : Int32))) (lv' := [(6, .int (v34_6 + (1 : Int32))), (5, .int (if v34_5 < ((1 : Int32) + p3.1) then ((1 : Int32) + p3.1) else v34_5)), (0, .ref (G.2.1 4)), (1, .ref (G.2.1 7)), (2, .int v34_2), (3, .int v34_3), (4, .int v34_4)]) hx hb dX2_rankAll_66 hl (k := 6) rfl rfl (by decide) rfl (fun ls hl => ?_)
        refine lv_goto (tgt := 34) hx hb dX2_rankAll_69 (by decide) ?_
        exact ih v34_2 v34_3 v34_4 (if v34_5 < ((1 : Int32) + p3.1) then ((1 : Int32) + p3.1) else v34_5) (v34_6 + (1 : Int32)) p3.2 _ _ _ h hP hS (lv_sub hl [2, 3, 4, 5, 6, 1, 0] rfl) hK
  have L3 : ∀ (n : Nat) (v3_2 : Int32) (v3_3 : Int32) (v3_4 : Int32) (σ : gw_S) (H : Heap) (locs : List Loc) (ls : Array Slot), f_X2_rankAll_h_L3 n v3_2 v3_3 v3_4 σ = some o → gw_P G σ H → va_S (gw_A G s.heap.size) s.heap H locs → lv_has ls 7 [(0, .ref (G.2.1 4)), (1, .ref (G.2.1 7)), (2, .int v3_2), (3, .int v3_3), (4, .int v3_4)] → W p l e { frames := 2, cells := 0, slots := 0, locals := 43 } s m [.ref (G.2.1 4), .ref (G.2.1 7), .int a1, .int a2].toArray below meth c H locs 0 0 (MQ below (gw_QV G s.heap.size o) [.ref (G.2.1 4), .ref (G.2.1 7), .int a1, .int a2].toArray s 0 0 (gw_A G s.heap.size)) (F0 m 3 ls []) := by
    intro n
    induction n with
    | zero =>
      intro v3_2 v3_3 v3_4 σ H locs ls h
      exact absurd h (by rw [f_X2_rankAll_h_L3.eq_1]; exact fun h => nomatch h)
    | succ n ih =>
      intro v3_2 v3_3 v3_4 σ H locs ls h hP hS hl
      rw [f_X2_rankAll_h_L3.eq_2] at h
      refine lv_iload hx hb dX2_rankAll_3 (lv_at hl 4 rfl) ?_
      refine lv_aload_n hx hb dX2_rankAll_5 rfl (lv_at hl 0 rfl) ?_
      refine va_get (D := G.1) (ci := 5) (v := .int (σ 4 1)) (C := RX2) (T := TX2) (N := 9) hx hb hts gx_X2 hown hT.2.1 hP 4 rfl rfl 1 (by decide) (hts _ gv_72) (fun _ h9 => h9) rfl dX2_rankAll_6 ?_
      refine lv_icmp_ge (tgt := 86) hx hb dX2_rankAll_9 (by decide) (fun c => ?_) (fun c => ?_)
      · have h := (if_pos c).symm.trans h
        exact gw_rv X hP hS h dX2_rankAll_86
      · have h := (if_neg c).symm.trans h
        refine lv_iload hx hb dX2_rankAll_12 (lv_at hl 4 rfl) ?_
        refine lv_iload_n hx hb dX2_rankAll_14 rfl (lv_at hl 2 rfl) ?_
        refine lv_icmp_ne (tgt := 28) hx hb dX2_rankAll_15 (by decide) (fun c => ?_) (fun c => ?_)
        · have h := (if_neg c).symm.trans h
          refine lv_iconst (v := 0) hx hb dX2_rankAll_28 (by decide) ?_
          refine lv_istore (lv' := [(5, .int (0 : Int32)), (0, .ref (G.2.1 4)), (1, .ref (G.2.1 7)), (2, .int v3_2), (3, .int v3_3), (4, .int v3_4)]) hx hb dX2_rankAll_29 hl (by decide) rfl (fun ls hl => ?_)
          refine lv_iconst (v := 0) hx hb dX2_rankAll_31 (by decide) ?_
          refine lv_istore (lv' := [(6, .int (0 : Int32)), (5, .int (0 : Int32)), (0, .ref (G.2.1 4)), (1, .ref (G.2.1 7)), (2, .int v3_2), (3, .int v3_3), (4, .int v3_4)]) hx hb dX2_rankAll_32 hl (by decide) rfl (fun ls hl => ?_)
          refine L34 64 _ v3_2 v3_3 v3_4 (0 : Int32) (0 : Int32) σ _ _ _ h hP hS (lv_sub hl [2, 3, 4, 5, 6, 1, 0] rfl) (fun w34_2 w34_3 w34_4 w34_5 σ34 H locs ls h hP hS hl => ?_)
          refine lv_aload_n hx hb dX2_rankAll_72 rfl (lv_at hl 1 rfl) ?_
          refine lv_iload hx hb dX2_rankAll_73 (lv_at hl 4 rfl) ?_
          refine lv_iload hx hb dX2_rankAll_75 (lv_at hl 5 rfl) ?_
          obtain ⟨p4, gp4, h⟩ := Option.bind_eq_some_iff.mp h
          refine gw_cv (gw_rN (host := "Genericwood") X hP hS (gc_X8_put l G 7 ⟨by decide, by decide⟩ w34_4 w34_5 σ34 _ gp4) gk_X8_put gv_813 gv_403 rfl rfl (Nat.le_of_ble_eq_true rfl) hl.1 ⟨rfl, rfl⟩ ⟨Nat.le_of_ble_eq_true rfl, Nat.le_of_ble_eq_true rfl⟩ ⟨Nat.le_of_ble_eq_true rfl, Nat.le_of_ble_eq_true rfl⟩ dX2_rankAll_77) hS (fun H locs hP hS => ?_)
          refine lv_iinc (v := (w34_4 + (1 : Int32))) (lv' := [(4, .int (w34_4 + (1 : Int32))), (0, .ref (G.2.1 4)), (1, .ref (G.2.1 7)), (2, .int w34_2), (3, .int w34_3), (5, .int w34_5)]) hx hb dX2_rankAll_80 hl (k := 4) rfl rfl (by decide) rfl (fun ls hl => ?_)
          refine lv_goto (tgt := 3) hx hb dX2_rankAll_83 (by decide) ?_
          exact ih w34_2 w34_3 (w34_4 + (1 : Int32)) p4 _ _ _ h hP hS (lv_sub hl [1, 2, 3, 4, 0] rfl)
        · have h := (if_pos c).symm.trans h
          refine lv_iconst (v := 1) hx hb dX2_rankAll_18 (by decide) ?_
          refine lv_aload_n hx hb dX2_rankAll_19 rfl (lv_at hl 1 rfl) ?_
          refine lv_iload_n hx hb dX2_rankAll_20 rfl (lv_at hl 3 rfl) ?_
          obtain ⟨p5, gp5, h⟩ := Option.bind_eq_some_iff.mp h
          refine gw_ci (gw_rN (host := "Genericwood") X hP hS (gc_X8_at l G 7 ⟨by decide, by decide⟩ v3_3 σ _ gp5) gk_X8_at gv_311 gv_275 rfl rfl (Nat.le_of_ble_eq_true rfl) hl.1 ⟨rfl, rfl⟩ ⟨Nat.le_of_ble_eq_true rfl, Nat.le_of_ble_eq_true rfl⟩ ⟨Nat.le_of_ble_eq_true rfl, Nat.le_of_ble_eq_true rfl⟩ dX2_rankAll_21) hS (fun H locs hP hS => ?_)
          refine lv_iadd hx hb dX2_rankAll_24 ?_
          refine lv_goto (tgt := 29) hx hb dX2_rankAll_25 (by decide) ?_
          refine lv_istore (lv' := [(5, .int ((1 : Int32) + p5.1)), (0, .ref (G.2.1 4)), (1, .ref (G.2.1 7)), (2, .int v3_2), (3, .int v3_3), (4, .int v3_4)]) hx hb dX2_rankAll_29 hl (by decide) rfl (fun ls hl => ?_)
          refine lv_iconst (v := 0) hx hb dX2_rankAll_31 (by decide) ?_
          refine lv_istore (lv' := [(6, .int (0 : Int32)), (5, .int ((1 : Int32) + p5.1)), (0, .ref (G.2.1 4)), (1, .ref (G.2.1 7)), (2, .int v3_2), (3, .int v3_3), (4, .int v3_4)]) hx hb dX2_rankAll_32 hl (by decide) rfl (fun ls hl => ?_)
          refine L34 64 _ v3_2 v3_3 v3_4 ((1 : Int32) + p5.1) (0 : Int32) p5.2 _ _ _ h hP hS (lv_sub hl [2, 3, 4, 5, 6, 1, 0] rfl) (fun w34_2 w34_3 w34_4 w34_5 σ34 H locs ls h hP hS hl => ?_)
          refine lv_aload_n hx hb dX2_rankAll_72 rfl (lv_at hl 1 rfl) ?_
          refine lv_iload hx hb dX2_rankAll_73 (lv_at hl 4 rfl) ?_
          refine lv_iload hx hb dX2_rankAll_75 (lv_at hl 5 rfl) ?_
          obtain ⟨p6, gp6, h⟩ := Option.bind_eq_some_iff.mp h
          refine gw_cv (gw_rN (host := "Genericwood") X hP hS (gc_X8_put l G 7 ⟨by decide, by decide⟩ w34_4 w34_5 σ34 _ gp6) gk_X8_put gv_813 gv_403 rfl rfl (Nat.le_of_ble_eq_true rfl) hl.1 ⟨rfl, rfl⟩ ⟨Nat.le_of_ble_eq_true rfl, Nat.le_of_ble_eq_true rfl⟩ ⟨Nat.le_of_ble_eq_true rfl, Nat.le_of_ble_eq_true rfl⟩ dX2_rankAll_77) hS (fun H locs hP hS => ?_)
          refine lv_iinc (v := (w34_4 + (1 : Int32))) (lv' := [(4, .int (w34_4 + (1 : Int32))), (0, .ref (G.2.1 4)), (1, .ref (G.2.1 7)), (2, .int w34_2), (3, .int w34_3), (5, .int w34_5)]) hx hb dX2_rankAll_80 hl (k := 4) rfl rfl (by decide) rfl (fun ls hl => ?_)
          refine lv_goto (tgt := 3) hx hb dX2_rankAll_83 (by decide) ?_
          exact ih w34_2 w34_3 (w34_4 + (1 : Int32)) p6 _ _ _ h hP hS (lv_sub hl [1, 2, 3, 4, 0] rfl)
  unfold f_X2_rankAll_h at h
  refine lv_iconst (v := 0) hx hb dX2_rankAll_0 (by decide) ?_
  refine lv_istore (lv' := [(4, .int (0 : Int32)), (0, .ref (G.2.1 4)), (1, .ref (G.2.1 7)), (2, .int a1), (3, .int a2)]) hx hb dX2_rankAll_1 hl (by decide) rfl (fun ls hl => ?_)
  exact L3 64 a1 a2 (0 : Int32) σ _ _ _ h hP hS (lv_sub hl [1, 2, 3, 4, 0] rfl)
def f_X2_rankAll_t_L34 : Nat → (Int32 → Int32 → Int32 → Int32 → gw_S → Option gw_S) → Int32 → Int32 → Int32 → Int32 → Int32 → gw_S → Option gw_S
  | 0, _, _, _, _, _, _, _ => none
  | n + 1, K, v34_2, v34_3, v34_4, v34_5, v34_6, σ => ((f_X2_pairsOf v34_4 σ).bind fun p1 => (if p1.1 ≤ v34_6 then (K v34_2 v34_3 v34_4 v34_5 p1.2) else ((f_X2_lower v34_4 v34_6 p1.2).bind fun p2 => ((f_X8_at 8 p2.1 p2.2).bind fun p3 => (f_X2_rankAll_t_L34 n K v34_2 v34_3 v34_4 (if v34_5 < ((1 : Int32) + p3.1) then ((1 : Int32) + p3.1) else v34_5) (v34_6 + (1 : Int32)) p3.2)))))
def f_X2_rankAll_t_L3 : Nat → Int32 → Int32 → Int32 → gw_S → Option gw_S
  | 0, _, _, _, _ => none
  | n + 1, v3_2, v3_3, v3_4, σ => (if (σ 4 1) ≤ v3_4 then (some σ) else (if v3_4 = v3_2 then ((f_X8_at 8 v3_3 σ).bind fun p5 => (f_X2_rankAll_t_L34 64 (fun w34_2 w34_3 w34_4 w34_5 σ34 => ((f_X8_put 8 w34_4 w34_5 σ34).bind fun p6 => (f_X2_rankAll_t_L3 n w34_2 w34_3 (w34_4 + (1 : Int32)) p6))) v3_2 v3_3 v3_4 ((1 : Int32) + p5.1) (0 : Int32) p5.2)) else (f_X2_rankAll_t_L34 64 (fun w34_2 w34_3 w34_4 w34_5 σ34 => ((f_X8_put 8 w34_4 w34_5 σ34).bind fun p4 => (f_X2_rankAll_t_L3 n w34_2 w34_3 (w34_4 + (1 : Int32)) p4))) v3_2 v3_3 v3_4 (0 : Int32) (0 : Int32) σ)))
def f_X2_rankAll_t (a1 : Int32) (a2 : Int32) (σ : gw_S) : Option gw_S := (f_X2_rankAll_t_L3 64 a1 a2 (0 : Int32) σ)
set_option maxHeartbeats 4000000 in
set_option maxRecDepth 100000 in
theorem gc_X2_rankAll_t (l : Launch) (G : gw_G) (a1 : Int32) (a2 : Int32) (σ : gw_S) (o : gw_S) (h : f_X2_rankAll_t a1 a2 σ = some o) : gw_M (fun sz => gw_QV G sz o) l yX2_rankAll cX2_rankAll 7 none { frames := 2, cells := 0, slots := 0, locals := 43 } G [.ref (G.2.1 4), .ref (G.2.1 8), .int a1, .int a2] σ := by
  refine gw_en (own := RX2) (lv := [(0, .ref (G.2.1 4)), (1, .ref (G.2.1 8)), (2, .int a1), (3, .int a2)]) (by decide +kernel) rfl (Nat.le_of_ble_eq_true rfl) rfl ?_
  intro p e s m below meth c ls X hl hP
  obtain ⟨hx, hb, hml, hown, hts, -, -, hT, hZ, -⟩ := id X
  have hS : va_S (gw_A G s.heap.size) s.heap s.heap [] := va_S.rf
  have L34 : ∀ (n : Nat) (K : Int32 → Int32 → Int32 → Int32 → gw_S → Option gw_S) (v34_2 : Int32) (v34_3 : Int32) (v34_4 : Int32) (v34_5 : Int32) (v34_6 : Int32) (σ : gw_S) (H : Heap) (locs : List Loc) (ls : Array Slot), f_X2_rankAll_t_L34 n K v34_2 v34_3 v34_4 v34_5 v34_6 σ = some o → gw_P G σ H → va_S (gw_A G s.heap.size) s.heap H locs → lv_has ls 7 [(0, .ref (G.2.1 4)), (1, .ref (G.2.1 8)), (2, .int v34_2), (3, .int v34_3), (4, .int v34_4), (5, .int v34_5), (6, .int v34_6)] → (∀ (w2 : Int32) (w3 : Int32) (w4 : Int32) (w5 : Int32) (σ : gw_S) (H : Heap) (locs : List Loc) (ls : Array Slot), K w2 w3 w4 w5 σ = some o → gw_P G σ H → va_S (gw_A G s.heap.size) s.heap H locs → lv_has ls 7 [(0, .ref (G.2.1 4)), (1, .ref (G.2.1 8)), (2, .int w2), (3, .int w3), (4, .int w4), (5, .int w5)] → W p l e { frames := 2, cells := 0, slots := 0, locals := 43 } s m [.ref (G.2.1 4), .ref (G.2.1 8), .int a1, .int a2].toArray below meth c H locs 0 0 (MQ below (gw_QV G s.heap.size o) [.ref (G.2.1 4), .ref (G.2.1 8), .int a1, .int a2].toArray s 0 0 (gw_A G s.heap.size)) (F0 m 72 ls [])) → W p l e { frames := 2, cells := 0, slots := 0, locals := 43 } s m [.ref (G.2.1 4), .ref (G.2.1 8), .int a1, .int a2].toArray below meth c H locs 0 0 (MQ below (gw_QV G s.heap.size o) [.ref (G.2.1 4), .ref (G.2.1 8), .int a1, .int a2].toArray s 0 0 (gw_A G s.heap.size)) (F0 m 34 ls []) := by
    intro n K
    induction n with
    | zero =>
      intro v34_2 v34_3 v34_4 v34_5 v34_6 σ H locs ls h
      exact absurd h (by rw [f_X2_rankAll_t_L34.eq_1]; exact fun h => nomatch h)
    | succ n ih =>
      intro v34_2 v34_3 v34_4 v34_5 v34_6 σ H locs ls h hP hS hl hK
      rw [f_X2_rankAll_t_L34.eq_2] at h
      refine lv_iload hx hb dX2_rankAll_34 (lv_at hl 6 rfl) ?_
      refine lv_aload_n hx hb dX2_rankAll_36 rfl (lv_at hl 0 rfl) ?_
      refine lv_iload hx hb dX2_rankAll_37 (lv_at hl 4 rfl) ?_
      obtain ⟨p1, gp1, h⟩ := Option.bind_eq_some_iff.mp h
      refine gw_ci (gw_rV (C := RX2) X hP hS (gc_X2_pairsOf l G v34_4 σ _ gp1) gk_X2_pairsOf gv_810 ⟨gv_313, gv_314⟩ (va_recv hT.2.1 hP (ci := 5) (q0 := 4) rfl rfl) rfl rfl (Nat.le_of_ble_eq_true rfl) hl.1 ⟨rfl, rfl⟩ ⟨Nat.le_of_ble_eq_true rfl, Nat.le_of_ble_eq_true rfl⟩ ⟨Nat.le_of_ble_eq_true rfl, Nat.le_of_ble_eq_true rfl⟩ dX2_rankAll_39) hS (fun H locs hP hS => ?_)
      refine lv_icmp_ge (tgt := 72) hx hb dX2_rankAll_42 (by decide) (fun c => ?_) (fun c => ?_)
      · have h := (if_pos c).symm.trans h
        exact hK v34_2 v34_3 v34_4 v34_5 p1.2 _ _ _ h hP hS (lv_sub hl [0, 1, 2, 3, 4, 5] rfl)
      · have h := (if_neg c).symm.trans h
        refine lv_iload hx hb dX2_rankAll_45 (lv_at hl 5 rfl) ?_
        refine lv_iconst (v := 1) hx hb dX2_rankAll_47 (by decide) ?_
        refine lv_aload_n hx hb dX2_rankAll_48 rfl (lv_at hl 1 rfl) ?_
        refine lv_aload_n hx hb dX2_rankAll_49 rfl (lv_at hl 0 rfl) ?_
        refine lv_iload hx hb dX2_rankAll_50 (lv_at hl 4 rfl) ?_
        refine lv_iload hx hb dX2_rankAll_52 (lv_at hl 6 rfl) ?_
        obtain ⟨p2, gp2, h⟩ := Option.bind_eq_some_iff.mp h
        refine gw_ci (gw_rV (C := RX2) X hP hS (gc_X2_lower l G v34_4 v34_6 p1.2 _ gp2) gk_X2_lower gv_811 ⟨gv_317, gv_318⟩ (va_recv hT.2.1 hP (ci := 5) (q0 := 4) rfl rfl) rfl rfl (Nat.le_of_ble_eq_true rfl) hl.1 ⟨rfl, rfl⟩ ⟨Nat.le_of_ble_eq_true rfl, Nat.le_of_ble_eq_true rfl⟩ ⟨Nat.le_of_ble_eq_true rfl, Nat.le_of_ble_eq_true rfl⟩ dX2_rankAll_54) hS (fun H locs hP hS => ?_)
        obtain ⟨p3, gp3, h⟩ := Option.bind_eq_some_iff.mp h
        refine gw_ci (gw_rN (host := "Genericwood") X hP hS (gc_X8_at l G 8 ⟨by decide, by decide⟩ p2.1 p2.2 _ gp3) gk_X8_at gv_311 gv_275 rfl rfl (Nat.le_of_ble_eq_true rfl) hl.1 ⟨rfl, rfl⟩ ⟨Nat.le_of_ble_eq_true rfl, Nat.le_of_ble_eq_true rfl⟩ ⟨Nat.le_of_ble_eq_true rfl, Nat.le_of_ble_eq_true rfl⟩ dX2_rankAll_57) hS (fun H locs hP hS => ?_)
        refine lv_iadd hx hb dX2_rankAll_60 ?_
        refine va_mmax hx hb (hml.trans hl.1.symm) hown (hts _ gv_812) (hts _ gx_mm1) (hts _ gx_mm2) (hts _ gx_mm3) (Nat.le_of_ble_eq_true rfl) (Nat.le_of_ble_eq_true rfl) (Nat.le_of_ble_eq_true rfl) (Nat.le_of_ble_eq_true rfl) dX2_rankAll_61 ?_
        refine lv_istore (lv' := [(5, .int (if v34_5 < ((1 : Int32) + p3.1) then ((1 : Int32) + p3.1) else v34_5)), (0, .ref (G.2.1 4)), (1, .ref (G.2.1 8)), (2, .int v34_2), (3, .int v34_3), (4, .int v34_4), (6, .int v34_6)]) hx hb dX2_rankAll_64 hl (by decide) rfl (fun ls hl => ?_)
        refine lv_iinc (v := (v34_6 + (1 : Int32))) (lv' := [(6, .int (v34_6 + (1 : Int32))), (5, .int (if v34_5 < ((1 : Int32) + p3.1) then ((1 : Int32) + p3.1) else v34_5)), (0, .ref (G.2.1 4)), (1, .ref (G.2.1 8)), (2, .int v34_2), (3, .int v34_3), (4, .int v34_4)]) hx hb dX2_rankAll_66 hl (k := 6) rfl rfl (by decide) rfl (fun ls hl => ?_)
        refine lv_goto (tgt := 34) hx hb dX2_rankAll_69 (by decide) ?_
        exact ih v34_2 v34_3 v34_4 (if v34_5 < ((1 : Int32) + p3.1) then ((1 : Int32) + p3.1) else v34_5) (v34_6 + (1 : Int32)) p3.2 _ _ _ h hP hS (lv_sub hl [2, 3, 4, 5, 6, 1, 0] rfl) hK
  have L3 : ∀ (n : Nat) (v3_2 : Int32) (v3_3 : Int32) (v3_4 : Int32) (σ : gw_S) (H : Heap) (locs : List Loc) (ls : Array Slot), f_X2_rankAll_t_L3 n v3_2 v3_3 v3_4 σ = some o → gw_P G σ H → va_S (gw_A G s.heap.size) s.heap H locs → lv_has ls 7 [(0, .ref (G.2.1 4)), (1, .ref (G.2.1 8)), (2, .int v3_2), (3, .int v3_3), (4, .int v3_4)] → W p l e { frames := 2, cells := 0, slots := 0, locals := 43 } s m [.ref (G.2.1 4), .ref (G.2.1 8), .int a1, .int a2].toArray below meth c H locs 0 0 (MQ below (gw_QV G s.heap.size o) [.ref (G.2.1 4), .ref (G.2.1 8), .int a1, .int a2].toArray s 0 0 (gw_A G s.heap.size)) (F0 m 3 ls []) := by
    intro n
    induction n with
    | zero =>
      intro v3_2 v3_3 v3_4 σ H locs ls h
      exact absurd h (by rw [f_X2_rankAll_t_L3.eq_1]; exact fun h => nomatch h)
    | succ n ih =>
      intro v3_2 v3_3 v3_4 σ H locs ls h hP hS hl
      rw [f_X2_rankAll_t_L3.eq_2] at h
      refine lv_iload hx hb dX2_rankAll_3 (lv_at hl 4 rfl) ?_
      refine lv_aload_n hx hb dX2_rankAll_5 rfl (lv_at hl 0 rfl) ?_
      refine va_get (D := G.1) (ci := 5) (v := .int (σ 4 1)) (C := RX2) (T := TX2) (N := 9) hx hb hts gx_X2 hown hT.2.1 hP 4 rfl rfl 1 (by decide) (hts _ gv_72) (fun _ h9 => h9) rfl dX2_rankAll_6 ?_
      refine lv_icmp_ge (tgt := 86) hx hb dX2_rankAll_9 (by decide) (fun c => ?_) (fun c => ?_)
      · have h := (if_pos c).symm.trans h
        exact gw_rv X hP hS h dX2_rankAll_86
      · have h := (if_neg c).symm.trans h
        refine lv_iload hx hb dX2_rankAll_12 (lv_at hl 4 rfl) ?_
        refine lv_iload_n hx hb dX2_rankAll_14 rfl (lv_at hl 2 rfl) ?_
        refine lv_icmp_ne (tgt := 28) hx hb dX2_rankAll_15 (by decide) (fun c => ?_) (fun c => ?_)
        · have h := (if_neg c).symm.trans h
          refine lv_iconst (v := 0) hx hb dX2_rankAll_28 (by decide) ?_
          refine lv_istore (lv' := [(5, .int (0 : Int32)), (0, .ref (G.2.1 4)), (1, .ref (G.2.1 8)), (2, .int v3_2), (3, .int v3_3), (4, .int v3_4)]) hx hb dX2_rankAll_29 hl (by decide) rfl (fun ls hl => ?_)
          refine lv_iconst (v := 0) hx hb dX2_rankAll_31 (by decide) ?_
          refine lv_istore (lv' := [(6, .int (0 : Int32)), (5, .int (0 : Int32)), (0, .ref (G.2.1 4)), (1, .ref (G.2.1 8)), (2, .int v3_2), (3, .int v3_3), (4, .int v3_4)]) hx hb dX2_rankAll_32 hl (by decide) rfl (fun ls hl => ?_)
          refine L34 64 _ v3_2 v3_3 v3_4 (0 : Int32) (0 : Int32) σ _ _ _ h hP hS (lv_sub hl [2, 3, 4, 5, 6, 1, 0] rfl) (fun w34_2 w34_3 w34_4 w34_5 σ34 H locs ls h hP hS hl => ?_)
          refine lv_aload_n hx hb dX2_rankAll_72 rfl (lv_at hl 1 rfl) ?_
          refine lv_iload hx hb dX2_rankAll_73 (lv_at hl 4 rfl) ?_
          refine lv_iload hx hb dX2_rankAll_75 (lv_at hl 5 rfl) ?_
          obtain ⟨p4, gp4, h⟩ := Option.bind_eq_some_iff.mp h
          refine gw_cv (gw_rN (host := "Genericwood") X hP hS (gc_X8_put l G 8 ⟨by decide, by decide⟩ w34_4 w34_5 σ34 _ gp4) gk_X8_put gv_813 gv_403 rfl rfl (Nat.le_of_ble_eq_true rfl) hl.1 ⟨rfl, rfl⟩ ⟨Nat.le_of_ble_eq_true rfl, Nat.le_of_ble_eq_true rfl⟩ ⟨Nat.le_of_ble_eq_true rfl, Nat.le_of_ble_eq_true rfl⟩ dX2_rankAll_77) hS (fun H locs hP hS => ?_)
          refine lv_iinc (v := (w34_4 + (1 : Int32))) (lv' := [(4, .int (w34_4 + (1 : Int32))), (0, .ref (G.2.1 4)), (1, .ref (G.2.1 8)), (2, .int w34_2), (3, .int w34_3), (5, .int w34_5)]) hx hb dX2_rankAll_80 hl (k := 4) rfl rfl (by decide) rfl (fun ls hl => ?_)
          refine lv_goto (tgt := 3) hx hb dX2_rankAll_83 (by decide) ?_
          exact ih w34_2 w34_3 (w34_4 + (1 : Int32)) p4 _ _ _ h hP hS (lv_sub hl [1, 2, 3, 4, 0] rfl)
        · have h := (if_pos c).symm.trans h
          refine lv_iconst (v := 1) hx hb dX2_rankAll_18 (by decide) ?_
          refine lv_aload_n hx hb dX2_rankAll_19 rfl (lv_at hl 1 rfl) ?_
          refine lv_iload_n hx hb dX2_rankAll_20 rfl (lv_at hl 3 rfl) ?_
          obtain ⟨p5, gp5, h⟩ := Option.bind_eq_some_iff.mp h
          refine gw_ci (gw_rN (host := "Genericwood") X hP hS (gc_X8_at l G 8 ⟨by decide, by decide⟩ v3_3 σ _ gp5) gk_X8_at gv_311 gv_275 rfl rfl (Nat.le_of_ble_eq_true rfl) hl.1 ⟨rfl, rfl⟩ ⟨Nat.le_of_ble_eq_true rfl, Nat.le_of_ble_eq_true rfl⟩ ⟨Nat.le_of_ble_eq_true rfl, Nat.le_of_ble_eq_true rfl⟩ dX2_rankAll_21) hS (fun H locs hP hS => ?_)
          refine lv_iadd hx hb dX2_rankAll_24 ?_
          refine lv_goto (tgt := 29) hx hb dX2_rankAll_25 (by decide) ?_
          refine lv_istore (lv' := [(5, .int ((1 : Int32) + p5.1)), (0, .ref (G.2.1 4)), (1, .ref (G.2.1 8)), (2, .int v3_2), (3, .int v3_3), (4, .int v3_4)]) hx hb dX2_rankAll_29 hl (by decide) rfl (fun ls hl => ?_)
          refine lv_iconst (v := 0) hx hb dX2_rankAll_31 (by decide) ?_
          refine lv_istore (lv' := [(6, .int (0 : Int32)), (5, .int ((1 : Int32) + p5.1)), (0, .ref (G.2.1 4)), (1, .ref (G.2.1 8)), (2, .int v3_2), (3, .int v3_3), (4, .int v3_4)]) hx hb dX2_rankAll_32 hl (by decide) rfl (fun ls hl => ?_)
          refine L34 64 _ v3_2 v3_3 v3_4 ((1 : Int32) + p5.1) (0 : Int32) p5.2 _ _ _ h hP hS (lv_sub hl [2, 3, 4, 5, 6, 1, 0] rfl) (fun w34_2 w34_3 w34_4 w34_5 σ34 H locs ls h hP hS hl => ?_)
          refine lv_aload_n hx hb dX2_rankAll_72 rfl (lv_at hl 1 rfl) ?_
          refine lv_iload hx hb dX2_rankAll_73 (lv_at hl 4 rfl) ?_
          refine lv_iload hx hb dX2_rankAll_75 (lv_at hl 5 rfl) ?_
          obtain ⟨p6, gp6, h⟩ := Option.bind_eq_some_iff.mp h
          refine gw_cv (gw_rN (host := "Genericwood") X hP hS (gc_X8_put l G 8 ⟨by decide, by decide⟩ w34_4 w34_5 σ34 _ gp6) gk_X8_put gv_813 gv_403 rfl rfl (Nat.le_of_ble_eq_true rfl) hl.1 ⟨rfl, rfl⟩ ⟨Nat.le_of_ble_eq_true rfl, Nat.le_of_ble_eq_true rfl⟩ ⟨Nat.le_of_ble_eq_true rfl, Nat.le_of_ble_eq_true rfl⟩ dX2_rankAll_77) hS (fun H locs hP hS => ?_)
          refine lv_iinc (v := (w34_4 + (1 : Int32))) (lv' := [(4, .int (w34_4 + (1 : Int32))), (0, .ref (G.2.1 4)), (1, .ref (G.2.1 8)), (2, .int w34_2), (3, .int w34_3), (5, .int w34_5)]) hx hb dX2_rankAll_80 hl (k := 4) rfl rfl (by decide) rfl (fun ls hl => ?_)
          refine lv_goto (tgt := 3) hx hb dX2_rankAll_83 (by decide) ?_
          exact ih w34_2 w34_3 (w34_4 + (1 : Int32)) p6 _ _ _ h hP hS (lv_sub hl [1, 2, 3, 4, 0] rfl)
  unfold f_X2_rankAll_t at h
  refine lv_iconst (v := 0) hx hb dX2_rankAll_0 (by decide) ?_
  refine lv_istore (lv' := [(4, .int (0 : Int32)), (0, .ref (G.2.1 4)), (1, .ref (G.2.1 8)), (2, .int a1), (3, .int a2)]) hx hb dX2_rankAll_1 hl (by decide) rfl (fun ls hl => ?_)
  exact L3 64 a1 a2 (0 : Int32) σ _ _ _ h hP hS (lv_sub hl [1, 2, 3, 4, 0] rfl)
def f_X2_changed (σ : gw_S) : Option gw_S := ((f_X2_rankAll_h (-1 : Int32) (-1 : Int32) (gw_up σ 4 2 ((σ 4 2) + (1 : Int32)))).bind fun p1 => (some p1))
set_option maxHeartbeats 4000000 in
set_option maxRecDepth 100000 in
theorem gc_X2_changed (l : Launch) (G : gw_G) (σ : gw_S) (o : gw_S) (h : f_X2_changed σ = some o) : gw_M (fun sz => gw_QV G sz o) l yX2_changed cX2_changed 1 none { frames := 3, cells := 0, slots := 0, locals := 69 } G [.ref (G.2.1 4)] σ := by
  refine gw_en (own := RX2) (lv := [(0, .ref (G.2.1 4))]) (by decide +kernel) rfl (Nat.le_of_ble_eq_true rfl) rfl ?_
  intro p e s m below meth c ls X hl hP
  obtain ⟨hx, hb, hml, hown, hts, -, -, hT, hZ, -⟩ := id X
  have hS : va_S (gw_A G s.heap.size) s.heap s.heap [] := va_S.rf
  unfold f_X2_changed at h
  refine lv_aload_n hx hb dX2_changed_0 rfl (lv_at hl 0 rfl) ?_
  refine lv_dup hx hb dX2_changed_1 rfl ?_
  refine va_get (D := G.1) (ci := 5) (v := .int (σ 4 2)) (C := RX2) (T := TX2) (N := 9) hx hb hts gx_X2 hown hT.2.1 hP 4 rfl rfl 2 (by decide) (hts _ gv_73) (fun _ h9 => h9) rfl dX2_changed_2 ?_
  refine lv_iconst (v := 1) hx hb dX2_changed_5 (by decide) ?_
  refine lv_iadd hx hb dX2_changed_6 ?_
  refine va_put (D := G.1) (ci := 5) (v := .int ((σ 4 2) + (1 : Int32))) (ty := .int) (C := RX2) (T := TX2) (N := 9) hx hb hts gx_X2 tyX2 tyX2_ok nmX2 hown hT.2.1 hP (gw_D hT.1 s.heap.size _) hS 4 rfl rfl 2 (by decide) (hts _ gv_73) (fun _ h9 => h9) rfl gx_pI rfl rfl (Nat.le_of_ble_eq_true rfl) dX2_changed_7 (fun H locs hP _ hS => ?_)
  have hP : gw_P G (gw_up σ 4 2 ((σ 4 2) + (1 : Int32))) H := hP
  refine lv_aload_n hx hb dX2_changed_10 rfl (lv_at hl 0 rfl) ?_
  refine lv_aload_n hx hb dX2_changed_11 rfl (lv_at hl 0 rfl) ?_
  refine va_get (D := G.1) (ci := 5) (v := .ref (G.2.1 7)) (C := RX2) (T := TX2) (N := 9) hx hb hts gx_X2 hown hT.2.1 hP 4 rfl rfl 5 (by decide) (hts _ gv_76) (fun _ h9 => h9) rfl dX2_changed_12 ?_
  refine lv_iconst (v := -1) hx hb dX2_changed_15 (by decide) ?_
  refine lv_iconst (v := -1) hx hb dX2_changed_16 (by decide) ?_
  obtain ⟨p1, gp1, h⟩ := Option.bind_eq_some_iff.mp h
  refine gw_cv (gw_rV (C := RX2) X hP hS (gc_X2_rankAll_h l G (-1 : Int32) (-1 : Int32) (gw_up σ 4 2 ((σ 4 2) + (1 : Int32))) _ gp1) gk_X2_rankAll gv_806 ⟨gv_808, gv_s14⟩ (va_recv hT.2.1 hP (ci := 5) (q0 := 4) rfl rfl) rfl rfl (Nat.le_of_ble_eq_true rfl) hl.1 ⟨rfl, rfl⟩ ⟨Nat.le_of_ble_eq_true rfl, Nat.le_of_ble_eq_true rfl⟩ ⟨Nat.le_of_ble_eq_true rfl, Nat.le_of_ble_eq_true rfl⟩ dX2_changed_17) hS (fun H locs hP hS => ?_)
  exact gw_rv X hP hS h dX2_changed_20
def f_X2_add (σ : gw_S) : Option (Int32 × gw_S) := ((f_X2_changed  (gw_up σ 4 1 ((σ 4 1) + (1 : Int32)))).bind fun p1 => (some ((σ 4 1), p1)))
set_option maxHeartbeats 4000000 in
set_option maxRecDepth 100000 in
theorem gc_X2_add (l : Launch) (G : gw_G) (σ : gw_S) (o : (Int32 × gw_S)) (h : f_X2_add σ = some o) : gw_M (fun sz => gw_QI G sz o) l yX2_add cX2_add 2 (some .int) { frames := 4, cells := 0, slots := 0, locals := 89 } G [.ref (G.2.1 4)] σ := by
  refine gw_en (own := RX2) (lv := [(0, .ref (G.2.1 4))]) (by decide +kernel) rfl (Nat.le_of_ble_eq_true rfl) rfl ?_
  intro p e s m below meth c ls X hl hP
  obtain ⟨hx, hb, hml, hown, hts, -, -, hT, hZ, -⟩ := id X
  have hS : va_S (gw_A G s.heap.size) s.heap s.heap [] := va_S.rf
  unfold f_X2_add at h
  refine lv_aload_n hx hb dX2_add_0 rfl (lv_at hl 0 rfl) ?_
  refine va_get (D := G.1) (ci := 5) (v := .int (σ 4 1)) (C := RX2) (T := TX2) (N := 9) hx hb hts gx_X2 hown hT.2.1 hP 4 rfl rfl 1 (by decide) (hts _ gv_72) (fun _ h9 => h9) rfl dX2_add_1 ?_
  refine lv_istore_n (lv' := [(1, .int (σ 4 1)), (0, .ref (G.2.1 4))]) hx hb dX2_add_4 rfl hl (by decide) rfl (fun ls hl => ?_)
  refine lv_aload_n hx hb dX2_add_5 rfl (lv_at hl 1 rfl) ?_
  refine lv_dup hx hb dX2_add_6 rfl ?_
  refine va_get (D := G.1) (ci := 5) (v := .int (σ 4 1)) (C := RX2) (T := TX2) (N := 9) hx hb hts gx_X2 hown hT.2.1 hP 4 rfl rfl 1 (by decide) (hts _ gv_72) (fun _ h9 => h9) rfl dX2_add_7 ?_
  refine lv_iconst (v := 1) hx hb dX2_add_10 (by decide) ?_
  refine lv_iadd hx hb dX2_add_11 ?_
  refine va_put (D := G.1) (ci := 5) (v := .int ((σ 4 1) + (1 : Int32))) (ty := .int) (C := RX2) (T := TX2) (N := 9) hx hb hts gx_X2 tyX2 tyX2_ok nmX2 hown hT.2.1 hP (gw_D hT.1 s.heap.size _) hS 4 rfl rfl 1 (by decide) (hts _ gv_72) (fun _ h9 => h9) rfl gx_pI rfl rfl (Nat.le_of_ble_eq_true rfl) dX2_add_12 (fun H locs hP _ hS => ?_)
  have hP : gw_P G (gw_up σ 4 1 ((σ 4 1) + (1 : Int32))) H := hP
  refine lv_aload_n hx hb dX2_add_15 rfl (lv_at hl 1 rfl) ?_
  obtain ⟨p1, gp1, h⟩ := Option.bind_eq_some_iff.mp h
  refine gw_cv (gw_rV (C := RX2) X hP hS (gc_X2_changed l G  (gw_up σ 4 1 ((σ 4 1) + (1 : Int32))) _ gp1) gk_X2_changed gv_802 ⟨gv_804, gv_s13⟩ (va_recv hT.2.1 hP (ci := 5) (q0 := 4) rfl rfl) rfl rfl (Nat.le_of_ble_eq_true rfl) hl.1 ⟨rfl, rfl⟩ ⟨Nat.le_of_ble_eq_true rfl, Nat.le_of_ble_eq_true rfl⟩ ⟨Nat.le_of_ble_eq_true rfl, Nat.le_of_ble_eq_true rfl⟩ dX2_add_16) hS (fun H locs hP hS => ?_)
  refine lv_iload_n hx hb dX2_add_19 rfl (lv_at hl 0 rfl) ?_
  exact gw_ri X hP hS h dX2_add_20
def f_X2_addPair (a0 : Int32) (a1 : Int32) (a2 : Int32) (σ : gw_S) : Option gw_S := ((f_X2_pairsOf a0 σ).bind fun p1 => (if (4 : Int32) ≤ p1.1 then (some p1.2) else ((f_X8_put 6 ((a0 * (4 : Int32)) + p1.1) (a1 + ((16 : Int32) * a2)) p1.2).bind fun p2 => ((f_X8_put 5 a0 (p1.1 + (1 : Int32)) p2).bind fun p3 => ((f_X2_changed  p3).bind fun p4 => (some p4))))))
set_option maxHeartbeats 4000000 in
set_option maxRecDepth 100000 in
theorem gc_X2_addPair (l : Launch) (G : gw_G) (a0 : Int32) (a1 : Int32) (a2 : Int32) (σ : gw_S) (o : gw_S) (h : f_X2_addPair a0 a1 a2 σ = some o) : gw_M (fun sz => gw_QV G sz o) l yX2_addPair cX2_addPair 5 none { frames := 4, cells := 0, slots := 0, locals := 89 } G [.ref (G.2.1 4), .int a0, .int a1, .int a2] σ := by
  refine gw_en (own := RX2) (lv := [(0, .ref (G.2.1 4)), (1, .int a0), (2, .int a1), (3, .int a2)]) (by decide +kernel) rfl (Nat.le_of_ble_eq_true rfl) rfl ?_
  intro p e s m below meth c ls X hl hP
  obtain ⟨hx, hb, hml, hown, hts, -, -, hT, hZ, -⟩ := id X
  have hS : va_S (gw_A G s.heap.size) s.heap s.heap [] := va_S.rf
  unfold f_X2_addPair at h
  refine lv_aload_n hx hb dX2_addPair_0 rfl (lv_at hl 0 rfl) ?_
  refine lv_iload_n hx hb dX2_addPair_1 rfl (lv_at hl 1 rfl) ?_
  obtain ⟨p1, gp1, h⟩ := Option.bind_eq_some_iff.mp h
  refine gw_ci (gw_rV (C := RX2) X hP hS (gc_X2_pairsOf l G a0 σ _ gp1) gk_X2_pairsOf gv_810 ⟨gv_313, gv_314⟩ (va_recv hT.2.1 hP (ci := 5) (q0 := 4) rfl rfl) rfl rfl (Nat.le_of_ble_eq_true rfl) hl.1 ⟨rfl, rfl⟩ ⟨Nat.le_of_ble_eq_true rfl, Nat.le_of_ble_eq_true rfl⟩ ⟨Nat.le_of_ble_eq_true rfl, Nat.le_of_ble_eq_true rfl⟩ dX2_addPair_2) hS (fun H locs hP hS => ?_)
  refine lv_istore (lv' := [(4, .int p1.1), (0, .ref (G.2.1 4)), (1, .int a0), (2, .int a1), (3, .int a2)]) hx hb dX2_addPair_5 hl (by decide) rfl (fun ls hl => ?_)
  refine lv_iload hx hb dX2_addPair_7 (lv_at hl 0 rfl) ?_
  refine lv_iconst (v := 4) hx hb dX2_addPair_9 (by decide) ?_
  refine lv_icmp_ge (tgt := 48) hx hb dX2_addPair_10 (by decide) (fun c => ?_) (fun c => ?_)
  · have h := (if_pos c).symm.trans h
    exact gw_rv X hP hS h dX2_addPair_48
  · have h := (if_neg c).symm.trans h
    refine lv_aload_n hx hb dX2_addPair_13 rfl (lv_at hl 1 rfl) ?_
    refine va_get (D := G.1) (ci := 5) (v := .ref (G.2.1 6)) (C := RX2) (T := TX2) (N := 9) hx hb hts gx_X2 hown hT.2.1 hP 4 rfl rfl 4 (by decide) (hts _ gv_75) (fun _ h9 => h9) rfl dX2_addPair_14 ?_
    refine lv_iload_n hx hb dX2_addPair_17 rfl (lv_at hl 2 rfl) ?_
    refine lv_iconst (v := 4) hx hb dX2_addPair_18 (by decide) ?_
    refine lv_imul hx hb dX2_addPair_19 ?_
    refine lv_iload hx hb dX2_addPair_20 (lv_at hl 0 rfl) ?_
    refine lv_iadd hx hb dX2_addPair_22 ?_
    refine lv_iload_n hx hb dX2_addPair_23 rfl (lv_at hl 3 rfl) ?_
    refine lv_bipush (v := 16) hx hb dX2_addPair_24 (by decide) ?_
    refine lv_iload_n hx hb dX2_addPair_26 rfl (lv_at hl 4 rfl) ?_
    refine lv_imul hx hb dX2_addPair_27 ?_
    refine lv_iadd hx hb dX2_addPair_28 ?_
    obtain ⟨p2, gp2, h⟩ := Option.bind_eq_some_iff.mp h
    refine gw_cv (gw_rN (host := "Genericwood") X hP hS (gc_X8_put l G 6 ⟨by decide, by decide⟩ ((a0 * (4 : Int32)) + p1.1) (a1 + ((16 : Int32) * a2)) p1.2 _ gp2) gk_X8_put gv_813 gv_403 rfl rfl (Nat.le_of_ble_eq_true rfl) hl.1 ⟨rfl, rfl⟩ ⟨Nat.le_of_ble_eq_true rfl, Nat.le_of_ble_eq_true rfl⟩ ⟨Nat.le_of_ble_eq_true rfl, Nat.le_of_ble_eq_true rfl⟩ dX2_addPair_29) hS (fun H locs hP hS => ?_)
    refine lv_aload_n hx hb dX2_addPair_32 rfl (lv_at hl 1 rfl) ?_
    refine va_get (D := G.1) (ci := 5) (v := .ref (G.2.1 5)) (C := RX2) (T := TX2) (N := 9) hx hb hts gx_X2 hown hT.2.1 hP 4 rfl rfl 3 (by decide) (hts _ gv_74) (fun _ h9 => h9) rfl dX2_addPair_33 ?_
    refine lv_iload_n hx hb dX2_addPair_36 rfl (lv_at hl 2 rfl) ?_
    refine lv_iload hx hb dX2_addPair_37 (lv_at hl 0 rfl) ?_
    refine lv_iconst (v := 1) hx hb dX2_addPair_39 (by decide) ?_
    refine lv_iadd hx hb dX2_addPair_40 ?_
    obtain ⟨p3, gp3, h⟩ := Option.bind_eq_some_iff.mp h
    refine gw_cv (gw_rN (host := "Genericwood") X hP hS (gc_X8_put l G 5 ⟨by decide, by decide⟩ a0 (p1.1 + (1 : Int32)) p2 _ gp3) gk_X8_put gv_813 gv_403 rfl rfl (Nat.le_of_ble_eq_true rfl) hl.1 ⟨rfl, rfl⟩ ⟨Nat.le_of_ble_eq_true rfl, Nat.le_of_ble_eq_true rfl⟩ ⟨Nat.le_of_ble_eq_true rfl, Nat.le_of_ble_eq_true rfl⟩ dX2_addPair_41) hS (fun H locs hP hS => ?_)
    refine lv_aload_n hx hb dX2_addPair_44 rfl (lv_at hl 1 rfl) ?_
    obtain ⟨p4, gp4, h⟩ := Option.bind_eq_some_iff.mp h
    refine gw_cv (gw_rV (C := RX2) X hP hS (gc_X2_changed l G  p3 _ gp4) gk_X2_changed gv_802 ⟨gv_804, gv_s13⟩ (va_recv hT.2.1 hP (ci := 5) (q0 := 4) rfl rfl) rfl rfl (Nat.le_of_ble_eq_true rfl) hl.1 ⟨rfl, rfl⟩ ⟨Nat.le_of_ble_eq_true rfl, Nat.le_of_ble_eq_true rfl⟩ ⟨Nat.le_of_ble_eq_true rfl, Nat.le_of_ble_eq_true rfl⟩ dX2_addPair_45) hS (fun H locs hP hS => ?_)
    exact gw_rv X hP hS h dX2_addPair_48
def f_X2_dropPair (a0 : Int32) (σ : gw_S) : Option gw_S := ((f_X2_pairsOf a0 σ).bind fun p1 => ((f_X8_put 5 a0 (if (0 : Int32) < (p1.1 - (1 : Int32)) then (p1.1 - (1 : Int32)) else (0 : Int32)) p1.2).bind fun p2 => ((f_X2_changed  p2).bind fun p3 => (some p3))))
set_option maxHeartbeats 4000000 in
set_option maxRecDepth 100000 in
theorem gc_X2_dropPair (l : Launch) (G : gw_G) (a0 : Int32) (σ : gw_S) (o : gw_S) (h : f_X2_dropPair a0 σ = some o) : gw_M (fun sz => gw_QV G sz o) l yX2_dropPair cX2_dropPair 2 none { frames := 4, cells := 0, slots := 0, locals := 89 } G [.ref (G.2.1 4), .int a0] σ := by
  refine gw_en (own := RX2) (lv := [(0, .ref (G.2.1 4)), (1, .int a0)]) (by decide +kernel) rfl (Nat.le_of_ble_eq_true rfl) rfl ?_
  intro p e s m below meth c ls X hl hP
  obtain ⟨hx, hb, hml, hown, hts, -, -, hT, hZ, -⟩ := id X
  have hS : va_S (gw_A G s.heap.size) s.heap s.heap [] := va_S.rf
  unfold f_X2_dropPair at h
  refine lv_aload_n hx hb dX2_dropPair_0 rfl (lv_at hl 0 rfl) ?_
  refine va_get (D := G.1) (ci := 5) (v := .ref (G.2.1 5)) (C := RX2) (T := TX2) (N := 9) hx hb hts gx_X2 hown hT.2.1 hP 4 rfl rfl 3 (by decide) (hts _ gv_74) (fun _ h9 => h9) rfl dX2_dropPair_1 ?_
  refine lv_iload_n hx hb dX2_dropPair_4 rfl (lv_at hl 1 rfl) ?_
  refine lv_iconst (v := 0) hx hb dX2_dropPair_5 (by decide) ?_
  refine lv_aload_n hx hb dX2_dropPair_6 rfl (lv_at hl 0 rfl) ?_
  refine lv_iload_n hx hb dX2_dropPair_7 rfl (lv_at hl 1 rfl) ?_
  obtain ⟨p1, gp1, h⟩ := Option.bind_eq_some_iff.mp h
  refine gw_ci (gw_rV (C := RX2) X hP hS (gc_X2_pairsOf l G a0 σ _ gp1) gk_X2_pairsOf gv_810 ⟨gv_313, gv_314⟩ (va_recv hT.2.1 hP (ci := 5) (q0 := 4) rfl rfl) rfl rfl (Nat.le_of_ble_eq_true rfl) hl.1 ⟨rfl, rfl⟩ ⟨Nat.le_of_ble_eq_true rfl, Nat.le_of_ble_eq_true rfl⟩ ⟨Nat.le_of_ble_eq_true rfl, Nat.le_of_ble_eq_true rfl⟩ dX2_dropPair_8) hS (fun H locs hP hS => ?_)
  refine lv_iconst (v := 1) hx hb dX2_dropPair_11 (by decide) ?_
  refine lv_isub hx hb dX2_dropPair_12 ?_
  refine va_mmax hx hb (hml.trans hl.1.symm) hown (hts _ gv_812) (hts _ gx_mm1) (hts _ gx_mm2) (hts _ gx_mm3) (Nat.le_of_ble_eq_true rfl) (Nat.le_of_ble_eq_true rfl) (Nat.le_of_ble_eq_true rfl) (Nat.le_of_ble_eq_true rfl) dX2_dropPair_13 ?_
  obtain ⟨p2, gp2, h⟩ := Option.bind_eq_some_iff.mp h
  refine gw_cv (gw_rN (host := "Genericwood") X hP hS (gc_X8_put l G 5 ⟨by decide, by decide⟩ a0 (if (0 : Int32) < (p1.1 - (1 : Int32)) then (p1.1 - (1 : Int32)) else (0 : Int32)) p1.2 _ gp2) gk_X8_put gv_813 gv_403 rfl rfl (Nat.le_of_ble_eq_true rfl) hl.1 ⟨rfl, rfl⟩ ⟨Nat.le_of_ble_eq_true rfl, Nat.le_of_ble_eq_true rfl⟩ ⟨Nat.le_of_ble_eq_true rfl, Nat.le_of_ble_eq_true rfl⟩ dX2_dropPair_16) hS (fun H locs hP hS => ?_)
  refine lv_aload_n hx hb dX2_dropPair_19 rfl (lv_at hl 0 rfl) ?_
  obtain ⟨p3, gp3, h⟩ := Option.bind_eq_some_iff.mp h
  refine gw_cv (gw_rV (C := RX2) X hP hS (gc_X2_changed l G  p2 _ gp3) gk_X2_changed gv_802 ⟨gv_804, gv_s13⟩ (va_recv hT.2.1 hP (ci := 5) (q0 := 4) rfl rfl) rfl rfl (Nat.le_of_ble_eq_true rfl) hl.1 ⟨rfl, rfl⟩ ⟨Nat.le_of_ble_eq_true rfl, Nat.le_of_ble_eq_true rfl⟩ ⟨Nat.le_of_ble_eq_true rfl, Nat.le_of_ble_eq_true rfl⟩ dX2_dropPair_20) hS (fun H locs hP hS => ?_)
  exact gw_rv X hP hS h dX2_dropPair_23
def f_X2_wouldRiseTooHigh_L12 : Nat → Int32 → gw_S → Option (Int32 × gw_S)
  | 0, _, _ => none
  | n + 1, v12_3, σ => (if (σ 4 1) ≤ v12_3 then (some ((0 : Int32), σ)) else ((f_X8_at 8 v12_3 σ).bind fun p2 => (if p2.1 ≤ (3 : Int32) then (f_X2_wouldRiseTooHigh_L12 n (v12_3 + (1 : Int32)) p2.2) else (some ((1 : Int32), p2.2)))))
def f_X2_wouldRiseTooHigh (a0 : Int32) (a1 : Int32) (σ : gw_S) : Option (Int32 × gw_S) := ((f_X2_rankAll_t a0 a1 σ).bind fun p1 => (f_X2_wouldRiseTooHigh_L12 64 (0 : Int32) p1))
set_option maxHeartbeats 4000000 in
set_option maxRecDepth 100000 in
theorem gc_X2_wouldRiseTooHigh (l : Launch) (G : gw_G) (a0 : Int32) (a1 : Int32) (σ : gw_S) (o : (Int32 × gw_S)) (h : f_X2_wouldRiseTooHigh a0 a1 σ = some o) : gw_M (fun sz => gw_QZ G sz o) l yX2_wouldRiseTooHigh cX2_wouldRiseTooHigh 4 (some .boolean) { frames := 3, cells := 0, slots := 0, locals := 69 } G [.ref (G.2.1 4), .int a0, .int a1] σ := by
  refine gw_en (own := RX2) (lv := [(0, .ref (G.2.1 4)), (1, .int a0), (2, .int a1)]) (by decide +kernel) rfl (Nat.le_of_ble_eq_true rfl) rfl ?_
  intro p e s m below meth c ls X hl hP
  obtain ⟨hx, hb, hml, hown, hts, -, -, hT, hZ, -⟩ := id X
  have hS : va_S (gw_A G s.heap.size) s.heap s.heap [] := va_S.rf
  have L12 : ∀ (n : Nat) (v12_3 : Int32) (σ : gw_S) (H : Heap) (locs : List Loc) (ls : Array Slot), f_X2_wouldRiseTooHigh_L12 n v12_3 σ = some o → gw_P G σ H → va_S (gw_A G s.heap.size) s.heap H locs → lv_has ls 4 [(0, .ref (G.2.1 4)), (3, .int v12_3)] → W p l e { frames := 3, cells := 0, slots := 0, locals := 69 } s m [.ref (G.2.1 4), .int a0, .int a1].toArray below meth c H locs 0 0 (MQ below (gw_QZ G s.heap.size o) [.ref (G.2.1 4), .int a0, .int a1].toArray s 0 0 (gw_A G s.heap.size)) (F0 m 12 ls []) := by
    intro n
    induction n with
    | zero =>
      intro v12_3 σ H locs ls h
      exact absurd h (by rw [f_X2_wouldRiseTooHigh_L12.eq_1]; exact fun h => nomatch h)
    | succ n ih =>
      intro v12_3 σ H locs ls h hP hS hl
      rw [f_X2_wouldRiseTooHigh_L12.eq_2] at h
      refine lv_iload_n hx hb dX2_wouldRiseTooHigh_12 rfl (lv_at hl 1 rfl) ?_
      refine lv_aload_n hx hb dX2_wouldRiseTooHigh_13 rfl (lv_at hl 0 rfl) ?_
      refine va_get (D := G.1) (ci := 5) (v := .int (σ 4 1)) (C := RX2) (T := TX2) (N := 9) hx hb hts gx_X2 hown hT.2.1 hP 4 rfl rfl 1 (by decide) (hts _ gv_72) (fun _ h9 => h9) rfl dX2_wouldRiseTooHigh_14 ?_
      refine lv_icmp_ge (tgt := 40) hx hb dX2_wouldRiseTooHigh_17 (by decide) (fun c => ?_) (fun c => ?_)
      · have h := (if_pos c).symm.trans h
        refine lv_iconst (v := 0) hx hb dX2_wouldRiseTooHigh_40 (by decide) ?_
        exact gw_rz X hP hS rfl h dX2_wouldRiseTooHigh_41
      · have h := (if_neg c).symm.trans h
        refine lv_aload_n hx hb dX2_wouldRiseTooHigh_20 rfl (lv_at hl 0 rfl) ?_
        refine va_get (D := G.1) (ci := 5) (v := .ref (G.2.1 8)) (C := RX2) (T := TX2) (N := 9) hx hb hts gx_X2 hown hT.2.1 hP 4 rfl rfl 6 (by decide) (hts _ gv_77) (fun _ h9 => h9) rfl dX2_wouldRiseTooHigh_21 ?_
        refine lv_iload_n hx hb dX2_wouldRiseTooHigh_24 rfl (lv_at hl 1 rfl) ?_
        obtain ⟨p2, gp2, h⟩ := Option.bind_eq_some_iff.mp h
        refine gw_ci (gw_rN (host := "Genericwood") X hP hS (gc_X8_at l G 8 ⟨by decide, by decide⟩ v12_3 σ _ gp2) gk_X8_at gv_311 gv_275 rfl rfl (Nat.le_of_ble_eq_true rfl) hl.1 ⟨rfl, rfl⟩ ⟨Nat.le_of_ble_eq_true rfl, Nat.le_of_ble_eq_true rfl⟩ ⟨Nat.le_of_ble_eq_true rfl, Nat.le_of_ble_eq_true rfl⟩ dX2_wouldRiseTooHigh_25) hS (fun H locs hP hS => ?_)
        refine lv_iconst (v := 3) hx hb dX2_wouldRiseTooHigh_28 (by decide) ?_
        refine lv_icmp_le (tgt := 34) hx hb dX2_wouldRiseTooHigh_29 (by decide) (fun c => ?_) (fun c => ?_)
        · have h := (if_pos c).symm.trans h
          refine lv_iinc (v := (v12_3 + (1 : Int32))) (lv' := [(3, .int (v12_3 + (1 : Int32))), (0, .ref (G.2.1 4))]) hx hb dX2_wouldRiseTooHigh_34 hl (k := 1) rfl rfl (by decide) rfl (fun ls hl => ?_)
          refine lv_goto (tgt := 12) hx hb dX2_wouldRiseTooHigh_37 (by decide) ?_
          exact ih (v12_3 + (1 : Int32)) p2.2 _ _ _ h hP hS (lv_sub hl [1, 0] rfl)
        · have h := (if_neg c).symm.trans h
          refine lv_iconst (v := 1) hx hb dX2_wouldRiseTooHigh_32 (by decide) ?_
          exact gw_rz X hP hS rfl h dX2_wouldRiseTooHigh_33
  unfold f_X2_wouldRiseTooHigh at h
  refine lv_aload_n hx hb dX2_wouldRiseTooHigh_0 rfl (lv_at hl 0 rfl) ?_
  refine lv_aload_n hx hb dX2_wouldRiseTooHigh_1 rfl (lv_at hl 0 rfl) ?_
  refine va_get (D := G.1) (ci := 5) (v := .ref (G.2.1 8)) (C := RX2) (T := TX2) (N := 9) hx hb hts gx_X2 hown hT.2.1 hP 4 rfl rfl 6 (by decide) (hts _ gv_77) (fun _ h9 => h9) rfl dX2_wouldRiseTooHigh_2 ?_
  refine lv_iload_n hx hb dX2_wouldRiseTooHigh_5 rfl (lv_at hl 1 rfl) ?_
  refine lv_iload_n hx hb dX2_wouldRiseTooHigh_6 rfl (lv_at hl 2 rfl) ?_
  obtain ⟨p1, gp1, h⟩ := Option.bind_eq_some_iff.mp h
  refine gw_cv (gw_rV (C := RX2) X hP hS (gc_X2_rankAll_t l G a0 a1 σ _ gp1) gk_X2_rankAll gv_806 ⟨gv_808, gv_s14⟩ (va_recv hT.2.1 hP (ci := 5) (q0 := 4) rfl rfl) rfl rfl (Nat.le_of_ble_eq_true rfl) hl.1 ⟨rfl, rfl⟩ ⟨Nat.le_of_ble_eq_true rfl, Nat.le_of_ble_eq_true rfl⟩ ⟨Nat.le_of_ble_eq_true rfl, Nat.le_of_ble_eq_true rfl⟩ dX2_wouldRiseTooHigh_7) hS (fun H locs hP hS => ?_)
  refine lv_iconst (v := 0) hx hb dX2_wouldRiseTooHigh_10 (by decide) ?_
  refine lv_istore_n (lv' := [(3, .int (0 : Int32)), (0, .ref (G.2.1 4)), (1, .int a0), (2, .int a1)]) hx hb dX2_wouldRiseTooHigh_11 rfl hl (by decide) rfl (fun ls hl => ?_)
  exact L12 64 (0 : Int32) p1 _ _ _ h hP hS (lv_sub hl [1, 0] rfl)
def f_X2_standardOf (a0 : Int32) (σ : gw_S) : Option (Int32 × gw_S) := ((f_X8_at 10 a0 σ).bind fun p1 => (some ((p1.1 - (1 : Int32)), p1.2)))
set_option maxHeartbeats 4000000 in
set_option maxRecDepth 100000 in
theorem gc_X2_standardOf (l : Launch) (G : gw_G) (a0 : Int32) (σ : gw_S) (o : (Int32 × gw_S)) (h : f_X2_standardOf a0 σ = some o) : gw_M (fun sz => gw_QI G sz o) l yX2_standardOf cX2_standardOf 2 (some .int) { frames := 1, cells := 0, slots := 0, locals := 21 } G [.ref (G.2.1 4), .int a0] σ := by
  refine gw_en (own := RX2) (lv := [(0, .ref (G.2.1 4)), (1, .int a0)]) (by decide +kernel) rfl (Nat.le_of_ble_eq_true rfl) rfl ?_
  intro p e s m below meth c ls X hl hP
  obtain ⟨hx, hb, hml, hown, hts, -, -, hT, hZ, -⟩ := id X
  have hS : va_S (gw_A G s.heap.size) s.heap s.heap [] := va_S.rf
  unfold f_X2_standardOf at h
  refine lv_aload_n hx hb dX2_standardOf_0 rfl (lv_at hl 0 rfl) ?_
  refine va_get (D := G.1) (ci := 5) (v := .ref (G.2.1 10)) (C := RX2) (T := TX2) (N := 9) hx hb hts gx_X2 hown hT.2.1 hP 4 rfl rfl 8 (by decide) (hts _ gv_79) (fun _ h9 => h9) rfl dX2_standardOf_1 ?_
  refine lv_iload_n hx hb dX2_standardOf_4 rfl (lv_at hl 1 rfl) ?_
  obtain ⟨p1, gp1, h⟩ := Option.bind_eq_some_iff.mp h
  refine gw_ci (gw_rN (host := "Genericwood") X hP hS (gc_X8_at l G 10 ⟨by decide, by decide⟩ a0 σ _ gp1) gk_X8_at gv_311 gv_275 rfl rfl (Nat.le_of_ble_eq_true rfl) hl.1 ⟨rfl, rfl⟩ ⟨Nat.le_of_ble_eq_true rfl, Nat.le_of_ble_eq_true rfl⟩ ⟨Nat.le_of_ble_eq_true rfl, Nat.le_of_ble_eq_true rfl⟩ dX2_standardOf_5) hS (fun H locs hP hS => ?_)
  refine lv_iconst (v := 1) hx hb dX2_standardOf_8 (by decide) ?_
  refine lv_isub hx hb dX2_standardOf_9 ?_
  exact gw_ri X hP hS h dX2_standardOf_10
def f_X2_isStandard_L2 : Nat → Int32 → Int32 → gw_S → Option (Int32 × gw_S)
  | 0, _, _, _ => none
  | n + 1, v2_1, v2_2, σ => (if (16 : Int32) ≤ v2_2 then (some ((0 : Int32), σ)) else ((f_X2_standardOf v2_2 σ).bind fun p1 => (if p1.1 = v2_1 then (some ((1 : Int32), p1.2)) else (f_X2_isStandard_L2 n v2_1 (v2_2 + (1 : Int32)) p1.2))))
def f_X2_isStandard (a0 : Int32) (σ : gw_S) : Option (Int32 × gw_S) := (f_X2_isStandard_L2 64 a0 (0 : Int32) σ)
set_option maxHeartbeats 4000000 in
set_option maxRecDepth 100000 in
theorem gc_X2_isStandard (l : Launch) (G : gw_G) (a0 : Int32) (σ : gw_S) (o : (Int32 × gw_S)) (h : f_X2_isStandard a0 σ = some o) : gw_M (fun sz => gw_QZ G sz o) l yX2_isStandard cX2_isStandard 3 (some .boolean) { frames := 2, cells := 0, slots := 0, locals := 42 } G [.ref (G.2.1 4), .int a0] σ := by
  refine gw_en (own := RX2) (lv := [(0, .ref (G.2.1 4)), (1, .int a0)]) (by decide +kernel) rfl (Nat.le_of_ble_eq_true rfl) rfl ?_
  intro p e s m below meth c ls X hl hP
  obtain ⟨hx, hb, hml, hown, hts, -, -, hT, hZ, -⟩ := id X
  have hS : va_S (gw_A G s.heap.size) s.heap s.heap [] := va_S.rf
  have L2 : ∀ (n : Nat) (v2_1 : Int32) (v2_2 : Int32) (σ : gw_S) (H : Heap) (locs : List Loc) (ls : Array Slot), f_X2_isStandard_L2 n v2_1 v2_2 σ = some o → gw_P G σ H → va_S (gw_A G s.heap.size) s.heap H locs → lv_has ls 3 [(0, .ref (G.2.1 4)), (1, .int v2_1), (2, .int v2_2)] → W p l e { frames := 2, cells := 0, slots := 0, locals := 42 } s m [.ref (G.2.1 4), .int a0].toArray below meth c H locs 0 0 (MQ below (gw_QZ G s.heap.size o) [.ref (G.2.1 4), .int a0].toArray s 0 0 (gw_A G s.heap.size)) (F0 m 2 ls []) := by
    intro n
    induction n with
    | zero =>
      intro v2_1 v2_2 σ H locs ls h
      exact absurd h (by rw [f_X2_isStandard_L2.eq_1]; exact fun h => nomatch h)
    | succ n ih =>
      intro v2_1 v2_2 σ H locs ls h hP hS hl
      rw [f_X2_isStandard_L2.eq_2] at h
      refine lv_iload_n hx hb dX2_isStandard_2 rfl (lv_at hl 2 rfl) ?_
      refine lv_bipush (v := 16) hx hb dX2_isStandard_3 (by decide) ?_
      refine lv_icmp_ge (tgt := 25) hx hb dX2_isStandard_5 (by decide) (fun c => ?_) (fun c => ?_)
      · have h := (if_pos c).symm.trans h
        refine lv_iconst (v := 0) hx hb dX2_isStandard_25 (by decide) ?_
        exact gw_rz X hP hS rfl h dX2_isStandard_26
      · have h := (if_neg c).symm.trans h
        refine lv_aload_n hx hb dX2_isStandard_8 rfl (lv_at hl 0 rfl) ?_
        refine lv_iload_n hx hb dX2_isStandard_9 rfl (lv_at hl 2 rfl) ?_
        obtain ⟨p1, gp1, h⟩ := Option.bind_eq_some_iff.mp h
        refine gw_ci (gw_rV (C := RX2) X hP hS (gc_X2_standardOf l G v2_2 σ _ gp1) gk_X2_standardOf gv_835 ⟨gv_836, gv_837⟩ (va_recv hT.2.1 hP (ci := 5) (q0 := 4) rfl rfl) rfl rfl (Nat.le_of_ble_eq_true rfl) hl.1 ⟨rfl, rfl⟩ ⟨Nat.le_of_ble_eq_true rfl, Nat.le_of_ble_eq_true rfl⟩ ⟨Nat.le_of_ble_eq_true rfl, Nat.le_of_ble_eq_true rfl⟩ dX2_isStandard_10) hS (fun H locs hP hS => ?_)
        refine lv_iload_n hx hb dX2_isStandard_13 rfl (lv_at hl 1 rfl) ?_
        refine lv_icmp_ne (tgt := 19) hx hb dX2_isStandard_14 (by decide) (fun c => ?_) (fun c => ?_)
        · have h := (if_neg c).symm.trans h
          refine lv_iinc (v := (v2_2 + (1 : Int32))) (lv' := [(2, .int (v2_2 + (1 : Int32))), (0, .ref (G.2.1 4)), (1, .int v2_1)]) hx hb dX2_isStandard_19 hl (k := 2) rfl rfl (by decide) rfl (fun ls hl => ?_)
          refine lv_goto (tgt := 2) hx hb dX2_isStandard_22 (by decide) ?_
          exact ih v2_1 (v2_2 + (1 : Int32)) p1.2 _ _ _ h hP hS (lv_sub hl [1, 2, 0] rfl)
        · have h := (if_pos c).symm.trans h
          refine lv_iconst (v := 1) hx hb dX2_isStandard_17 (by decide) ?_
          exact gw_rz X hP hS rfl h dX2_isStandard_18
  unfold f_X2_isStandard at h
  refine lv_iconst (v := 0) hx hb dX2_isStandard_0 (by decide) ?_
  refine lv_istore_n (lv' := [(2, .int (0 : Int32)), (0, .ref (G.2.1 4)), (1, .int a0)]) hx hb dX2_isStandard_1 rfl hl (by decide) rfl (fun ls hl => ?_)
  exact L2 64 a0 (0 : Int32) σ _ _ _ h hP hS (lv_sub hl [1, 2, 0] rfl)
def f_X2_missingFor_L9 : Nat → Int32 → Int32 → Int32 → gw_S → Option (Int32 × gw_S)
  | 0, _, _, _, _ => none
  | n + 1, v9_2, v9_3, v9_4, σ => (if v9_4 < 0 then (some (v9_3, σ)) else ((f_X8_contains v9_2 v9_4 σ).bind fun p1 => (if p1.1 = 0 then (f_X2_missingFor_L9 n v9_2 v9_3 (v9_4 + (-1 : Int32)) p1.2) else ((f_X2_standardOf v9_4 p1.2).bind fun p2 => (if p2.1 = (-1 : Int32) then (f_X2_missingFor_L9 n (v9_2 ||| v9_4) (v9_3 ||| ((1 : Int32) <<< (v9_4 &&& 31))) (v9_4 + (-1 : Int32)) p2.2) else (f_X2_missingFor_L9 n (v9_2 ||| v9_4) v9_3 (v9_4 + (-1 : Int32)) p2.2))))))
def f_X2_missingFor (a0 : Int32) (σ : gw_S) : Option (Int32 × gw_S) := (f_X2_missingFor_L9 64 ((1 : Int32) <<< (a0 &&& 31)) (0 : Int32) a0 σ)
set_option maxHeartbeats 4000000 in
set_option maxRecDepth 100000 in
theorem gc_X2_missingFor (l : Launch) (G : gw_G) (a0 : Int32) (σ : gw_S) (o : (Int32 × gw_S)) (h : f_X2_missingFor a0 σ = some o) : gw_M (fun sz => gw_QI G sz o) l yX2_missingFor cX2_missingFor 5 (some .int) { frames := 2, cells := 0, slots := 0, locals := 42 } G [.ref (G.2.1 4), .int a0] σ := by
  refine gw_en (own := RX2) (lv := [(0, .ref (G.2.1 4)), (1, .int a0)]) (by decide +kernel) rfl (Nat.le_of_ble_eq_true rfl) rfl ?_
  intro p e s m below meth c ls X hl hP
  obtain ⟨hx, hb, hml, hown, hts, -, -, hT, hZ, -⟩ := id X
  have hS : va_S (gw_A G s.heap.size) s.heap s.heap [] := va_S.rf
  have L9 : ∀ (n : Nat) (v9_2 : Int32) (v9_3 : Int32) (v9_4 : Int32) (σ : gw_S) (H : Heap) (locs : List Loc) (ls : Array Slot), f_X2_missingFor_L9 n v9_2 v9_3 v9_4 σ = some o → gw_P G σ H → va_S (gw_A G s.heap.size) s.heap H locs → lv_has ls 5 [(0, .ref (G.2.1 4)), (2, .int v9_2), (3, .int v9_3), (4, .int v9_4)] → W p l e { frames := 2, cells := 0, slots := 0, locals := 42 } s m [.ref (G.2.1 4), .int a0].toArray below meth c H locs 0 0 (MQ below (gw_QI G s.heap.size o) [.ref (G.2.1 4), .int a0].toArray s 0 0 (gw_A G s.heap.size)) (F0 m 9 ls []) := by
    intro n
    induction n with
    | zero =>
      intro v9_2 v9_3 v9_4 σ H locs ls h
      exact absurd h (by rw [f_X2_missingFor_L9.eq_1]; exact fun h => nomatch h)
    | succ n ih =>
      intro v9_2 v9_3 v9_4 σ H locs ls h hP hS hl
      rw [f_X2_missingFor_L9.eq_2] at h
      refine lv_iload hx hb dX2_missingFor_9 (lv_at hl 3 rfl) ?_
      refine lv_if_lt (tgt := 51) hx hb dX2_missingFor_11 (by decide) (fun c => ?_) (fun c => ?_)
      · have h := (if_pos c).symm.trans h
        refine lv_iload_n hx hb dX2_missingFor_51 rfl (lv_at hl 2 rfl) ?_
        exact gw_ri X hP hS h dX2_missingFor_52
      · have h := (if_neg c).symm.trans h
        refine lv_iload_n hx hb dX2_missingFor_14 rfl (lv_at hl 1 rfl) ?_
        refine lv_iload hx hb dX2_missingFor_15 (lv_at hl 3 rfl) ?_
        obtain ⟨p1, gp1, h⟩ := Option.bind_eq_some_iff.mp h
        refine gw_cz (gw_rN (host := "Genericwood") X hP hS (gc_X8_contains l G v9_2 v9_4 σ _ gp1) gk_X8_contains gv_886 gv_278 rfl rfl (Nat.le_of_ble_eq_true rfl) hl.1 ⟨rfl, rfl⟩ ⟨Nat.le_of_ble_eq_true rfl, Nat.le_of_ble_eq_true rfl⟩ ⟨Nat.le_of_ble_eq_true rfl, Nat.le_of_ble_eq_true rfl⟩ dX2_missingFor_17) hS (fun H locs hb_p1 hP hS => ?_)
        refine lv_if_eq (tgt := 45) hx hb dX2_missingFor_20 (by decide) (fun c => ?_) (fun c => ?_)
        · have h := (if_pos c).symm.trans h
          refine lv_iinc (v := (v9_4 + (-1 : Int32))) (lv' := [(4, .int (v9_4 + (-1 : Int32))), (0, .ref (G.2.1 4)), (2, .int v9_2), (3, .int v9_3)]) hx hb dX2_missingFor_45 hl (k := 3) rfl rfl (by decide) rfl (fun ls hl => ?_)
          refine lv_goto (tgt := 9) hx hb dX2_missingFor_48 (by decide) ?_
          exact ih v9_2 v9_3 (v9_4 + (-1 : Int32)) p1.2 _ _ _ h hP hS (lv_sub hl [1, 2, 3, 0] rfl)
        · have h := (if_neg c).symm.trans h
          refine lv_iload_n hx hb dX2_missingFor_23 rfl (lv_at hl 1 rfl) ?_
          refine lv_iload hx hb dX2_missingFor_24 (lv_at hl 3 rfl) ?_
          refine lv_ior hx hb dX2_missingFor_26 ?_
          refine lv_istore_n (lv' := [(2, .int (v9_2 ||| v9_4)), (0, .ref (G.2.1 4)), (3, .int v9_3), (4, .int v9_4)]) hx hb dX2_missingFor_27 rfl hl (by decide) rfl (fun ls hl => ?_)
          refine lv_aload_n hx hb dX2_missingFor_28 rfl (lv_at hl 1 rfl) ?_
          refine lv_iload hx hb dX2_missingFor_29 (lv_at hl 3 rfl) ?_
          obtain ⟨p2, gp2, h⟩ := Option.bind_eq_some_iff.mp h
          refine gw_ci (gw_rV (C := RX2) X hP hS (gc_X2_standardOf l G v9_4 p1.2 _ gp2) gk_X2_standardOf gv_835 ⟨gv_836, gv_837⟩ (va_recv hT.2.1 hP (ci := 5) (q0 := 4) rfl rfl) rfl rfl (Nat.le_of_ble_eq_true rfl) hl.1 ⟨rfl, rfl⟩ ⟨Nat.le_of_ble_eq_true rfl, Nat.le_of_ble_eq_true rfl⟩ ⟨Nat.le_of_ble_eq_true rfl, Nat.le_of_ble_eq_true rfl⟩ dX2_missingFor_31) hS (fun H locs hP hS => ?_)
          refine lv_iconst (v := -1) hx hb dX2_missingFor_34 (by decide) ?_
          refine lv_icmp_ne (tgt := 45) hx hb dX2_missingFor_35 (by decide) (fun c => ?_) (fun c => ?_)
          · have h := (if_neg c).symm.trans h
            refine lv_iinc (v := (v9_4 + (-1 : Int32))) (lv' := [(4, .int (v9_4 + (-1 : Int32))), (2, .int (v9_2 ||| v9_4)), (0, .ref (G.2.1 4)), (3, .int v9_3)]) hx hb dX2_missingFor_45 hl (k := 3) rfl rfl (by decide) rfl (fun ls hl => ?_)
            refine lv_goto (tgt := 9) hx hb dX2_missingFor_48 (by decide) ?_
            exact ih (v9_2 ||| v9_4) v9_3 (v9_4 + (-1 : Int32)) p2.2 _ _ _ h hP hS (lv_sub hl [2, 1, 3, 0] rfl)
          · have h := (if_pos c).symm.trans h
            refine lv_iload_n hx hb dX2_missingFor_38 rfl (lv_at hl 2 rfl) ?_
            refine lv_iconst (v := 1) hx hb dX2_missingFor_39 (by decide) ?_
            refine lv_iload hx hb dX2_missingFor_40 (lv_at hl 3 rfl) ?_
            refine lv_ishl hx hb dX2_missingFor_42 ?_
            refine lv_ior hx hb dX2_missingFor_43 ?_
            refine lv_istore_n (lv' := [(3, .int (v9_3 ||| ((1 : Int32) <<< (v9_4 &&& 31)))), (2, .int (v9_2 ||| v9_4)), (0, .ref (G.2.1 4)), (4, .int v9_4)]) hx hb dX2_missingFor_44 rfl hl (by decide) rfl (fun ls hl => ?_)
            refine lv_iinc (v := (v9_4 + (-1 : Int32))) (lv' := [(4, .int (v9_4 + (-1 : Int32))), (3, .int (v9_3 ||| ((1 : Int32) <<< (v9_4 &&& 31)))), (2, .int (v9_2 ||| v9_4)), (0, .ref (G.2.1 4))]) hx hb dX2_missingFor_45 hl (k := 3) rfl rfl (by decide) rfl (fun ls hl => ?_)
            refine lv_goto (tgt := 9) hx hb dX2_missingFor_48 (by decide) ?_
            exact ih (v9_2 ||| v9_4) (v9_3 ||| ((1 : Int32) <<< (v9_4 &&& 31))) (v9_4 + (-1 : Int32)) p2.2 _ _ _ h hP hS (lv_sub hl [3, 2, 1, 0] rfl)
  unfold f_X2_missingFor at h
  refine lv_iconst (v := 1) hx hb dX2_missingFor_0 (by decide) ?_
  refine lv_iload_n hx hb dX2_missingFor_1 rfl (lv_at hl 1 rfl) ?_
  refine lv_ishl hx hb dX2_missingFor_2 ?_
  refine lv_istore_n (lv' := [(2, .int ((1 : Int32) <<< (a0 &&& 31))), (0, .ref (G.2.1 4)), (1, .int a0)]) hx hb dX2_missingFor_3 rfl hl (by decide) rfl (fun ls hl => ?_)
  refine lv_iconst (v := 0) hx hb dX2_missingFor_4 (by decide) ?_
  refine lv_istore_n (lv' := [(3, .int (0 : Int32)), (2, .int ((1 : Int32) <<< (a0 &&& 31))), (0, .ref (G.2.1 4)), (1, .int a0)]) hx hb dX2_missingFor_5 rfl hl (by decide) rfl (fun ls hl => ?_)
  refine lv_iload_n hx hb dX2_missingFor_6 rfl (lv_at hl 3 rfl) ?_
  refine lv_istore (lv' := [(4, .int a0), (3, .int (0 : Int32)), (2, .int ((1 : Int32) <<< (a0 &&& 31))), (0, .ref (G.2.1 4)), (1, .int a0)]) hx hb dX2_missingFor_7 hl (by decide) rfl (fun ls hl => ?_)
  exact L9 64 ((1 : Int32) <<< (a0 &&& 31)) (0 : Int32) a0 σ _ _ _ h hP hS (lv_sub hl [3, 2, 1, 0] rfl)
def f_X2_addStandard_L18 : Nat → Int32 → Int32 → Int32 → gw_S → Option gw_S
  | 0, _, _, _, _ => none
  | n + 1, v18_1, v18_2, v18_3, σ => (if (4 : Int32) ≤ v18_3 then (some σ) else ((f_X8_contains v18_1 v18_3 σ).bind fun p3 => (if p3.1 = 0 then (f_X2_addStandard_L18 n v18_1 v18_2 (v18_3 + (1 : Int32)) p3.2) else ((f_X2_standardOf v18_3 p3.2).bind fun p4 => ((f_X2_addPair v18_2 p4.1 (0 : Int32) p4.2).bind fun p5 => (f_X2_addStandard_L18 n v18_1 v18_2 (v18_3 + (1 : Int32)) p5))))))
def f_X2_addStandard (a0 : Int32) (σ : gw_S) : Option gw_S := ((f_X2_add  σ).bind fun p1 => ((f_X8_put 10 a0 (p1.1 + (1 : Int32)) p1.2).bind fun p2 => (f_X2_addStandard_L18 64 a0 p1.1 (0 : Int32) p2)))
set_option maxHeartbeats 4000000 in
set_option maxRecDepth 100000 in
theorem gc_X2_addStandard (l : Launch) (G : gw_G) (a0 : Int32) (σ : gw_S) (o : gw_S) (h : f_X2_addStandard a0 σ = some o) : gw_M (fun sz => gw_QV G sz o) l yX2_addStandard cX2_addStandard 4 none { frames := 5, cells := 0, slots := 0, locals := 113 } G [.ref (G.2.1 4), .int a0] σ := by
  refine gw_en (own := RX2) (lv := [(0, .ref (G.2.1 4)), (1, .int a0)]) (by decide +kernel) rfl (Nat.le_of_ble_eq_true rfl) rfl ?_
  intro p e s m below meth c ls X hl hP
  obtain ⟨hx, hb, hml, hown, hts, -, -, hT, hZ, -⟩ := id X
  have hS : va_S (gw_A G s.heap.size) s.heap s.heap [] := va_S.rf
  have L18 : ∀ (n : Nat) (v18_1 : Int32) (v18_2 : Int32) (v18_3 : Int32) (σ : gw_S) (H : Heap) (locs : List Loc) (ls : Array Slot), f_X2_addStandard_L18 n v18_1 v18_2 v18_3 σ = some o → gw_P G σ H → va_S (gw_A G s.heap.size) s.heap H locs → lv_has ls 4 [(0, .ref (G.2.1 4)), (1, .int v18_1), (2, .int v18_2), (3, .int v18_3)] → W p l e { frames := 5, cells := 0, slots := 0, locals := 113 } s m [.ref (G.2.1 4), .int a0].toArray below meth c H locs 0 0 (MQ below (gw_QV G s.heap.size o) [.ref (G.2.1 4), .int a0].toArray s 0 0 (gw_A G s.heap.size)) (F0 m 18 ls []) := by
    intro n
    induction n with
    | zero =>
      intro v18_1 v18_2 v18_3 σ H locs ls h
      exact absurd h (by rw [f_X2_addStandard_L18.eq_1]; exact fun h => nomatch h)
    | succ n ih =>
      intro v18_1 v18_2 v18_3 σ H locs ls h hP hS hl
      rw [f_X2_addStandard_L18.eq_2] at h
      refine lv_iload_n hx hb dX2_addStandard_18 rfl (lv_at hl 3 rfl) ?_
      refine lv_iconst (v := 4) hx hb dX2_addStandard_19 (by decide) ?_
      refine lv_icmp_ge (tgt := 48) hx hb dX2_addStandard_20 (by decide) (fun c => ?_) (fun c => ?_)
      · have h := (if_pos c).symm.trans h
        exact gw_rv X hP hS h dX2_addStandard_48
      · have h := (if_neg c).symm.trans h
        refine lv_iload_n hx hb dX2_addStandard_23 rfl (lv_at hl 1 rfl) ?_
        refine lv_iload_n hx hb dX2_addStandard_24 rfl (lv_at hl 3 rfl) ?_
        obtain ⟨p3, gp3, h⟩ := Option.bind_eq_some_iff.mp h
        refine gw_cz (gw_rN (host := "Genericwood") X hP hS (gc_X8_contains l G v18_1 v18_3 σ _ gp3) gk_X8_contains gv_886 gv_278 rfl rfl (Nat.le_of_ble_eq_true rfl) hl.1 ⟨rfl, rfl⟩ ⟨Nat.le_of_ble_eq_true rfl, Nat.le_of_ble_eq_true rfl⟩ ⟨Nat.le_of_ble_eq_true rfl, Nat.le_of_ble_eq_true rfl⟩ dX2_addStandard_25) hS (fun H locs hb_p3 hP hS => ?_)
        refine lv_if_eq (tgt := 42) hx hb dX2_addStandard_28 (by decide) (fun c => ?_) (fun c => ?_)
        · have h := (if_pos c).symm.trans h
          refine lv_iinc (v := (v18_3 + (1 : Int32))) (lv' := [(3, .int (v18_3 + (1 : Int32))), (0, .ref (G.2.1 4)), (1, .int v18_1), (2, .int v18_2)]) hx hb dX2_addStandard_42 hl (k := 3) rfl rfl (by decide) rfl (fun ls hl => ?_)
          refine lv_goto (tgt := 18) hx hb dX2_addStandard_45 (by decide) ?_
          exact ih v18_1 v18_2 (v18_3 + (1 : Int32)) p3.2 _ _ _ h hP hS (lv_sub hl [1, 2, 3, 0] rfl)
        · have h := (if_neg c).symm.trans h
          refine lv_aload_n hx hb dX2_addStandard_31 rfl (lv_at hl 0 rfl) ?_
          refine lv_iload_n hx hb dX2_addStandard_32 rfl (lv_at hl 2 rfl) ?_
          refine lv_aload_n hx hb dX2_addStandard_33 rfl (lv_at hl 0 rfl) ?_
          refine lv_iload_n hx hb dX2_addStandard_34 rfl (lv_at hl 3 rfl) ?_
          obtain ⟨p4, gp4, h⟩ := Option.bind_eq_some_iff.mp h
          refine gw_ci (gw_rV (C := RX2) X hP hS (gc_X2_standardOf l G v18_3 p3.2 _ gp4) gk_X2_standardOf gv_835 ⟨gv_836, gv_837⟩ (va_recv hT.2.1 hP (ci := 5) (q0 := 4) rfl rfl) rfl rfl (Nat.le_of_ble_eq_true rfl) hl.1 ⟨rfl, rfl⟩ ⟨Nat.le_of_ble_eq_true rfl, Nat.le_of_ble_eq_true rfl⟩ ⟨Nat.le_of_ble_eq_true rfl, Nat.le_of_ble_eq_true rfl⟩ dX2_addStandard_35) hS (fun H locs hP hS => ?_)
          refine lv_iconst (v := 0) hx hb dX2_addStandard_38 (by decide) ?_
          obtain ⟨p5, gp5, h⟩ := Option.bind_eq_some_iff.mp h
          refine gw_cv (gw_rV (C := RX2) X hP hS (gc_X2_addPair l G v18_2 p4.1 (0 : Int32) p4.2 _ gp5) gk_X2_addPair gv_892 ⟨gv_851, gv_852⟩ (va_recv hT.2.1 hP (ci := 5) (q0 := 4) rfl rfl) rfl rfl (Nat.le_of_ble_eq_true rfl) hl.1 ⟨rfl, rfl⟩ ⟨Nat.le_of_ble_eq_true rfl, Nat.le_of_ble_eq_true rfl⟩ ⟨Nat.le_of_ble_eq_true rfl, Nat.le_of_ble_eq_true rfl⟩ dX2_addStandard_39) hS (fun H locs hP hS => ?_)
          refine lv_iinc (v := (v18_3 + (1 : Int32))) (lv' := [(3, .int (v18_3 + (1 : Int32))), (0, .ref (G.2.1 4)), (1, .int v18_1), (2, .int v18_2)]) hx hb dX2_addStandard_42 hl (k := 3) rfl rfl (by decide) rfl (fun ls hl => ?_)
          refine lv_goto (tgt := 18) hx hb dX2_addStandard_45 (by decide) ?_
          exact ih v18_1 v18_2 (v18_3 + (1 : Int32)) p5 _ _ _ h hP hS (lv_sub hl [1, 2, 3, 0] rfl)
  unfold f_X2_addStandard at h
  refine lv_aload_n hx hb dX2_addStandard_0 rfl (lv_at hl 0 rfl) ?_
  obtain ⟨p1, gp1, h⟩ := Option.bind_eq_some_iff.mp h
  refine gw_ci (gw_rV (C := RX2) X hP hS (gc_X2_add l G  σ _ gp1) gk_X2_add gv_891 ⟨gv_799, gv_800⟩ (va_recv hT.2.1 hP (ci := 5) (q0 := 4) rfl rfl) rfl rfl (Nat.le_of_ble_eq_true rfl) hl.1 ⟨rfl, rfl⟩ ⟨Nat.le_of_ble_eq_true rfl, Nat.le_of_ble_eq_true rfl⟩ ⟨Nat.le_of_ble_eq_true rfl, Nat.le_of_ble_eq_true rfl⟩ dX2_addStandard_1) hS (fun H locs hP hS => ?_)
  refine lv_istore_n (lv' := [(2, .int p1.1), (0, .ref (G.2.1 4)), (1, .int a0)]) hx hb dX2_addStandard_4 rfl hl (by decide) rfl (fun ls hl => ?_)
  refine lv_aload_n hx hb dX2_addStandard_5 rfl (lv_at hl 1 rfl) ?_
  refine va_get (D := G.1) (ci := 5) (v := .ref (G.2.1 10)) (C := RX2) (T := TX2) (N := 9) hx hb hts gx_X2 hown hT.2.1 hP 4 rfl rfl 8 (by decide) (hts _ gv_79) (fun _ h9 => h9) rfl dX2_addStandard_6 ?_
  refine lv_iload_n hx hb dX2_addStandard_9 rfl (lv_at hl 2 rfl) ?_
  refine lv_iload_n hx hb dX2_addStandard_10 rfl (lv_at hl 0 rfl) ?_
  refine lv_iconst (v := 1) hx hb dX2_addStandard_11 (by decide) ?_
  refine lv_iadd hx hb dX2_addStandard_12 ?_
  obtain ⟨p2, gp2, h⟩ := Option.bind_eq_some_iff.mp h
  refine gw_cv (gw_rN (host := "Genericwood") X hP hS (gc_X8_put l G 10 ⟨by decide, by decide⟩ a0 (p1.1 + (1 : Int32)) p1.2 _ gp2) gk_X8_put gv_813 gv_403 rfl rfl (Nat.le_of_ble_eq_true rfl) hl.1 ⟨rfl, rfl⟩ ⟨Nat.le_of_ble_eq_true rfl, Nat.le_of_ble_eq_true rfl⟩ ⟨Nat.le_of_ble_eq_true rfl, Nat.le_of_ble_eq_true rfl⟩ dX2_addStandard_13) hS (fun H locs hP hS => ?_)
  refine lv_iconst (v := 0) hx hb dX2_addStandard_16 (by decide) ?_
  refine lv_istore_n (lv' := [(3, .int (0 : Int32)), (2, .int p1.1), (0, .ref (G.2.1 4)), (1, .int a0)]) hx hb dX2_addStandard_17 rfl hl (by decide) rfl (fun ls hl => ?_)
  exact L18 64 a0 p1.1 (0 : Int32) p2 _ _ _ h hP hS (lv_sub hl [2, 3, 1, 0] rfl)
def f_X2_isDrafted_L2 : Nat → Int32 → Int32 → Int32 → gw_S → Option (Int32 × gw_S)
  | 0, _, _, _, _ => none
  | n + 1, v2_1, v2_2, v2_3, σ => (if v2_1 ≤ v2_3 then (some ((0 : Int32), σ)) else ((f_X8_at 9 v2_3 σ).bind fun p1 => (if p1.1 = v2_2 then (some ((1 : Int32), p1.2)) else (f_X2_isDrafted_L2 n v2_1 v2_2 (v2_3 + (1 : Int32)) p1.2))))
def f_X2_isDrafted (a0 : Int32) (a1 : Int32) (σ : gw_S) : Option (Int32 × gw_S) := (f_X2_isDrafted_L2 64 a0 a1 (0 : Int32) σ)
set_option maxHeartbeats 4000000 in
set_option maxRecDepth 100000 in
theorem gc_X2_isDrafted (l : Launch) (G : gw_G) (a0 : Int32) (a1 : Int32) (σ : gw_S) (o : (Int32 × gw_S)) (h : f_X2_isDrafted a0 a1 σ = some o) : gw_M (fun sz => gw_QZ G sz o) l yX2_isDrafted cX2_isDrafted 4 (some .boolean) { frames := 1, cells := 0, slots := 0, locals := 21 } G [.ref (G.2.1 4), .int a0, .int a1] σ := by
  refine gw_en (own := RX2) (lv := [(0, .ref (G.2.1 4)), (1, .int a0), (2, .int a1)]) (by decide +kernel) rfl (Nat.le_of_ble_eq_true rfl) rfl ?_
  intro p e s m below meth c ls X hl hP
  obtain ⟨hx, hb, hml, hown, hts, -, -, hT, hZ, -⟩ := id X
  have hS : va_S (gw_A G s.heap.size) s.heap s.heap [] := va_S.rf
  have L2 : ∀ (n : Nat) (v2_1 : Int32) (v2_2 : Int32) (v2_3 : Int32) (σ : gw_S) (H : Heap) (locs : List Loc) (ls : Array Slot), f_X2_isDrafted_L2 n v2_1 v2_2 v2_3 σ = some o → gw_P G σ H → va_S (gw_A G s.heap.size) s.heap H locs → lv_has ls 4 [(0, .ref (G.2.1 4)), (1, .int v2_1), (2, .int v2_2), (3, .int v2_3)] → W p l e { frames := 1, cells := 0, slots := 0, locals := 21 } s m [.ref (G.2.1 4), .int a0, .int a1].toArray below meth c H locs 0 0 (MQ below (gw_QZ G s.heap.size o) [.ref (G.2.1 4), .int a0, .int a1].toArray s 0 0 (gw_A G s.heap.size)) (F0 m 2 ls []) := by
    intro n
    induction n with
    | zero =>
      intro v2_1 v2_2 v2_3 σ H locs ls h
      exact absurd h (by rw [f_X2_isDrafted_L2.eq_1]; exact fun h => nomatch h)
    | succ n ih =>
      intro v2_1 v2_2 v2_3 σ H locs ls h hP hS hl
      rw [f_X2_isDrafted_L2.eq_2] at h
      refine lv_iload_n hx hb dX2_isDrafted_2 rfl (lv_at hl 3 rfl) ?_
      refine lv_iload_n hx hb dX2_isDrafted_3 rfl (lv_at hl 1 rfl) ?_
      refine lv_icmp_ge (tgt := 27) hx hb dX2_isDrafted_4 (by decide) (fun c => ?_) (fun c => ?_)
      · have h := (if_pos c).symm.trans h
        refine lv_iconst (v := 0) hx hb dX2_isDrafted_27 (by decide) ?_
        exact gw_rz X hP hS rfl h dX2_isDrafted_28
      · have h := (if_neg c).symm.trans h
        refine lv_aload_n hx hb dX2_isDrafted_7 rfl (lv_at hl 0 rfl) ?_
        refine va_get (D := G.1) (ci := 5) (v := .ref (G.2.1 9)) (C := RX2) (T := TX2) (N := 9) hx hb hts gx_X2 hown hT.2.1 hP 4 rfl rfl 7 (by decide) (hts _ gv_78) (fun _ h9 => h9) rfl dX2_isDrafted_8 ?_
        refine lv_iload_n hx hb dX2_isDrafted_11 rfl (lv_at hl 3 rfl) ?_
        obtain ⟨p1, gp1, h⟩ := Option.bind_eq_some_iff.mp h
        refine gw_ci (gw_rN (host := "Genericwood") X hP hS (gc_X8_at l G 9 ⟨by decide, by decide⟩ v2_3 σ _ gp1) gk_X8_at gv_311 gv_275 rfl rfl (Nat.le_of_ble_eq_true rfl) hl.1 ⟨rfl, rfl⟩ ⟨Nat.le_of_ble_eq_true rfl, Nat.le_of_ble_eq_true rfl⟩ ⟨Nat.le_of_ble_eq_true rfl, Nat.le_of_ble_eq_true rfl⟩ dX2_isDrafted_12) hS (fun H locs hP hS => ?_)
        refine lv_iload_n hx hb dX2_isDrafted_15 rfl (lv_at hl 2 rfl) ?_
        refine lv_icmp_ne (tgt := 21) hx hb dX2_isDrafted_16 (by decide) (fun c => ?_) (fun c => ?_)
        · have h := (if_neg c).symm.trans h
          refine lv_iinc (v := (v2_3 + (1 : Int32))) (lv' := [(3, .int (v2_3 + (1 : Int32))), (0, .ref (G.2.1 4)), (1, .int v2_1), (2, .int v2_2)]) hx hb dX2_isDrafted_21 hl (k := 3) rfl rfl (by decide) rfl (fun ls hl => ?_)
          refine lv_goto (tgt := 2) hx hb dX2_isDrafted_24 (by decide) ?_
          exact ih v2_1 v2_2 (v2_3 + (1 : Int32)) p1.2 _ _ _ h hP hS (lv_sub hl [1, 2, 3, 0] rfl)
        · have h := (if_pos c).symm.trans h
          refine lv_iconst (v := 1) hx hb dX2_isDrafted_19 (by decide) ?_
          exact gw_rz X hP hS rfl h dX2_isDrafted_20
  unfold f_X2_isDrafted at h
  refine lv_iconst (v := 0) hx hb dX2_isDrafted_0 (by decide) ?_
  refine lv_istore_n (lv' := [(3, .int (0 : Int32)), (0, .ref (G.2.1 4)), (1, .int a0), (2, .int a1)]) hx hb dX2_isDrafted_1 rfl hl (by decide) rfl (fun ls hl => ?_)
  exact L2 64 a0 a1 (0 : Int32) σ _ _ _ h hP hS (lv_sub hl [1, 2, 3, 0] rfl)
def f_X2_draftPart_L44 : Nat → (Int32 → Int32 → Int32 → Int32 → gw_S → Option (Int32 × gw_S)) → Int32 → Int32 → Int32 → Int32 → Int32 → Int32 → gw_S → Option (Int32 × gw_S)
  | 0, _, _, _, _, _, _, _, _ => none
  | n + 1, K, v44_2, v44_3, v44_4, v44_5, v44_6, v44_7, σ => ((f_X3_size  σ).bind fun p5 => (if p5.1 ≤ v44_7 then (K v44_2 v44_3 v44_4 v44_5 p5.2) else ((f_X2_lower v44_2 v44_5 p5.2).bind fun p6 => ((f_X8_contains v44_6 v44_7 p6.2).bind fun p7 => (if p7.1 = 0 then (f_X2_draftPart_L44 n K v44_2 v44_3 v44_4 v44_5 v44_6 (v44_7 + (1 : Int32)) p7.2) else ((f_X2_isDrafted v44_4 (p6.1 + ((16 : Int32) * v44_7)) p7.2).bind fun p8 => (if p8.1 = 0 then (if v44_4 < (4 : Int32) then ((f_X8_put 9 v44_4 (p6.1 + ((16 : Int32) * v44_7)) p8.2).bind fun p9 => (f_X2_draftPart_L44 n K v44_2 v44_3 (v44_4 + (1 : Int32)) v44_5 v44_6 (v44_7 + (1 : Int32)) p9)) else (some ((5 : Int32), p8.2))) else (f_X2_draftPart_L44 n K v44_2 v44_3 v44_4 v44_5 v44_6 (v44_7 + (1 : Int32)) p8.2))))))))
def f_X2_draftPart_L6 : Nat → Int32 → Int32 → Int32 → Int32 → gw_S → Option (Int32 × gw_S)
  | 0, _, _, _, _, _ => none
  | n + 1, v6_2, v6_3, v6_4, v6_5, σ => ((f_X2_pairsOf v6_2 σ).bind fun p1 => (if p1.1 ≤ v6_5 then (some (v6_4, p1.2)) else ((f_X3_down v6_3 p1.2).bind fun p2 => ((f_X2_promise v6_2 v6_5 p2.2).bind fun p3 => ((f_X3_down p3.1 p3.2).bind fun p4 => (f_X2_draftPart_L44 64 (fun w44_2 w44_3 w44_4 w44_5 σ44 => (f_X2_draftPart_L6 n w44_2 w44_3 w44_4 (w44_5 + (1 : Int32)) σ44)) v6_2 v6_3 v6_4 v6_5 (p2.1 &&& p4.1) (0 : Int32) p4.2))))))
def f_X2_draftPart (a0 : Int32) (a1 : Int32) (a2 : Int32) (σ : gw_S) : Option (Int32 × gw_S) := (f_X2_draftPart_L6 64 a1 a2 a0 (0 : Int32) σ)
set_option maxHeartbeats 4000000 in
set_option maxRecDepth 100000 in
theorem gc_X2_draftPart (l : Launch) (G : gw_G) (a0 : Int32) (a1 : Int32) (a2 : Int32) (σ : gw_S) (o : (Int32 × gw_S)) (h : f_X2_draftPart a0 a1 a2 σ = some o) : gw_M (fun sz => gw_QI G sz o) l yX2_draftPart cX2_draftPart 9 (some .int) { frames := 2, cells := 0, slots := 0, locals := 44 } G [.ref (G.2.1 4), .int a0, .int a1, .int a2] σ := by
  refine gw_en (own := RX2) (lv := [(0, .ref (G.2.1 4)), (1, .int a0), (2, .int a1), (3, .int a2)]) (by decide +kernel) rfl (Nat.le_of_ble_eq_true rfl) rfl ?_
  intro p e s m below meth c ls X hl hP
  obtain ⟨hx, hb, hml, hown, hts, -, -, hT, hZ, -⟩ := id X
  have hS : va_S (gw_A G s.heap.size) s.heap s.heap [] := va_S.rf
  have L44 : ∀ (n : Nat) (K : Int32 → Int32 → Int32 → Int32 → gw_S → Option (Int32 × gw_S)) (v44_2 : Int32) (v44_3 : Int32) (v44_4 : Int32) (v44_5 : Int32) (v44_6 : Int32) (v44_7 : Int32) (σ : gw_S) (H : Heap) (locs : List Loc) (ls : Array Slot), f_X2_draftPart_L44 n K v44_2 v44_3 v44_4 v44_5 v44_6 v44_7 σ = some o → gw_P G σ H → va_S (gw_A G s.heap.size) s.heap H locs → lv_has ls 9 [(0, .ref (G.2.1 4)), (2, .int v44_2), (3, .int v44_3), (4, .int v44_4), (5, .int v44_5), (6, .int v44_6), (7, .int v44_7)] → (∀ (w2 : Int32) (w3 : Int32) (w4 : Int32) (w5 : Int32) (σ : gw_S) (H : Heap) (locs : List Loc) (ls : Array Slot), K w2 w3 w4 w5 σ = some o → gw_P G σ H → va_S (gw_A G s.heap.size) s.heap H locs → lv_has ls 9 [(0, .ref (G.2.1 4)), (2, .int w2), (3, .int w3), (4, .int w4), (5, .int w5)] → W p l e { frames := 2, cells := 0, slots := 0, locals := 44 } s m [.ref (G.2.1 4), .int a0, .int a1, .int a2].toArray below meth c H locs 0 0 (MQ below (gw_QI G s.heap.size o) [.ref (G.2.1 4), .int a0, .int a1, .int a2].toArray s 0 0 (gw_A G s.heap.size)) (F0 m 120 ls [])) → W p l e { frames := 2, cells := 0, slots := 0, locals := 44 } s m [.ref (G.2.1 4), .int a0, .int a1, .int a2].toArray below meth c H locs 0 0 (MQ below (gw_QI G s.heap.size o) [.ref (G.2.1 4), .int a0, .int a1, .int a2].toArray s 0 0 (gw_A G s.heap.size)) (F0 m 44 ls []) := by
    intro n K
    induction n with
    | zero =>
      intro v44_2 v44_3 v44_4 v44_5 v44_6 v44_7 σ H locs ls h
      exact absurd h (by rw [f_X2_draftPart_L44.eq_1]; exact fun h => nomatch h)
    | succ n ih =>
      intro v44_2 v44_3 v44_4 v44_5 v44_6 v44_7 σ H locs ls h hP hS hl hK
      rw [f_X2_draftPart_L44.eq_2] at h
      refine lv_iload hx hb dX2_draftPart_44 (lv_at hl 6 rfl) ?_
      refine lv_aload_n hx hb dX2_draftPart_46 rfl (lv_at hl 0 rfl) ?_
      refine va_get (D := G.1) (ci := 5) (v := .ref (G.2.1 1)) (C := RX2) (T := TX2) (N := 9) hx hb hts gx_X2 hown hT.2.1 hP 4 rfl rfl 0 (by decide) (hts _ gv_71) (fun _ h9 => h9) rfl dX2_draftPart_47 ?_
      obtain ⟨p5, gp5, h⟩ := Option.bind_eq_some_iff.mp h
      refine gw_ci (gw_rV (C := RX3) X hP hS (gc_X3_size l G  σ _ gp5) gk_X3_size gv_953 ⟨gv_259, gv_260⟩ (va_recv hT.2.1 hP (ci := 6) (q0 := 1) rfl rfl) rfl rfl (Nat.le_of_ble_eq_true rfl) hl.1 ⟨rfl, rfl⟩ ⟨Nat.le_of_ble_eq_true rfl, Nat.le_of_ble_eq_true rfl⟩ ⟨Nat.le_of_ble_eq_true rfl, Nat.le_of_ble_eq_true rfl⟩ dX2_draftPart_50) hS (fun H locs hP hS => ?_)
      refine lv_icmp_ge (tgt := 120) hx hb dX2_draftPart_53 (by decide) (fun c => ?_) (fun c => ?_)
      · have h := (if_pos c).symm.trans h
        exact hK v44_2 v44_3 v44_4 v44_5 p5.2 _ _ _ h hP hS (lv_sub hl [0, 1, 2, 3, 4] rfl)
      · have h := (if_neg c).symm.trans h
        refine lv_aload_n hx hb dX2_draftPart_56 rfl (lv_at hl 0 rfl) ?_
        refine lv_iload_n hx hb dX2_draftPart_57 rfl (lv_at hl 1 rfl) ?_
        refine lv_iload hx hb dX2_draftPart_58 (lv_at hl 4 rfl) ?_
        obtain ⟨p6, gp6, h⟩ := Option.bind_eq_some_iff.mp h
        refine gw_ci (gw_rV (C := RX2) X hP hS (gc_X2_lower l G v44_2 v44_5 p5.2 _ gp6) gk_X2_lower gv_811 ⟨gv_317, gv_318⟩ (va_recv hT.2.1 hP (ci := 5) (q0 := 4) rfl rfl) rfl rfl (Nat.le_of_ble_eq_true rfl) hl.1 ⟨rfl, rfl⟩ ⟨Nat.le_of_ble_eq_true rfl, Nat.le_of_ble_eq_true rfl⟩ ⟨Nat.le_of_ble_eq_true rfl, Nat.le_of_ble_eq_true rfl⟩ dX2_draftPart_60) hS (fun H locs hP hS => ?_)
        refine lv_bipush (v := 16) hx hb dX2_draftPart_63 (by decide) ?_
        refine lv_iload hx hb dX2_draftPart_65 (lv_at hl 6 rfl) ?_
        refine lv_imul hx hb dX2_draftPart_67 ?_
        refine lv_iadd hx hb dX2_draftPart_68 ?_
        refine lv_istore (lv' := [(8, .int (p6.1 + ((16 : Int32) * v44_7))), (0, .ref (G.2.1 4)), (2, .int v44_2), (3, .int v44_3), (4, .int v44_4), (5, .int v44_5), (6, .int v44_6), (7, .int v44_7)]) hx hb dX2_draftPart_69 hl (by decide) rfl (fun ls hl => ?_)
        refine lv_iload hx hb dX2_draftPart_71 (lv_at hl 6 rfl) ?_
        refine lv_iload hx hb dX2_draftPart_73 (lv_at hl 7 rfl) ?_
        obtain ⟨p7, gp7, h⟩ := Option.bind_eq_some_iff.mp h
        refine gw_cz (gw_rN (host := "Genericwood") X hP hS (gc_X8_contains l G v44_6 v44_7 p6.2 _ gp7) gk_X8_contains gv_886 gv_278 rfl rfl (Nat.le_of_ble_eq_true rfl) hl.1 ⟨rfl, rfl⟩ ⟨Nat.le_of_ble_eq_true rfl, Nat.le_of_ble_eq_true rfl⟩ ⟨Nat.le_of_ble_eq_true rfl, Nat.le_of_ble_eq_true rfl⟩ dX2_draftPart_75) hS (fun H locs hb_p7 hP hS => ?_)
        refine lv_if_eq (tgt := 114) hx hb dX2_draftPart_78 (by decide) (fun c => ?_) (fun c => ?_)
        · have h := (if_pos c).symm.trans h
          refine lv_iinc (v := (v44_7 + (1 : Int32))) (lv' := [(7, .int (v44_7 + (1 : Int32))), (8, .int (p6.1 + ((16 : Int32) * v44_7))), (0, .ref (G.2.1 4)), (2, .int v44_2), (3, .int v44_3), (4, .int v44_4), (5, .int v44_5), (6, .int v44_6)]) hx hb dX2_draftPart_114 hl (k := 7) rfl rfl (by decide) rfl (fun ls hl => ?_)
          refine lv_goto (tgt := 44) hx hb dX2_draftPart_117 (by decide) ?_
          exact ih v44_2 v44_3 v44_4 v44_5 v44_6 (v44_7 + (1 : Int32)) p7.2 _ _ _ h hP hS (lv_sub hl [2, 3, 4, 5, 6, 7, 0] rfl) hK
        · have h := (if_neg c).symm.trans h
          refine lv_aload_n hx hb dX2_draftPart_81 rfl (lv_at hl 1 rfl) ?_
          refine lv_iload hx hb dX2_draftPart_82 (lv_at hl 4 rfl) ?_
          refine lv_iload hx hb dX2_draftPart_84 (lv_at hl 0 rfl) ?_
          obtain ⟨p8, gp8, h⟩ := Option.bind_eq_some_iff.mp h
          refine gw_cz (gw_rV (C := RX2) X hP hS (gc_X2_isDrafted l G v44_4 (p6.1 + ((16 : Int32) * v44_7)) p7.2 _ gp8) gk_X2_isDrafted gv_954 ⟨gv_956, gv_s17⟩ (va_recv hT.2.1 hP (ci := 5) (q0 := 4) rfl rfl) rfl rfl (Nat.le_of_ble_eq_true rfl) hl.1 ⟨rfl, rfl⟩ ⟨Nat.le_of_ble_eq_true rfl, Nat.le_of_ble_eq_true rfl⟩ ⟨Nat.le_of_ble_eq_true rfl, Nat.le_of_ble_eq_true rfl⟩ dX2_draftPart_86) hS (fun H locs hb_p8 hP hS => ?_)
          refine lv_if_ne (tgt := 114) hx hb dX2_draftPart_89 (by decide) (fun c => ?_) (fun c => ?_)
          · have h := (if_neg c).symm.trans h
            refine lv_iinc (v := (v44_7 + (1 : Int32))) (lv' := [(7, .int (v44_7 + (1 : Int32))), (8, .int (p6.1 + ((16 : Int32) * v44_7))), (0, .ref (G.2.1 4)), (2, .int v44_2), (3, .int v44_3), (4, .int v44_4), (5, .int v44_5), (6, .int v44_6)]) hx hb dX2_draftPart_114 hl (k := 7) rfl rfl (by decide) rfl (fun ls hl => ?_)
            refine lv_goto (tgt := 44) hx hb dX2_draftPart_117 (by decide) ?_
            exact ih v44_2 v44_3 v44_4 v44_5 v44_6 (v44_7 + (1 : Int32)) p8.2 _ _ _ h hP hS (lv_sub hl [2, 3, 4, 5, 6, 7, 0] rfl) hK
          · have h := (if_pos c).symm.trans h
            refine lv_iload hx hb dX2_draftPart_92 (lv_at hl 4 rfl) ?_
            refine lv_iconst (v := 4) hx hb dX2_draftPart_94 (by decide) ?_
            refine lv_icmp_lt (tgt := 100) hx hb dX2_draftPart_95 (by decide) (fun c => ?_) (fun c => ?_)
            · have h := (if_pos c).symm.trans h
              refine lv_aload_n hx hb dX2_draftPart_100 rfl (lv_at hl 1 rfl) ?_
              refine va_get (D := G.1) (ci := 5) (v := .ref (G.2.1 9)) (C := RX2) (T := TX2) (N := 9) hx hb hts gx_X2 hown hT.2.1 hP 4 rfl rfl 7 (by decide) (hts _ gv_78) (fun _ h9 => h9) rfl dX2_draftPart_101 ?_
              refine lv_iload hx hb dX2_draftPart_104 (lv_at hl 4 rfl) ?_
              refine lv_iload hx hb dX2_draftPart_106 (lv_at hl 0 rfl) ?_
              obtain ⟨p9, gp9, h⟩ := Option.bind_eq_some_iff.mp h
              refine gw_cv (gw_rN (host := "Genericwood") X hP hS (gc_X8_put l G 9 ⟨by decide, by decide⟩ v44_4 (p6.1 + ((16 : Int32) * v44_7)) p8.2 _ gp9) gk_X8_put gv_813 gv_403 rfl rfl (Nat.le_of_ble_eq_true rfl) hl.1 ⟨rfl, rfl⟩ ⟨Nat.le_of_ble_eq_true rfl, Nat.le_of_ble_eq_true rfl⟩ ⟨Nat.le_of_ble_eq_true rfl, Nat.le_of_ble_eq_true rfl⟩ dX2_draftPart_108) hS (fun H locs hP hS => ?_)
              refine lv_iinc (v := (v44_4 + (1 : Int32))) (lv' := [(4, .int (v44_4 + (1 : Int32))), (8, .int (p6.1 + ((16 : Int32) * v44_7))), (0, .ref (G.2.1 4)), (2, .int v44_2), (3, .int v44_3), (5, .int v44_5), (6, .int v44_6), (7, .int v44_7)]) hx hb dX2_draftPart_111 hl (k := 4) rfl rfl (by decide) rfl (fun ls hl => ?_)
              refine lv_iinc (v := (v44_7 + (1 : Int32))) (lv' := [(7, .int (v44_7 + (1 : Int32))), (4, .int (v44_4 + (1 : Int32))), (8, .int (p6.1 + ((16 : Int32) * v44_7))), (0, .ref (G.2.1 4)), (2, .int v44_2), (3, .int v44_3), (5, .int v44_5), (6, .int v44_6)]) hx hb dX2_draftPart_114 hl (k := 7) rfl rfl (by decide) rfl (fun ls hl => ?_)
              refine lv_goto (tgt := 44) hx hb dX2_draftPart_117 (by decide) ?_
              exact ih v44_2 v44_3 (v44_4 + (1 : Int32)) v44_5 v44_6 (v44_7 + (1 : Int32)) p9 _ _ _ h hP hS (lv_sub hl [3, 4, 5, 1, 6, 7, 0] rfl) hK
            · have h := (if_neg c).symm.trans h
              refine lv_iconst (v := 5) hx hb dX2_draftPart_98 (by decide) ?_
              exact gw_ri X hP hS h dX2_draftPart_99
  have L6 : ∀ (n : Nat) (v6_2 : Int32) (v6_3 : Int32) (v6_4 : Int32) (v6_5 : Int32) (σ : gw_S) (H : Heap) (locs : List Loc) (ls : Array Slot), f_X2_draftPart_L6 n v6_2 v6_3 v6_4 v6_5 σ = some o → gw_P G σ H → va_S (gw_A G s.heap.size) s.heap H locs → lv_has ls 9 [(0, .ref (G.2.1 4)), (2, .int v6_2), (3, .int v6_3), (4, .int v6_4), (5, .int v6_5)] → W p l e { frames := 2, cells := 0, slots := 0, locals := 44 } s m [.ref (G.2.1 4), .int a0, .int a1, .int a2].toArray below meth c H locs 0 0 (MQ below (gw_QI G s.heap.size o) [.ref (G.2.1 4), .int a0, .int a1, .int a2].toArray s 0 0 (gw_A G s.heap.size)) (F0 m 6 ls []) := by
    intro n
    induction n with
    | zero =>
      intro v6_2 v6_3 v6_4 v6_5 σ H locs ls h
      exact absurd h (by rw [f_X2_draftPart_L6.eq_1]; exact fun h => nomatch h)
    | succ n ih =>
      intro v6_2 v6_3 v6_4 v6_5 σ H locs ls h hP hS hl
      rw [f_X2_draftPart_L6.eq_2] at h
      refine lv_iload hx hb dX2_draftPart_6 (lv_at hl 4 rfl) ?_
      refine lv_aload_n hx hb dX2_draftPart_8 rfl (lv_at hl 0 rfl) ?_
      refine lv_iload_n hx hb dX2_draftPart_9 rfl (lv_at hl 1 rfl) ?_
      obtain ⟨p1, gp1, h⟩ := Option.bind_eq_some_iff.mp h
      refine gw_ci (gw_rV (C := RX2) X hP hS (gc_X2_pairsOf l G v6_2 σ _ gp1) gk_X2_pairsOf gv_810 ⟨gv_313, gv_314⟩ (va_recv hT.2.1 hP (ci := 5) (q0 := 4) rfl rfl) rfl rfl (Nat.le_of_ble_eq_true rfl) hl.1 ⟨rfl, rfl⟩ ⟨Nat.le_of_ble_eq_true rfl, Nat.le_of_ble_eq_true rfl⟩ ⟨Nat.le_of_ble_eq_true rfl, Nat.le_of_ble_eq_true rfl⟩ dX2_draftPart_10) hS (fun H locs hP hS => ?_)
      refine lv_icmp_ge (tgt := 126) hx hb dX2_draftPart_13 (by decide) (fun c => ?_) (fun c => ?_)
      · have h := (if_pos c).symm.trans h
        refine lv_iload hx hb dX2_draftPart_126 (lv_at hl 3 rfl) ?_
        exact gw_ri X hP hS h dX2_draftPart_128
      · have h := (if_neg c).symm.trans h
        refine lv_aload_n hx hb dX2_draftPart_16 rfl (lv_at hl 0 rfl) ?_
        refine va_get (D := G.1) (ci := 5) (v := .ref (G.2.1 1)) (C := RX2) (T := TX2) (N := 9) hx hb hts gx_X2 hown hT.2.1 hP 4 rfl rfl 0 (by decide) (hts _ gv_71) (fun _ h9 => h9) rfl dX2_draftPart_17 ?_
        refine lv_iload_n hx hb dX2_draftPart_20 rfl (lv_at hl 2 rfl) ?_
        obtain ⟨p2, gp2, h⟩ := Option.bind_eq_some_iff.mp h
        refine gw_ci (gw_rV (C := RX3) X hP hS (gc_X3_down l G v6_3 p1.2 _ gp2) gk_X3_down gv_952 ⟨gv_271, gv_272⟩ (va_recv hT.2.1 hP (ci := 6) (q0 := 1) rfl rfl) rfl rfl (Nat.le_of_ble_eq_true rfl) hl.1 ⟨rfl, rfl⟩ ⟨Nat.le_of_ble_eq_true rfl, Nat.le_of_ble_eq_true rfl⟩ ⟨Nat.le_of_ble_eq_true rfl, Nat.le_of_ble_eq_true rfl⟩ dX2_draftPart_21) hS (fun H locs hP hS => ?_)
        refine lv_aload_n hx hb dX2_draftPart_24 rfl (lv_at hl 0 rfl) ?_
        refine va_get (D := G.1) (ci := 5) (v := .ref (G.2.1 1)) (C := RX2) (T := TX2) (N := 9) hx hb hts gx_X2 hown hT.2.1 hP 4 rfl rfl 0 (by decide) (hts _ gv_71) (fun _ h9 => h9) rfl dX2_draftPart_25 ?_
        refine lv_aload_n hx hb dX2_draftPart_28 rfl (lv_at hl 0 rfl) ?_
        refine lv_iload_n hx hb dX2_draftPart_29 rfl (lv_at hl 1 rfl) ?_
        refine lv_iload hx hb dX2_draftPart_30 (lv_at hl 4 rfl) ?_
        obtain ⟨p3, gp3, h⟩ := Option.bind_eq_some_iff.mp h
        refine gw_ci (gw_rV (C := RX2) X hP hS (gc_X2_promise l G v6_2 v6_5 p2.2 _ gp3) gk_X2_promise gv_843 ⟨gv_321, gv_322⟩ (va_recv hT.2.1 hP (ci := 5) (q0 := 4) rfl rfl) rfl rfl (Nat.le_of_ble_eq_true rfl) hl.1 ⟨rfl, rfl⟩ ⟨Nat.le_of_ble_eq_true rfl, Nat.le_of_ble_eq_true rfl⟩ ⟨Nat.le_of_ble_eq_true rfl, Nat.le_of_ble_eq_true rfl⟩ dX2_draftPart_32) hS (fun H locs hP hS => ?_)
        obtain ⟨p4, gp4, h⟩ := Option.bind_eq_some_iff.mp h
        refine gw_ci (gw_rV (C := RX3) X hP hS (gc_X3_down l G p3.1 p3.2 _ gp4) gk_X3_down gv_952 ⟨gv_271, gv_272⟩ (va_recv hT.2.1 hP (ci := 6) (q0 := 1) rfl rfl) rfl rfl (Nat.le_of_ble_eq_true rfl) hl.1 ⟨rfl, rfl⟩ ⟨Nat.le_of_ble_eq_true rfl, Nat.le_of_ble_eq_true rfl⟩ ⟨Nat.le_of_ble_eq_true rfl, Nat.le_of_ble_eq_true rfl⟩ dX2_draftPart_35) hS (fun H locs hP hS => ?_)
        refine lv_iand hx hb dX2_draftPart_38 ?_
        refine lv_istore (lv' := [(6, .int (p2.1 &&& p4.1)), (0, .ref (G.2.1 4)), (2, .int v6_2), (3, .int v6_3), (4, .int v6_4), (5, .int v6_5)]) hx hb dX2_draftPart_39 hl (by decide) rfl (fun ls hl => ?_)
        refine lv_iconst (v := 0) hx hb dX2_draftPart_41 (by decide) ?_
        refine lv_istore (lv' := [(7, .int (0 : Int32)), (6, .int (p2.1 &&& p4.1)), (0, .ref (G.2.1 4)), (2, .int v6_2), (3, .int v6_3), (4, .int v6_4), (5, .int v6_5)]) hx hb dX2_draftPart_42 hl (by decide) rfl (fun ls hl => ?_)
        refine L44 64 _ v6_2 v6_3 v6_4 v6_5 (p2.1 &&& p4.1) (0 : Int32) p4.2 _ _ _ h hP hS (lv_sub hl [2, 3, 4, 5, 6, 1, 0] rfl) (fun w44_2 w44_3 w44_4 w44_5 σ44 H locs ls h hP hS hl => ?_)
        refine lv_iinc (v := (w44_5 + (1 : Int32))) (lv' := [(5, .int (w44_5 + (1 : Int32))), (0, .ref (G.2.1 4)), (2, .int w44_2), (3, .int w44_3), (4, .int w44_4)]) hx hb dX2_draftPart_120 hl (k := 4) rfl rfl (by decide) rfl (fun ls hl => ?_)
        refine lv_goto (tgt := 6) hx hb dX2_draftPart_123 (by decide) ?_
        exact ih w44_2 w44_3 w44_4 (w44_5 + (1 : Int32)) σ44 _ _ _ h hP hS (lv_sub hl [1, 2, 3, 4, 0] rfl)
  unfold f_X2_draftPart at h
  refine lv_iload_n hx hb dX2_draftPart_0 rfl (lv_at hl 1 rfl) ?_
  refine lv_istore (lv' := [(4, .int a0), (0, .ref (G.2.1 4)), (1, .int a0), (2, .int a1), (3, .int a2)]) hx hb dX2_draftPart_1 hl (by decide) rfl (fun ls hl => ?_)
  refine lv_iconst (v := 0) hx hb dX2_draftPart_3 (by decide) ?_
  refine lv_istore (lv' := [(5, .int (0 : Int32)), (4, .int a0), (0, .ref (G.2.1 4)), (1, .int a0), (2, .int a1), (3, .int a2)]) hx hb dX2_draftPart_4 hl (by decide) rfl (fun ls hl => ?_)
  exact L6 64 a1 a2 a0 (0 : Int32) σ _ _ _ h hP hS (lv_sub hl [2, 4, 5, 1, 0] rfl)
def f_X2_draft (a0 : Int32) (a1 : Int32) (a2 : Int32) (a3 : Int32) (σ : gw_S) : Option (Int32 × gw_S) := ((f_X2_draftPart (0 : Int32) a0 a1 σ).bind fun p1 => (if p1.1 ≤ (4 : Int32) then ((f_X2_draftPart p1.1 a2 a3 p1.2).bind fun p2 => (some (p2.1, p2.2))) else (some (p1.1, p1.2))))
set_option maxHeartbeats 4000000 in
set_option maxRecDepth 100000 in
theorem gc_X2_draft (l : Launch) (G : gw_G) (a0 : Int32) (a1 : Int32) (a2 : Int32) (a3 : Int32) (σ : gw_S) (o : (Int32 × gw_S)) (h : f_X2_draft a0 a1 a2 a3 σ = some o) : gw_M (fun sz => gw_QI G sz o) l yX2_draft cX2_draft 6 (some .int) { frames := 3, cells := 0, slots := 0, locals := 72 } G [.ref (G.2.1 4), .int a0, .int a1, .int a2, .int a3] σ := by
  refine gw_en (own := RX2) (lv := [(0, .ref (G.2.1 4)), (1, .int a0), (2, .int a1), (3, .int a2), (4, .int a3)]) (by decide +kernel) rfl (Nat.le_of_ble_eq_true rfl) rfl ?_
  intro p e s m below meth c ls X hl hP
  obtain ⟨hx, hb, hml, hown, hts, -, -, hT, hZ, -⟩ := id X
  have hS : va_S (gw_A G s.heap.size) s.heap s.heap [] := va_S.rf
  unfold f_X2_draft at h
  refine lv_aload_n hx hb dX2_draft_0 rfl (lv_at hl 0 rfl) ?_
  refine lv_iconst (v := 0) hx hb dX2_draft_1 (by decide) ?_
  refine lv_iload_n hx hb dX2_draft_2 rfl (lv_at hl 1 rfl) ?_
  refine lv_iload_n hx hb dX2_draft_3 rfl (lv_at hl 2 rfl) ?_
  obtain ⟨p1, gp1, h⟩ := Option.bind_eq_some_iff.mp h
  refine gw_ci (gw_rV (C := RX2) X hP hS (gc_X2_draftPart l G (0 : Int32) a0 a1 σ _ gp1) gk_X2_draftPart gv_948 ⟨gv_950, gv_s16⟩ (va_recv hT.2.1 hP (ci := 5) (q0 := 4) rfl rfl) rfl rfl (Nat.le_of_ble_eq_true rfl) hl.1 ⟨rfl, rfl⟩ ⟨Nat.le_of_ble_eq_true rfl, Nat.le_of_ble_eq_true rfl⟩ ⟨Nat.le_of_ble_eq_true rfl, Nat.le_of_ble_eq_true rfl⟩ dX2_draft_4) hS (fun H locs hP hS => ?_)
  refine lv_istore (lv' := [(5, .int p1.1), (0, .ref (G.2.1 4)), (1, .int a0), (2, .int a1), (3, .int a2), (4, .int a3)]) hx hb dX2_draft_7 hl (by decide) rfl (fun ls hl => ?_)
  refine lv_iload hx hb dX2_draft_9 (lv_at hl 0 rfl) ?_
  refine lv_iconst (v := 4) hx hb dX2_draft_11 (by decide) ?_
  refine lv_icmp_le (tgt := 20) hx hb dX2_draft_12 (by decide) (fun c => ?_) (fun c => ?_)
  · have h := (if_pos c).symm.trans h
    refine lv_aload_n hx hb dX2_draft_20 rfl (lv_at hl 1 rfl) ?_
    refine lv_iload hx hb dX2_draft_21 (lv_at hl 0 rfl) ?_
    refine lv_iload_n hx hb dX2_draft_23 rfl (lv_at hl 4 rfl) ?_
    refine lv_iload hx hb dX2_draft_24 (lv_at hl 5 rfl) ?_
    obtain ⟨p2, gp2, h⟩ := Option.bind_eq_some_iff.mp h
    refine gw_ci (gw_rV (C := RX2) X hP hS (gc_X2_draftPart l G p1.1 a2 a3 p1.2 _ gp2) gk_X2_draftPart gv_948 ⟨gv_950, gv_s16⟩ (va_recv hT.2.1 hP (ci := 5) (q0 := 4) rfl rfl) rfl rfl (Nat.le_of_ble_eq_true rfl) hl.1 ⟨rfl, rfl⟩ ⟨Nat.le_of_ble_eq_true rfl, Nat.le_of_ble_eq_true rfl⟩ ⟨Nat.le_of_ble_eq_true rfl, Nat.le_of_ble_eq_true rfl⟩ dX2_draft_26) hS (fun H locs hP hS => ?_)
    exact gw_ri X hP hS h dX2_draft_29
  · have h := (if_neg c).symm.trans h
    refine lv_iload hx hb dX2_draft_15 (lv_at hl 0 rfl) ?_
    refine lv_goto (tgt := 29) hx hb dX2_draft_17 (by decide) ?_
    exact gw_ri X hP hS h dX2_draft_29
def f_X2_addDraft_L7 : Nat → Int32 → Int32 → Int32 → gw_S → Option (Int32 × gw_S)
  | 0, _, _, _, _ => none
  | n + 1, v7_1, v7_2, v7_3, σ => (if v7_1 ≤ v7_3 then (some (v7_2, σ)) else ((f_X8_at 9 v7_3 σ).bind fun p2 => ((f_X8_at 9 v7_3 p2.2).bind fun p3 => ((f_X2_addPair v7_2 (p2.1 &&& (15 : Int32)) (p3.1 >>> ((4 : Int32) &&& 31)) p3.2).bind fun p4 => (f_X2_addDraft_L7 n v7_1 v7_2 (v7_3 + (1 : Int32)) p4)))))
def f_X2_addDraft (a0 : Int32) (σ : gw_S) : Option (Int32 × gw_S) := ((f_X2_add  σ).bind fun p1 => (f_X2_addDraft_L7 64 a0 p1.1 (0 : Int32) p1.2))
set_option maxHeartbeats 4000000 in
set_option maxRecDepth 100000 in
theorem gc_X2_addDraft (l : Launch) (G : gw_G) (a0 : Int32) (σ : gw_S) (o : (Int32 × gw_S)) (h : f_X2_addDraft a0 σ = some o) : gw_M (fun sz => gw_QI G sz o) l yX2_addDraft cX2_addDraft 4 (some .int) { frames := 5, cells := 0, slots := 0, locals := 113 } G [.ref (G.2.1 4), .int a0] σ := by
  refine gw_en (own := RX2) (lv := [(0, .ref (G.2.1 4)), (1, .int a0)]) (by decide +kernel) rfl (Nat.le_of_ble_eq_true rfl) rfl ?_
  intro p e s m below meth c ls X hl hP
  obtain ⟨hx, hb, hml, hown, hts, -, -, hT, hZ, -⟩ := id X
  have hS : va_S (gw_A G s.heap.size) s.heap s.heap [] := va_S.rf
  have L7 : ∀ (n : Nat) (v7_1 : Int32) (v7_2 : Int32) (v7_3 : Int32) (σ : gw_S) (H : Heap) (locs : List Loc) (ls : Array Slot), f_X2_addDraft_L7 n v7_1 v7_2 v7_3 σ = some o → gw_P G σ H → va_S (gw_A G s.heap.size) s.heap H locs → lv_has ls 4 [(0, .ref (G.2.1 4)), (1, .int v7_1), (2, .int v7_2), (3, .int v7_3)] → W p l e { frames := 5, cells := 0, slots := 0, locals := 113 } s m [.ref (G.2.1 4), .int a0].toArray below meth c H locs 0 0 (MQ below (gw_QI G s.heap.size o) [.ref (G.2.1 4), .int a0].toArray s 0 0 (gw_A G s.heap.size)) (F0 m 7 ls []) := by
    intro n
    induction n with
    | zero =>
      intro v7_1 v7_2 v7_3 σ H locs ls h
      exact absurd h (by rw [f_X2_addDraft_L7.eq_1]; exact fun h => nomatch h)
    | succ n ih =>
      intro v7_1 v7_2 v7_3 σ H locs ls h hP hS hl
      rw [f_X2_addDraft_L7.eq_2] at h
      refine lv_iload_n hx hb dX2_addDraft_7 rfl (lv_at hl 3 rfl) ?_
      refine lv_iload_n hx hb dX2_addDraft_8 rfl (lv_at hl 1 rfl) ?_
      refine lv_icmp_ge (tgt := 44) hx hb dX2_addDraft_9 (by decide) (fun c => ?_) (fun c => ?_)
      · have h := (if_pos c).symm.trans h
        refine lv_iload_n hx hb dX2_addDraft_44 rfl (lv_at hl 2 rfl) ?_
        exact gw_ri X hP hS h dX2_addDraft_45
      · have h := (if_neg c).symm.trans h
        refine lv_aload_n hx hb dX2_addDraft_12 rfl (lv_at hl 0 rfl) ?_
        refine lv_iload_n hx hb dX2_addDraft_13 rfl (lv_at hl 2 rfl) ?_
        refine lv_aload_n hx hb dX2_addDraft_14 rfl (lv_at hl 0 rfl) ?_
        refine va_get (D := G.1) (ci := 5) (v := .ref (G.2.1 9)) (C := RX2) (T := TX2) (N := 9) hx hb hts gx_X2 hown hT.2.1 hP 4 rfl rfl 7 (by decide) (hts _ gv_78) (fun _ h9 => h9) rfl dX2_addDraft_15 ?_
        refine lv_iload_n hx hb dX2_addDraft_18 rfl (lv_at hl 3 rfl) ?_
        obtain ⟨p2, gp2, h⟩ := Option.bind_eq_some_iff.mp h
        refine gw_ci (gw_rN (host := "Genericwood") X hP hS (gc_X8_at l G 9 ⟨by decide, by decide⟩ v7_3 σ _ gp2) gk_X8_at gv_311 gv_275 rfl rfl (Nat.le_of_ble_eq_true rfl) hl.1 ⟨rfl, rfl⟩ ⟨Nat.le_of_ble_eq_true rfl, Nat.le_of_ble_eq_true rfl⟩ ⟨Nat.le_of_ble_eq_true rfl, Nat.le_of_ble_eq_true rfl⟩ dX2_addDraft_19) hS (fun H locs hP hS => ?_)
        refine lv_bipush (v := 15) hx hb dX2_addDraft_22 (by decide) ?_
        refine lv_iand hx hb dX2_addDraft_24 ?_
        refine lv_aload_n hx hb dX2_addDraft_25 rfl (lv_at hl 0 rfl) ?_
        refine va_get (D := G.1) (ci := 5) (v := .ref (G.2.1 9)) (C := RX2) (T := TX2) (N := 9) hx hb hts gx_X2 hown hT.2.1 hP 4 rfl rfl 7 (by decide) (hts _ gv_78) (fun _ h9 => h9) rfl dX2_addDraft_26 ?_
        refine lv_iload_n hx hb dX2_addDraft_29 rfl (lv_at hl 3 rfl) ?_
        obtain ⟨p3, gp3, h⟩ := Option.bind_eq_some_iff.mp h
        refine gw_ci (gw_rN (host := "Genericwood") X hP hS (gc_X8_at l G 9 ⟨by decide, by decide⟩ v7_3 p2.2 _ gp3) gk_X8_at gv_311 gv_275 rfl rfl (Nat.le_of_ble_eq_true rfl) hl.1 ⟨rfl, rfl⟩ ⟨Nat.le_of_ble_eq_true rfl, Nat.le_of_ble_eq_true rfl⟩ ⟨Nat.le_of_ble_eq_true rfl, Nat.le_of_ble_eq_true rfl⟩ dX2_addDraft_30) hS (fun H locs hP hS => ?_)
        refine lv_iconst (v := 4) hx hb dX2_addDraft_33 (by decide) ?_
        refine lv_ishr hx hb dX2_addDraft_34 ?_
        obtain ⟨p4, gp4, h⟩ := Option.bind_eq_some_iff.mp h
        refine gw_cv (gw_rV (C := RX2) X hP hS (gc_X2_addPair l G v7_2 (p2.1 &&& (15 : Int32)) (p3.1 >>> ((4 : Int32) &&& 31)) p3.2 _ gp4) gk_X2_addPair gv_892 ⟨gv_851, gv_852⟩ (va_recv hT.2.1 hP (ci := 5) (q0 := 4) rfl rfl) rfl rfl (Nat.le_of_ble_eq_true rfl) hl.1 ⟨rfl, rfl⟩ ⟨Nat.le_of_ble_eq_true rfl, Nat.le_of_ble_eq_true rfl⟩ ⟨Nat.le_of_ble_eq_true rfl, Nat.le_of_ble_eq_true rfl⟩ dX2_addDraft_35) hS (fun H locs hP hS => ?_)
        refine lv_iinc (v := (v7_3 + (1 : Int32))) (lv' := [(3, .int (v7_3 + (1 : Int32))), (0, .ref (G.2.1 4)), (1, .int v7_1), (2, .int v7_2)]) hx hb dX2_addDraft_38 hl (k := 3) rfl rfl (by decide) rfl (fun ls hl => ?_)
        refine lv_goto (tgt := 7) hx hb dX2_addDraft_41 (by decide) ?_
        exact ih v7_1 v7_2 (v7_3 + (1 : Int32)) p4 _ _ _ h hP hS (lv_sub hl [1, 2, 3, 0] rfl)
  unfold f_X2_addDraft at h
  refine lv_aload_n hx hb dX2_addDraft_0 rfl (lv_at hl 0 rfl) ?_
  obtain ⟨p1, gp1, h⟩ := Option.bind_eq_some_iff.mp h
  refine gw_ci (gw_rV (C := RX2) X hP hS (gc_X2_add l G  σ _ gp1) gk_X2_add gv_891 ⟨gv_799, gv_800⟩ (va_recv hT.2.1 hP (ci := 5) (q0 := 4) rfl rfl) rfl rfl (Nat.le_of_ble_eq_true rfl) hl.1 ⟨rfl, rfl⟩ ⟨Nat.le_of_ble_eq_true rfl, Nat.le_of_ble_eq_true rfl⟩ ⟨Nat.le_of_ble_eq_true rfl, Nat.le_of_ble_eq_true rfl⟩ dX2_addDraft_1) hS (fun H locs hP hS => ?_)
  refine lv_istore_n (lv' := [(2, .int p1.1), (0, .ref (G.2.1 4)), (1, .int a0)]) hx hb dX2_addDraft_4 rfl hl (by decide) rfl (fun ls hl => ?_)
  refine lv_iconst (v := 0) hx hb dX2_addDraft_5 (by decide) ?_
  refine lv_istore_n (lv' := [(3, .int (0 : Int32)), (2, .int p1.1), (0, .ref (G.2.1 4)), (1, .int a0)]) hx hb dX2_addDraft_6 rfl hl (by decide) rfl (fun ls hl => ?_)
  exact L7 64 a0 p1.1 (0 : Int32) p1.2 _ _ _ h hP hS (lv_sub hl [2, 3, 1, 0] rfl)
