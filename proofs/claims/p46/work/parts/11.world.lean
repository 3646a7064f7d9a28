theorem gv_201 : Cond.fieldLink RX7 9 "Genericwood$World" "codes" "[I" ∈ gw_L := gw_tab 201 (by decide +kernel) (by decide +kernel)
theorem gv_512 : Cond.methodLinkNest RX7 63 yX8_at "Genericwood" ∈ gw_L := gw_tab 512 (by decide +kernel) (by decide +kernel)
theorem gv_199 : Cond.fieldLink RX7 22 "Genericwood$World" "names" "LGenericwood$Names;" ∈ gw_L := gw_tab 199 (by decide +kernel) (by decide +kernel)
theorem gv_499 : Cond.methodLink RX7 30 yX2_size ∈ gw_L := gw_tab 499 (by decide +kernel) (by decide +kernel)
theorem gv_500 : Cond.methodLink RX7 36 yX2_pairsOf ∈ gw_L := gw_tab 500 (by decide +kernel) (by decide +kernel)
theorem gv_501 : Cond.methodLink RX7 40 yX2_promise ∈ gw_L := gw_tab 501 (by decide +kernel) (by decide +kernel)
theorem gv_198 : Cond.fieldLink RX7 18 "Genericwood$World" "order" "LGenericwood$Order;" ∈ gw_L := gw_tab 198 (by decide +kernel) (by decide +kernel)
theorem gv_506 : Cond.methodLink RX7 49 yX3_stands ∈ gw_L := gw_tab 506 (by decide +kernel) (by decide +kernel)
theorem gv_507 : Cond.methodLink RX7 53 yX2_lower ∈ gw_L := gw_tab 507 (by decide +kernel) (by decide +kernel)
theorem gv_511 : Cond.code yX7_codeOf cX7_codeOf 2 (some .int) ∈ gw_L := gw_tab 511 (by decide +kernel) (by decide +kernel)
theorem gv_9 : Cond.initialized yX7_codeOf.cls ∈ gw_L := gw_tab 9 (by decide +kernel) (by decide +kernel)
theorem gk_X7_codeOf : gw_K yX7_codeOf cX7_codeOf 2 (some .int) 1 := ⟨gv_511, gv_9, by decide +kernel, by decide +kernel⟩
theorem gv_509 : Cond.instanceMethod yX7_codeOf ∈ gw_L := gw_tab 509 (by decide +kernel) (by decide +kernel)
theorem gv_508 : Cond.methodLink RX7 56 yX7_codeOf ∈ gw_L := gw_tab 508 (by decide +kernel) (by decide +kernel)
theorem gv_510 : Cond.selects RX7 yX7_codeOf yX7_codeOf ∈ gw_L := gw_tab 510 (by decide +kernel) (by decide +kernel)
theorem gv_502 : Cond.methodLink RX7 44 yX3_image ∈ gw_L := gw_tab 502 (by decide +kernel) (by decide +kernel)
theorem gv_513 : Cond.methodLinkNest RX7 59 yX8_put "Genericwood" ∈ gw_L := gw_tab 513 (by decide +kernel) (by decide +kernel)
theorem gv_530 : Cond.methodLinkNest RX7 108 yX8_isLetter "Genericwood" ∈ gw_L := gw_tab 530 (by decide +kernel) (by decide +kernel)
theorem gv_202 : Cond.fieldLink RX7 15 "Genericwood$World" "letters" "[I" ∈ gw_L := gw_tab 202 (by decide +kernel) (by decide +kernel)
theorem gv_200 : Cond.fieldLink RX7 26 "Genericwood$World" "formulas" "LGenericwood$Formulas;" ∈ gw_L := gw_tab 200 (by decide +kernel) (by decide +kernel)
theorem gv_523 : Cond.methodLink RX7 90 yX1_first ∈ gw_L := gw_tab 523 (by decide +kernel) (by decide +kernel)
theorem gv_529 : Cond.code yX7_meant cX7_meant 2 (some .int) ∈ gw_L := gw_tab 529 (by decide +kernel) (by decide +kernel)
theorem gk_X7_meant : gw_K yX7_meant cX7_meant 2 (some .int) 1 := ⟨gv_529, gv_9, by decide +kernel, by decide +kernel⟩
theorem gv_528 : Cond.instanceMethod yX7_meant ∈ gw_L := gw_tab 528 (by decide +kernel) (by decide +kernel)
theorem gv_526 : Cond.methodLink RX7 99 yX7_meant ∈ gw_L := gw_tab 526 (by decide +kernel) (by decide +kernel)
theorem gv_s3 : Cond.selects RX7 yX7_meant yX7_meant ∈ gw_L := gw_sel 3 (by decide +kernel) (by decide +kernel)
theorem gv_535 : Cond.methodLink RX7 105 yX1_letter ∈ gw_L := gw_tab 535 (by decide +kernel) (by decide +kernel)
theorem gv_525 : Cond.methodLink RX7 96 yX1_kind ∈ gw_L := gw_tab 525 (by decide +kernel) (by decide +kernel)
theorem gv_494 : Cond.methodLinkNest RX7 74 yX8_contains "Genericwood" ∈ gw_L := gw_tab 494 (by decide +kernel) (by decide +kernel)
theorem gv_524 : Cond.methodLink RX7 93 yX1_second ∈ gw_L := gw_tab 524 (by decide +kernel) (by decide +kernel)
theorem gv_521 : Cond.code yX7_isSo cX7_isSo 5 (some .boolean) ∈ gw_L := gw_tab 521 (by decide +kernel) (by decide +kernel)
theorem gk_X7_isSo : gw_K yX7_isSo cX7_isSo 5 (some .boolean) 2 := ⟨gv_521, gv_9, by decide +kernel, by decide +kernel⟩
theorem gv_520 : Cond.instanceMethod yX7_isSo ∈ gw_L := gw_tab 520 (by decide +kernel) (by decide +kernel)
theorem gv_518 : Cond.methodLink RX7 67 yX7_isSo ∈ gw_L := gw_tab 518 (by decide +kernel) (by decide +kernel)
theorem gv_s2 : Cond.selects RX7 yX7_isSo yX7_isSo ∈ gw_L := gw_sel 2 (by decide +kernel) (by decide +kernel)
theorem gv_522 : Cond.methodLink RX7 85 yX1_knows ∈ gw_L := gw_tab 522 (by decide +kernel) (by decide +kernel)
theorem gv_534 : Cond.code yX7_isBoundSo cX7_isBoundSo 9 (some .boolean) ∈ gw_L := gw_tab 534 (by decide +kernel) (by decide +kernel)
theorem gk_X7_isBoundSo : gw_K yX7_isBoundSo cX7_isBoundSo 9 (some .boolean) 2 := ⟨gv_534, gv_9, by decide +kernel, by decide +kernel⟩
theorem gv_533 : Cond.instanceMethod yX7_isBoundSo ∈ gw_L := gw_tab 533 (by decide +kernel) (by decide +kernel)
theorem gv_531 : Cond.methodLink RX7 102 yX7_isBoundSo ∈ gw_L := gw_tab 531 (by decide +kernel) (by decide +kernel)
theorem gv_s4 : Cond.selects RX7 yX7_isBoundSo yX7_isBoundSo ∈ gw_L := gw_sel 4 (by decide +kernel) (by decide +kernel)
theorem gv_492 : Cond.methodLink RX7 70 yX3_ends ∈ gw_L := gw_tab 492 (by decide +kernel) (by decide +kernel)
theorem gv_493 : Cond.methodLink RX7 73 yX3_size ∈ gw_L := gw_tab 493 (by decide +kernel) (by decide +kernel)
theorem gv_498 : Cond.code yX7_enter cX7_enter 7 none ∈ gw_L := gw_tab 498 (by decide +kernel) (by decide +kernel)
theorem gk_X7_enter : gw_K yX7_enter cX7_enter 7 none 2 := ⟨gv_498, gv_9, by decide +kernel, by decide +kernel⟩
theorem gv_496 : Cond.instanceMethod yX7_enter ∈ gw_L := gw_tab 496 (by decide +kernel) (by decide +kernel)
theorem gv_495 : Cond.methodLink RX7 77 yX7_enter ∈ gw_L := gw_tab 495 (by decide +kernel) (by decide +kernel)
theorem gv_497 : Cond.selects RX7 yX7_enter yX7_enter ∈ gw_L := gw_tab 497 (by decide +kernel) (by decide +kernel)
theorem gv_517 : Cond.code yX7_agrees cX7_agrees 2 (some .boolean) ∈ gw_L := gw_tab 517 (by decide +kernel) (by decide +kernel)
theorem gk_X7_agrees : gw_K yX7_agrees cX7_agrees 2 (some .boolean) 1 := ⟨gv_517, gv_9, by decide +kernel, by decide +kernel⟩
theorem gv_515 : Cond.instanceMethod yX7_agrees ∈ gw_L := gw_tab 515 (by decide +kernel) (by decide +kernel)
theorem gv_514 : Cond.methodLink RX7 81 yX7_agrees ∈ gw_L := gw_tab 514 (by decide +kernel) (by decide +kernel)
theorem gv_516 : Cond.selects RX7 yX7_agrees yX7_agrees ∈ gw_L := gw_tab 516 (by decide +kernel) (by decide +kernel)
def f_X7_codeOf (a0 : Int32) (σ : gw_S) : Option (Int32 × gw_S) := ((f_X8_at 31 a0 σ).bind fun p1 => (some (p1.1, p1.2)))
set_option maxHeartbeats 4000000 in
set_option maxRecDepth 100000 in
theorem gc_X7_codeOf (l : Launch) (G : gw_G) (a0 : Int32) (σ : gw_S) (o : (Int32 × gw_S)) (h : f_X7_codeOf a0 σ = some o) : gw_M (fun sz => gw_QI G sz o) l yX7_codeOf cX7_codeOf 2 (some .int) { frames := 1, cells := 0, slots := 0, locals := 21 } G [.ref (G.2.1 30), .int a0] σ := by
  refine gw_en (own := RX7) (lv := [(0, .ref (G.2.1 30)), (1, .int a0)]) (by decide +kernel) rfl (Nat.le_of_ble_eq_true rfl) rfl ?_
  intro p e s m below meth c ls X hl hP
  obtain ⟨hx, hb, hml, hown, hts, -, -, hT, hZ, -⟩ := id X
  have hS : va_S (gw_A G s.heap.size) s.heap s.heap [] := va_S.rf
  unfold f_X7_codeOf at h
  refine lv_aload_n hx hb dX7_codeOf_0 rfl (lv_at hl 0 rfl) ?_
  refine va_get (D := G.1) (ci := 9) (v := .ref (G.2.1 31)) (C := RX7) (T := TX7) (N := 5) hx hb hts gx_X7 hown hT.2.1 hP 30 rfl rfl 3 (by decide) (hts _ gv_201) (fun _ h9 => h9) rfl dX7_codeOf_1 ?_
  refine lv_iload_n hx hb dX7_codeOf_4 rfl (lv_at hl 1 rfl) ?_
  obtain ⟨p1, gp1, h⟩ := Option.bind_eq_some_iff.mp h
  refine gw_ci (gw_rN (host := "Genericwood") X hP hS (gc_X8_at l G 31 ⟨by decide, by decide⟩ a0 σ _ gp1) gk_X8_at gv_512 gv_275 rfl rfl (Nat.le_of_ble_eq_true rfl) hl.1 ⟨rfl, rfl⟩ ⟨Nat.le_of_ble_eq_true rfl, Nat.le_of_ble_eq_true rfl⟩ ⟨Nat.le_of_ble_eq_true rfl, Nat.le_of_ble_eq_true rfl⟩ dX7_codeOf_5) hS (fun H locs hP hS => ?_)
  exact gw_ri X hP hS h dX7_codeOf_8
def f_X7_enter_L19 : Nat → (Int32 → Int32 → Int32 → Int32 → gw_S → Option gw_S) → Int32 → Int32 → Int32 → Int32 → Int32 → gw_S → Option gw_S
  | 0, _, _, _, _, _, _, _ => none
  | n + 1, K, v19_1, v19_2, v19_3, v19_4, v19_5, σ => ((f_X2_pairsOf v19_3 σ).bind fun p2 => (if p2.1 ≤ v19_5 then (K v19_1 v19_2 v19_3 v19_4 p2.2) else ((f_X2_promise v19_3 v19_5 p2.2).bind fun p3 => (if v19_2 = 0 then ((f_X3_stands v19_1 p3.1 p3.2).bind fun p4 => (if p4.1 = 0 then (f_X7_enter_L19 n K v19_1 v19_2 v19_3 v19_4 (v19_5 + (1 : Int32)) p4.2) else ((f_X2_lower v19_3 v19_5 p4.2).bind fun p5 => ((f_X7_codeOf p5.1 p5.2).bind fun p6 => (f_X7_enter_L19 n K v19_1 v19_2 v19_3 (v19_4 ||| ((1 : Int32) <<< (p6.1 &&& 31))) (v19_5 + (1 : Int32)) p6.2))))) else ((f_X3_image p3.1 p3.2).bind fun p7 => ((f_X3_stands v19_1 p7.1 p7.2).bind fun p8 => (if p8.1 = 0 then (f_X7_enter_L19 n K v19_1 v19_2 v19_3 v19_4 (v19_5 + (1 : Int32)) p8.2) else ((f_X2_lower v19_3 v19_5 p8.2).bind fun p9 => ((f_X7_codeOf p9.1 p9.2).bind fun p10 => (f_X7_enter_L19 n K v19_1 v19_2 v19_3 (v19_4 ||| ((1 : Int32) <<< (p10.1 &&& 31))) (v19_5 + (1 : Int32)) p10.2))))))))))
def f_X7_enter_L2 : Nat → Int32 → Int32 → Int32 → gw_S → Option gw_S
  | 0, _, _, _, _ => none
  | n + 1, v2_1, v2_2, v2_3, σ => ((f_X2_size  σ).bind fun p1 => (if p1.1 ≤ v2_3 then (some p1.2) else (f_X7_enter_L19 64 (fun w19_1 w19_2 w19_3 w19_4 σ19 => ((f_X8_put 31 w19_3 w19_4 σ19).bind fun p11 => (f_X7_enter_L2 n w19_1 w19_2 (w19_3 + (1 : Int32)) p11))) v2_1 v2_2 v2_3 (0 : Int32) (0 : Int32) p1.2)))
def f_X7_enter (a0 : Int32) (a1 : Int32) (σ : gw_S) : Option gw_S := (f_X7_enter_L2 64 a0 a1 (0 : Int32) σ)
set_option maxHeartbeats 4000000 in
set_option maxRecDepth 100000 in
theorem gc_X7_enter (l : Launch) (G : gw_G) (a0 : Int32) (a1 : Int32) (σ : gw_S) (o : gw_S) (h : f_X7_enter a0 a1 σ = some o) : gw_M (fun sz => gw_QV G sz o) l yX7_enter cX7_enter 7 none { frames := 3, cells := 0, slots := 0, locals := 64 } G [.ref (G.2.1 30), .int a0, .int a1] σ := by
  refine gw_en (own := RX7) (lv := [(0, .ref (G.2.1 30)), (1, .int a0), (2, .int a1)]) (by decide +kernel) rfl (Nat.le_of_ble_eq_true rfl) rfl ?_
  intro p e s m below meth c ls X hl hP
  obtain ⟨hx, hb, hml, hown, hts, -, -, hT, hZ, -⟩ := id X
  have hS : va_S (gw_A G s.heap.size) s.heap s.heap [] := va_S.rf
  have L19 : ∀ (n : Nat) (K : Int32 → Int32 → Int32 → Int32 → gw_S → Option gw_S) (v19_1 : Int32) (v19_2 : Int32) (v19_3 : Int32) (v19_4 : Int32) (v19_5 : Int32) (σ : gw_S) (H : Heap) (locs : List Loc) (ls : Array Slot), f_X7_enter_L19 n K v19_1 v19_2 v19_3 v19_4 v19_5 σ = some o → gw_P G σ H → va_S (gw_A G s.heap.size) s.heap H locs → lv_has ls 7 [(0, .ref (G.2.1 30)), (1, .int v19_1), (2, .int v19_2), (3, .int v19_3), (4, .int v19_4), (5, .int v19_5)] → (∀ (w1 : Int32) (w2 : Int32) (w3 : Int32) (w4 : Int32) (σ : gw_S) (H : Heap) (locs : List Loc) (ls : Array Slot), K w1 w2 w3 w4 σ = some o → gw_P G σ H → va_S (gw_A G s.heap.size) s.heap H locs → lv_has ls 7 [(0, .ref (G.2.1 30)), (1, .int w1), (2, .int w2), (3, .int w3), (4, .int w4)] → W p l e { frames := 3, cells := 0, slots := 0, locals := 64 } s m [.ref (G.2.1 30), .int a0, .int a1].toArray below meth c H locs 0 0 (MQ below (gw_QV G s.heap.size o) [.ref (G.2.1 30), .int a0, .int a1].toArray s 0 0 (gw_A G s.heap.size)) (F0 m 100 ls [])) → W p l e { frames := 3, cells := 0, slots := 0, locals := 64 } s m [.ref (G.2.1 30), .int a0, .int a1].toArray below meth c H locs 0 0 (MQ below (gw_QV G s.heap.size o) [.ref (G.2.1 30), .int a0, .int a1].toArray s 0 0 (gw_A G s.heap.size)) (F0 m 19 ls []) := by
    intro n K
    induction n with
    | zero =>
      intro v19_1 v19_2 v19_3 v19_4 v19_5 σ H locs ls h
      exact absurd h (by rw [f_X7_enter_L19.eq_1]; exact fun h => nomatch h)
    | succ n ih =>
      intro v19_1 v19_2 v19_3 v19_4 v19_5 σ H locs ls h hP hS hl hK
      rw [f_X7_enter_L19.eq_2] at h
      refine lv_iload hx hb dX7_enter_19 (lv_at hl 5 rfl) ?_
      refine lv_aload_n hx hb dX7_enter_21 rfl (lv_at hl 0 rfl) ?_
      refine va_get (D := G.1) (ci := 9) (v := .ref (G.2.1 4)) (C := RX7) (T := TX7) (N := 5) hx hb hts gx_X7 hown hT.2.1 hP 30 rfl rfl 1 (by decide) (hts _ gv_199) (fun _ h9 => h9) rfl dX7_enter_22 ?_
      refine lv_iload_n hx hb dX7_enter_25 rfl (lv_at hl 3 rfl) ?_
      obtain ⟨p2, gp2, h⟩ := Option.bind_eq_some_iff.mp h
      refine gw_ci (gw_rV (C := RX2) X hP hS (gc_X2_pairsOf l G v19_3 σ _ gp2) gk_X2_pairsOf gv_500 ⟨gv_313, gv_314⟩ (va_recv hT.2.1 hP (ci := 5) (q0 := 4) rfl rfl) rfl rfl (Nat.le_of_ble_eq_true rfl) hl.1 ⟨rfl, rfl⟩ ⟨Nat.le_of_ble_eq_true rfl, Nat.le_of_ble_eq_true rfl⟩ ⟨Nat.le_of_ble_eq_true rfl, Nat.le_of_ble_eq_true rfl⟩ dX7_enter_26) hS (fun H locs hP hS => ?_)
      refine lv_icmp_ge (tgt := 100) hx hb dX7_enter_29 (by decide) (fun c => ?_) (fun c => ?_)
      · have h := (if_pos c).symm.trans h
        exact hK v19_1 v19_2 v19_3 v19_4 p2.2 _ _ _ h hP hS (lv_sub hl [0, 1, 2, 3, 4] rfl)
      · have h := (if_neg c).symm.trans h
        refine lv_aload_n hx hb dX7_enter_32 rfl (lv_at hl 0 rfl) ?_
        refine va_get (D := G.1) (ci := 9) (v := .ref (G.2.1 4)) (C := RX7) (T := TX7) (N := 5) hx hb hts gx_X7 hown hT.2.1 hP 30 rfl rfl 1 (by decide) (hts _ gv_199) (fun _ h9 => h9) rfl dX7_enter_33 ?_
        refine lv_iload_n hx hb dX7_enter_36 rfl (lv_at hl 3 rfl) ?_
        refine lv_iload hx hb dX7_enter_37 (lv_at hl 5 rfl) ?_
        obtain ⟨p3, gp3, h⟩ := Option.bind_eq_some_iff.mp h
        refine gw_ci (gw_rV (C := RX2) X hP hS (gc_X2_promise l G v19_3 v19_5 p2.2 _ gp3) gk_X2_promise gv_501 ⟨gv_321, gv_322⟩ (va_recv hT.2.1 hP (ci := 5) (q0 := 4) rfl rfl) rfl rfl (Nat.le_of_ble_eq_true rfl) hl.1 ⟨rfl, rfl⟩ ⟨Nat.le_of_ble_eq_true rfl, Nat.le_of_ble_eq_true rfl⟩ ⟨Nat.le_of_ble_eq_true rfl, Nat.le_of_ble_eq_true rfl⟩ dX7_enter_39) hS (fun H locs hP hS => ?_)
        refine lv_istore (lv' := [(6, .int p3.1), (0, .ref (G.2.1 30)), (1, .int v19_1), (2, .int v19_2), (3, .int v19_3), (4, .int v19_4), (5, .int v19_5)]) hx hb dX7_enter_42 hl (by decide) rfl (fun ls hl => ?_)
        refine lv_aload_n hx hb dX7_enter_44 rfl (lv_at hl 1 rfl) ?_
        refine va_get (D := G.1) (ci := 9) (v := .ref (G.2.1 1)) (C := RX7) (T := TX7) (N := 5) hx hb hts gx_X7 hown hT.2.1 hP 30 rfl rfl 0 (by decide) (hts _ gv_198) (fun _ h9 => h9) rfl dX7_enter_45 ?_
        refine lv_iload_n hx hb dX7_enter_48 rfl (lv_at hl 2 rfl) ?_
        refine lv_iload_n hx hb dX7_enter_49 rfl (lv_at hl 3 rfl) ?_
        refine lv_if_eq (tgt := 65) hx hb dX7_enter_50 (by decide) (fun c => ?_) (fun c => ?_)
        · have h := (if_pos c).symm.trans h
          refine lv_iload hx hb dX7_enter_65 (lv_at hl 0 rfl) ?_
          obtain ⟨p4, gp4, h⟩ := Option.bind_eq_some_iff.mp h
          refine gw_cz (gw_rV (C := RX3) X hP hS (gc_X3_stands l G v19_1 p3.1 p3.2 _ gp4) gk_X3_stands gv_506 ⟨gv_267, gv_268⟩ (va_recv hT.2.1 hP (ci := 6) (q0 := 1) rfl rfl) rfl rfl (Nat.le_of_ble_eq_true rfl) hl.1 ⟨rfl, rfl⟩ ⟨Nat.le_of_ble_eq_true rfl, Nat.le_of_ble_eq_true rfl⟩ ⟨Nat.le_of_ble_eq_true rfl, Nat.le_of_ble_eq_true rfl⟩ dX7_enter_67) hS (fun H locs hb_p4 hP hS => ?_)
          refine lv_if_eq (tgt := 94) hx hb dX7_enter_70 (by decide) (fun c => ?_) (fun c => ?_)
          · have h := (if_pos c).symm.trans h
            refine lv_iinc (v := (v19_5 + (1 : Int32))) (lv' := [(5, .int (v19_5 + (1 : Int32))), (6, .int p3.1), (0, .ref (G.2.1 30)), (1, .int v19_1), (2, .int v19_2), (3, .int v19_3), (4, .int v19_4)]) hx hb dX7_enter_94 hl (k := 6) rfl rfl (by decide) rfl (fun ls hl => ?_)
            refine lv_goto (tgt := 19) hx hb dX7_enter_97 (by decide) ?_
            exact ih v19_1 v19_2 v19_3 v19_4 (v19_5 + (1 : Int32)) p4.2 _ _ _ h hP hS (lv_sub hl [2, 3, 4, 5, 6, 0] rfl) hK
          · have h := (if_neg c).symm.trans h
            refine lv_iload hx hb dX7_enter_73 (lv_at hl 5 rfl) ?_
            refine lv_iconst (v := 1) hx hb dX7_enter_75 (by decide) ?_
            refine lv_aload_n hx hb dX7_enter_76 rfl (lv_at hl 1 rfl) ?_
            refine lv_aload_n hx hb dX7_enter_77 rfl (lv_at hl 1 rfl) ?_
            refine va_get (D := G.1) (ci := 9) (v := .ref (G.2.1 4)) (C := RX7) (T := TX7) (N := 5) hx hb hts gx_X7 hown hT.2.1 hP 30 rfl rfl 1 (by decide) (hts _ gv_199) (fun _ h9 => h9) rfl dX7_enter_78 ?_
            refine lv_iload_n hx hb dX7_enter_81 rfl (lv_at hl 4 rfl) ?_
            refine lv_iload hx hb dX7_enter_82 (lv_at hl 6 rfl) ?_
            obtain ⟨p5, gp5, h⟩ := Option.bind_eq_some_iff.mp h
            refine gw_ci (gw_rV (C := RX2) X hP hS (gc_X2_lower l G v19_3 v19_5 p4.2 _ gp5) gk_X2_lower gv_507 ⟨gv_317, gv_318⟩ (va_recv hT.2.1 hP (ci := 5) (q0 := 4) rfl rfl) rfl rfl (Nat.le_of_ble_eq_true rfl) hl.1 ⟨rfl, rfl⟩ ⟨Nat.le_of_ble_eq_true rfl, Nat.le_of_ble_eq_true rfl⟩ ⟨Nat.le_of_ble_eq_true rfl, Nat.le_of_ble_eq_true rfl⟩ dX7_enter_84) hS (fun H locs hP hS => ?_)
            obtain ⟨p6, gp6, h⟩ := Option.bind_eq_some_iff.mp h
            refine gw_ci (gw_rV (C := RX7) X hP hS (gc_X7_codeOf l G p5.1 p5.2 _ gp6) gk_X7_codeOf gv_508 ⟨gv_509, gv_510⟩ (va_recv hT.2.1 hP (ci := 9) (q0 := 30) rfl rfl) rfl rfl (Nat.le_of_ble_eq_true rfl) hl.1 ⟨rfl, rfl⟩ ⟨Nat.le_of_ble_eq_true rfl, Nat.le_of_ble_eq_true rfl⟩ ⟨Nat.le_of_ble_eq_true rfl, Nat.le_of_ble_eq_true rfl⟩ dX7_enter_87) hS (fun H locs hP hS => ?_)
            refine lv_ishl hx hb dX7_enter_90 ?_
            refine lv_ior hx hb dX7_enter_91 ?_
            refine lv_istore (lv' := [(4, .int (v19_4 ||| ((1 : Int32) <<< (p6.1 &&& 31)))), (6, .int p3.1), (0, .ref (G.2.1 30)), (1, .int v19_1), (2, .int v19_2), (3, .int v19_3), (5, .int v19_5)]) hx hb dX7_enter_92 hl (by decide) rfl (fun ls hl => ?_)
            refine lv_iinc (v := (v19_5 + (1 : Int32))) (lv' := [(5, .int (v19_5 + (1 : Int32))), (4, .int (v19_4 ||| ((1 : Int32) <<< (p6.1 &&& 31)))), (6, .int p3.1), (0, .ref (G.2.1 30)), (1, .int v19_1), (2, .int v19_2), (3, .int v19_3)]) hx hb dX7_enter_94 hl (k := 6) rfl rfl (by decide) rfl (fun ls hl => ?_)
            refine lv_goto (tgt := 19) hx hb dX7_enter_97 (by decide) ?_
            exact ih v19_1 v19_2 v19_3 (v19_4 ||| ((1 : Int32) <<< (p6.1 &&& 31))) (v19_5 + (1 : Int32)) p6.2 _ _ _ h hP hS (lv_sub hl [3, 4, 5, 6, 1, 0] rfl) hK
        · have h := (if_neg c).symm.trans h
          refine lv_aload_n hx hb dX7_enter_53 rfl (lv_at hl 1 rfl) ?_
          refine va_get (D := G.1) (ci := 9) (v := .ref (G.2.1 1)) (C := RX7) (T := TX7) (N := 5) hx hb hts gx_X7 hown hT.2.1 hP 30 rfl rfl 0 (by decide) (hts _ gv_198) (fun _ h9 => h9) rfl dX7_enter_54 ?_
          refine lv_iload hx hb dX7_enter_57 (lv_at hl 0 rfl) ?_
          obtain ⟨p7, gp7, h⟩ := Option.bind_eq_some_iff.mp h
          refine gw_ci (gw_rV (C := RX3) X hP hS (gc_X3_image l G p3.1 p3.2 _ gp7) gk_X3_image gv_502 ⟨gv_503, gv_504⟩ (va_recv hT.2.1 hP (ci := 6) (q0 := 1) rfl rfl) rfl rfl (Nat.le_of_ble_eq_true rfl) hl.1 ⟨rfl, rfl⟩ ⟨Nat.le_of_ble_eq_true rfl, Nat.le_of_ble_eq_true rfl⟩ ⟨Nat.le_of_ble_eq_true rfl, Nat.le_of_ble_eq_true rfl⟩ dX7_enter_59) hS (fun H locs hP hS => ?_)
          refine lv_goto (tgt := 67) hx hb dX7_enter_62 (by decide) ?_
          obtain ⟨p8, gp8, h⟩ := Option.bind_eq_some_iff.mp h
          refine gw_cz (gw_rV (C := RX3) X hP hS (gc_X3_stands l G v19_1 p7.1 p7.2 _ gp8) gk_X3_stands gv_506 ⟨gv_267, gv_268⟩ (va_recv hT.2.1 hP (ci := 6) (q0 := 1) rfl rfl) rfl rfl (Nat.le_of_ble_eq_true rfl) hl.1 ⟨rfl, rfl⟩ ⟨Nat.le_of_ble_eq_true rfl, Nat.le_of_ble_eq_true rfl⟩ ⟨Nat.le_of_ble_eq_true rfl, Nat.le_of_ble_eq_true rfl⟩ dX7_enter_67) hS (fun H locs hb_p8 hP hS => ?_)
          refine lv_if_eq (tgt := 94) hx hb dX7_enter_70 (by decide) (fun c => ?_) (fun c => ?_)
          · have h := (if_pos c).symm.trans h
            refine lv_iinc (v := (v19_5 + (1 : Int32))) (lv' := [(5, .int (v19_5 + (1 : Int32))), (6, .int p3.1), (0, .ref (G.2.1 30)), (1, .int v19_1), (2, .int v19_2), (3, .int v19_3), (4, .int v19_4)]) hx hb dX7_enter_94 hl (k := 6) rfl rfl (by decide) rfl (fun ls hl => ?_)
            refine lv_goto (tgt := 19) hx hb dX7_enter_97 (by decide) ?_
            exact ih v19_1 v19_2 v19_3 v19_4 (v19_5 + (1 : Int32)) p8.2 _ _ _ h hP hS (lv_sub hl [2, 3, 4, 5, 6, 0] rfl) hK
          · have h := (if_neg c).symm.trans h
            refine lv_iload hx hb dX7_enter_73 (lv_at hl 5 rfl) ?_
            refine lv_iconst (v := 1) hx hb dX7_enter_75 (by decide) ?_
            refine lv_aload_n hx hb dX7_enter_76 rfl (lv_at hl 1 rfl) ?_
            refine lv_aload_n hx hb dX7_enter_77 rfl (lv_at hl 1 rfl) ?_
            refine va_get (D := G.1) (ci := 9) (v := .ref (G.2.1 4)) (C := RX7) (T := TX7) (N := 5) hx hb hts gx_X7 hown hT.2.1 hP 30 rfl rfl 1 (by decide) (hts _ gv_199) (fun _ h9 => h9) rfl dX7_enter_78 ?_
            refine lv_iload_n hx hb dX7_enter_81 rfl (lv_at hl 4 rfl) ?_
            refine lv_iload hx hb dX7_enter_82 (lv_at hl 6 rfl) ?_
            obtain ⟨p9, gp9, h⟩ := Option.bind_eq_some_iff.mp h
            refine gw_ci (gw_rV (C := RX2) X hP hS (gc_X2_lower l G v19_3 v19_5 p8.2 _ gp9) gk_X2_lower gv_507 ⟨gv_317, gv_318⟩ (va_recv hT.2.1 hP (ci := 5) (q0 := 4) rfl rfl) rfl rfl (Nat.le_of_ble_eq_true rfl) hl.1 ⟨rfl, rfl⟩ ⟨Nat.le_of_ble_eq_true rfl, Nat.le_of_ble_eq_true rfl⟩ ⟨Nat.le_of_ble_eq_true rfl, Nat.le_of_ble_eq_true rfl⟩ dX7_enter_84) hS (fun H locs hP hS => ?_)
            obtain ⟨p10, gp10, h⟩ := Option.bind_eq_some_iff.mp h
            refine gw_ci (gw_rV (C := RX7) X hP hS (gc_X7_codeOf l G p9.1 p9.2 _ gp10) gk_X7_codeOf gv_508 ⟨gv_509, gv_510⟩ (va_recv hT.2.1 hP (ci := 9) (q0 := 30) rfl rfl) rfl rfl (Nat.le_of_ble_eq_true rfl) hl.1 ⟨rfl, rfl⟩ ⟨Nat.le_of_ble_eq_true rfl, Nat.le_of_ble_eq_true rfl⟩ ⟨Nat.le_of_ble_eq_true rfl, Nat.le_of_ble_eq_true rfl⟩ dX7_enter_87) hS (fun H locs hP hS => ?_)
            refine lv_ishl hx hb dX7_enter_90 ?_
            refine lv_ior hx hb dX7_enter_91 ?_
            refine lv_istore (lv' := [(4, .int (v19_4 ||| ((1 : Int32) <<< (p10.1 &&& 31)))), (6, .int p3.1), (0, .ref (G.2.1 30)), (1, .int v19_1), (2, .int v19_2), (3, .int v19_3), (5, .int v19_5)]) hx hb dX7_enter_92 hl (by decide) rfl (fun ls hl => ?_)
            refine lv_iinc (v := (v19_5 + (1 : Int32))) (lv' := [(5, .int (v19_5 + (1 : Int32))), (4, .int (v19_4 ||| ((1 : Int32) <<< (p10.1 &&& 31)))), (6, .int p3.1), (0, .ref (G.2.1 30)), (1, .int v19_1), (2, .int v19_2), (3, .int v19_3)]) hx hb dX7_enter_94 hl (k := 6) rfl rfl (by decide) rfl (fun ls hl => ?_)
            refine lv_goto (tgt := 19) hx hb dX7_enter_97 (by decide) ?_
            exact ih v19_1 v19_2 v19_3 (v19_4 ||| ((1 : Int32) <<< (p10.1 &&& 31))) (v19_5 + (1 : Int32)) p10.2 _ _ _ h hP hS (lv_sub hl [3, 4, 5, 6, 1, 0] rfl) hK
  have L2 : ∀ (n : Nat) (v2_1 : Int32) (v2_2 : Int32) (v2_3 : Int32) (σ : gw_S) (H : Heap) (locs : List Loc) (ls : Array Slot), f_X7_enter_L2 n v2_1 v2_2 v2_3 σ = some o → gw_P G σ H → va_S (gw_A G s.heap.size) s.heap H locs → lv_has ls 7 [(0, .ref (G.2.1 30)), (1, .int v2_1), (2, .int v2_2), (3, .int v2_3)] → W p l e { frames := 3, cells := 0, slots := 0, locals := 64 } s m [.ref (G.2.1 30), .int a0, .int a1].toArray below meth c H locs 0 0 (MQ below (gw_QV G s.heap.size o) [.ref (G.2.1 30), .int a0, .int a1].toArray s 0 0 (gw_A G s.heap.size)) (F0 m 2 ls []) := by
    intro n
    induction n with
    | zero =>
      intro v2_1 v2_2 v2_3 σ H locs ls h
      exact absurd h (by rw [f_X7_enter_L2.eq_1]; exact fun h => nomatch h)
    | succ n ih =>
      intro v2_1 v2_2 v2_3 σ H locs ls h hP hS hl
      rw [f_X7_enter_L2.eq_2] at h
      refine lv_iload_n hx hb dX7_enter_2 rfl (lv_at hl 3 rfl) ?_
      refine lv_aload_n hx hb dX7_enter_3 rfl (lv_at hl 0 rfl) ?_
      refine va_get (D := G.1) (ci := 9) (v := .ref (G.2.1 4)) (C := RX7) (T := TX7) (N := 5) hx hb hts gx_X7 hown hT.2.1 hP 30 rfl rfl 1 (by decide) (hts _ gv_199) (fun _ h9 => h9) rfl dX7_enter_4 ?_
      obtain ⟨p1, gp1, h⟩ := Option.bind_eq_some_iff.mp h
      refine gw_ci (gw_rV (C := RX2) X hP hS (gc_X2_size l G  σ _ gp1) gk_X2_size gv_499 ⟨gv_304, gv_305⟩ (va_recv hT.2.1 hP (ci := 5) (q0 := 4) rfl rfl) rfl rfl (Nat.le_of_ble_eq_true rfl) hl.1 ⟨rfl, rfl⟩ ⟨Nat.le_of_ble_eq_true rfl, Nat.le_of_ble_eq_true rfl⟩ ⟨Nat.le_of_ble_eq_true rfl, Nat.le_of_ble_eq_true rfl⟩ dX7_enter_7) hS (fun H locs hP hS => ?_)
      refine lv_icmp_ge (tgt := 116) hx hb dX7_enter_10 (by decide) (fun c => ?_) (fun c => ?_)
      · have h := (if_pos c).symm.trans h
        exact gw_rv X hP hS h dX7_enter_116
      · have h := (if_neg c).symm.trans h
        refine lv_iconst (v := 0) hx hb dX7_enter_13 (by decide) ?_
        refine lv_istore (lv' := [(4, .int (0 : Int32)), (0, .ref (G.2.1 30)), (1, .int v2_1), (2, .int v2_2), (3, .int v2_3)]) hx hb dX7_enter_14 hl (by decide) rfl (fun ls hl => ?_)
        refine lv_iconst (v := 0) hx hb dX7_enter_16 (by decide) ?_
        refine lv_istore (lv' := [(5, .int (0 : Int32)), (4, .int (0 : Int32)), (0, .ref (G.2.1 30)), (1, .int v2_1), (2, .int v2_2), (3, .int v2_3)]) hx hb dX7_enter_17 hl (by decide) rfl (fun ls hl => ?_)
        refine L19 64 _ v2_1 v2_2 v2_3 (0 : Int32) (0 : Int32) p1.2 _ _ _ h hP hS (lv_sub hl [2, 3, 4, 5, 1, 0] rfl) (fun w19_1 w19_2 w19_3 w19_4 σ19 H locs ls h hP hS hl => ?_)
        refine lv_aload_n hx hb dX7_enter_100 rfl (lv_at hl 0 rfl) ?_
        refine va_get (D := G.1) (ci := 9) (v := .ref (G.2.1 31)) (C := RX7) (T := TX7) (N := 5) hx hb hts gx_X7 hown hT.2.1 hP 30 rfl rfl 3 (by decide) (hts _ gv_201) (fun _ h9 => h9) rfl dX7_enter_101 ?_
        refine lv_iload_n hx hb dX7_enter_104 rfl (lv_at hl 3 rfl) ?_
        refine lv_iload hx hb dX7_enter_105 (lv_at hl 4 rfl) ?_
        obtain ⟨p11, gp11, h⟩ := Option.bind_eq_some_iff.mp h
        refine gw_cv (gw_rN (host := "Genericwood") X hP hS (gc_X8_put l G 31 ⟨by decide, by decide⟩ w19_3 w19_4 σ19 _ gp11) gk_X8_put gv_513 gv_403 rfl rfl (Nat.le_of_ble_eq_true rfl) hl.1 ⟨rfl, rfl⟩ ⟨Nat.le_of_ble_eq_true rfl, Nat.le_of_ble_eq_true rfl⟩ ⟨Nat.le_of_ble_eq_true rfl, Nat.le_of_ble_eq_true rfl⟩ dX7_enter_107) hS (fun H locs hP hS => ?_)
        refine lv_iinc (v := (w19_3 + (1 : Int32))) (lv' := [(3, .int (w19_3 + (1 : Int32))), (0, .ref (G.2.1 30)), (1, .int w19_1), (2, .int w19_2), (4, .int w19_4)]) hx hb dX7_enter_110 hl (k := 3) rfl rfl (by decide) rfl (fun ls hl => ?_)
        refine lv_goto (tgt := 2) hx hb dX7_enter_113 (by decide) ?_
        exact ih w19_1 w19_2 (w19_3 + (1 : Int32)) p11 _ _ _ h hP hS (lv_sub hl [1, 2, 3, 0] rfl)
  unfold f_X7_enter at h
  refine lv_iconst (v := 0) hx hb dX7_enter_0 (by decide) ?_
  refine lv_istore_n (lv' := [(3, .int (0 : Int32)), (0, .ref (G.2.1 30)), (1, .int a0), (2, .int a1)]) hx hb dX7_enter_1 rfl hl (by decide) rfl (fun ls hl => ?_)
  exact L2 64 a0 a1 (0 : Int32) σ _ _ _ h hP hS (lv_sub hl [1, 2, 3, 0] rfl)
def f_X7_meant (a0 : Int32) (σ : gw_S) : Option (Int32 × gw_S) := ((f_X8_isLetter a0 σ).bind fun p1 => (if p1.1 = 0 then ((f_X8_at 31 a0 p1.2).bind fun p2 => (some (p2.1, p2.2))) else ((f_X8_at 32 (a0 - (100 : Int32)) p1.2).bind fun p3 => (some (p3.1, p3.2)))))
set_option maxHeartbeats 4000000 in
set_option maxRecDepth 100000 in
theorem gc_X7_meant (l : Launch) (G : gw_G) (a0 : Int32) (σ : gw_S) (o : (Int32 × gw_S)) (h : f_X7_meant a0 σ = some o) : gw_M (fun sz => gw_QI G sz o) l yX7_meant cX7_meant 2 (some .int) { frames := 1, cells := 0, slots := 0, locals := 21 } G [.ref (G.2.1 30), .int a0] σ := by
  refine gw_en (own := RX7) (lv := [(0, .ref (G.2.1 30)), (1, .int a0)]) (by decide +kernel) rfl (Nat.le_of_ble_eq_true rfl) rfl ?_
  intro p e s m below meth c ls X hl hP
  obtain ⟨hx, hb, hml, hown, hts, -, -, hT, hZ, -⟩ := id X
  have hS : va_S (gw_A G s.heap.size) s.heap s.heap [] := va_S.rf
  unfold f_X7_meant at h
  refine lv_iload_n hx hb dX7_meant_0 rfl (lv_at hl 1 rfl) ?_
  obtain ⟨p1, gp1, h⟩ := Option.bind_eq_some_iff.mp h
  refine gw_cz (gw_rN (host := "Genericwood") X hP hS (gc_X8_isLetter l G a0 σ _ gp1) gk_X8_isLetter gv_530 gv_460 rfl rfl (Nat.le_of_ble_eq_true rfl) hl.1 ⟨rfl, rfl⟩ ⟨Nat.le_of_ble_eq_true rfl, Nat.le_of_ble_eq_true rfl⟩ ⟨Nat.le_of_ble_eq_true rfl, Nat.le_of_ble_eq_true rfl⟩ dX7_meant_1) hS (fun H locs hb_p1 hP hS => ?_)
  refine lv_if_eq (tgt := 21) hx hb dX7_meant_4 (by decide) (fun c => ?_) (fun c => ?_)
  · have h := (if_pos c).symm.trans h
    refine lv_aload_n hx hb dX7_meant_21 rfl (lv_at hl 0 rfl) ?_
    refine va_get (D := G.1) (ci := 9) (v := .ref (G.2.1 31)) (C := RX7) (T := TX7) (N := 5) hx hb hts gx_X7 hown hT.2.1 hP 30 rfl rfl 3 (by decide) (hts _ gv_201) (fun _ h9 => h9) rfl dX7_meant_22 ?_
    refine lv_iload_n hx hb dX7_meant_25 rfl (lv_at hl 1 rfl) ?_
    obtain ⟨p2, gp2, h⟩ := Option.bind_eq_some_iff.mp h
    refine gw_ci (gw_rN (host := "Genericwood") X hP hS (gc_X8_at l G 31 ⟨by decide, by decide⟩ a0 p1.2 _ gp2) gk_X8_at gv_512 gv_275 rfl rfl (Nat.le_of_ble_eq_true rfl) hl.1 ⟨rfl, rfl⟩ ⟨Nat.le_of_ble_eq_true rfl, Nat.le_of_ble_eq_true rfl⟩ ⟨Nat.le_of_ble_eq_true rfl, Nat.le_of_ble_eq_true rfl⟩ dX7_meant_26) hS (fun H locs hP hS => ?_)
    exact gw_ri X hP hS h dX7_meant_29
  · have h := (if_neg c).symm.trans h
    refine lv_aload_n hx hb dX7_meant_7 rfl (lv_at hl 0 rfl) ?_
    refine va_get (D := G.1) (ci := 9) (v := .ref (G.2.1 32)) (C := RX7) (T := TX7) (N := 5) hx hb hts gx_X7 hown hT.2.1 hP 30 rfl rfl 4 (by decide) (hts _ gv_202) (fun _ h9 => h9) rfl dX7_meant_8 ?_
    refine lv_iload_n hx hb dX7_meant_11 rfl (lv_at hl 1 rfl) ?_
    refine lv_bipush (v := 100) hx hb dX7_meant_12 (by decide) ?_
    refine lv_isub hx hb dX7_meant_14 ?_
    obtain ⟨p3, gp3, h⟩ := Option.bind_eq_some_iff.mp h
    refine gw_ci (gw_rN (host := "Genericwood") X hP hS (gc_X8_at l G 32 ⟨by decide, by decide⟩ (a0 - (100 : Int32)) p1.2 _ gp3) gk_X8_at gv_512 gv_275 rfl rfl (Nat.le_of_ble_eq_true rfl) hl.1 ⟨rfl, rfl⟩ ⟨Nat.le_of_ble_eq_true rfl, Nat.le_of_ble_eq_true rfl⟩ ⟨Nat.le_of_ble_eq_true rfl, Nat.le_of_ble_eq_true rfl⟩ dX7_meant_15) hS (fun H locs hP hS => ?_)
    refine lv_goto (tgt := 29) hx hb dX7_meant_18 (by decide) ?_
    exact gw_ri X hP hS h dX7_meant_29
def f_X7_isBoundSo_L61 (J : Int32 → Int32 → gw_S → Option (Int32 × gw_S)) : Nat → Int32 → Int32 → Int32 → Int32 → Int32 → Int32 → Int32 → Int32 → gw_S → Option (Int32 × gw_S)
  | 0, _, _, _, _, _, _, _, _, _ => none
  | n + 1, v61_1, v61_2, v61_3, v61_4, v61_5, v61_6, v61_7, v61_8, σ => (if (16 : Int32) ≤ v61_8 then ((f_X8_put 32 v61_4 v61_5 σ).bind fun p6 => (some (v61_7, p6))) else (if v61_7 = v61_6 then ((f_X8_contains v61_3 v61_8 σ).bind fun p8 => (if p8.1 = 0 then (f_X7_isBoundSo_L61 J n v61_1 v61_2 v61_3 v61_4 v61_5 v61_6 v61_7 (v61_8 + (1 : Int32)) p8.2) else ((f_X8_put 32 v61_4 v61_8 p8.2).bind fun p9 => ((f_X1_second v61_1 p9).bind fun p10 => ((J p10.1 (v61_2 + (1 : Int32)) p10.2).bind fun p11 => (f_X7_isBoundSo_L61 J n v61_1 v61_2 v61_3 v61_4 v61_5 v61_6 p11.1 (v61_8 + (1 : Int32)) p11.2)))))) else ((f_X8_put 32 v61_4 v61_5 σ).bind fun p7 => (some (v61_7, p7)))))
def f_X7_isBoundSo (J : Int32 → Int32 → gw_S → Option (Int32 × gw_S)) (a0 : Int32) (a1 : Int32) (σ : gw_S) : Option (Int32 × gw_S) := ((f_X1_first a0 σ).bind fun p1 => ((f_X7_meant p1.1 p1.2).bind fun p2 => ((f_X1_letter a0 p2.2).bind fun p3 => ((f_X8_at 32 p3.1 p3.2).bind fun p4 => ((f_X1_kind a0 p4.2).bind fun p5 => (if p5.1 = (65 : Int32) then (f_X7_isBoundSo_L61 J 64 a0 a1 p2.1 p3.1 p4.1 (1 : Int32) (1 : Int32) (0 : Int32) p5.2) else (f_X7_isBoundSo_L61 J 64 a0 a1 p2.1 p3.1 p4.1 (0 : Int32) (0 : Int32) (0 : Int32) p5.2)))))))
set_option maxHeartbeats 4000000 in
set_option maxRecDepth 100000 in
theorem gc_X7_isBoundSo (l : Launch) (G : gw_G) (J : Int32 → Int32 → gw_S → Option (Int32 × gw_S)) (FJ LJ : Nat) (hJ : ∀ (a0 a1 : Int32) (σ : gw_S) (o : Int32 × gw_S), J a0 a1 σ = some o → gw_M (fun sz => gw_QZ G sz o) l yX7_isSo cX7_isSo 5 (some .boolean) { frames := FJ, cells := 0, slots := 0, locals := LJ } G [.ref (G.2.1 30), .int a0, .int a1] σ) (a0 : Int32) (a1 : Int32) (σ : gw_S) (o : (Int32 × gw_S)) (h : f_X7_isBoundSo J a0 a1 σ = some o) : gw_M (fun sz => gw_QZ G sz o) l yX7_isBoundSo cX7_isBoundSo 9 (some .boolean) { frames := FJ + 20, cells := 0, slots := 0, locals := LJ + 300 } G [.ref (G.2.1 30), .int a0, .int a1] σ := by
  refine gw_en (own := RX7) (lv := [(0, .ref (G.2.1 30)), (1, .int a0), (2, .int a1)]) (by decide +kernel) rfl (Nat.le_of_ble_eq_true rfl) rfl ?_
  intro p e s m below meth c ls X hl hP
  obtain ⟨hx, hb, hml, hown, hts, -, -, hT, hZ, -⟩ := id X
  have hS : va_S (gw_A G s.heap.size) s.heap s.heap [] := va_S.rf
  have L61 : ∀ (n : Nat) (v61_1 : Int32) (v61_2 : Int32) (v61_3 : Int32) (v61_4 : Int32) (v61_5 : Int32) (v61_6 : Int32) (v61_7 : Int32) (v61_8 : Int32) (σ : gw_S) (H : Heap) (locs : List Loc) (ls : Array Slot), f_X7_isBoundSo_L61 J n v61_1 v61_2 v61_3 v61_4 v61_5 v61_6 v61_7 v61_8 σ = some o → gw_P G σ H → va_S (gw_A G s.heap.size) s.heap H locs → lv_has ls 9 [(0, .ref (G.2.1 30)), (1, .int v61_1), (2, .int v61_2), (3, .int v61_3), (4, .int v61_4), (5, .int v61_5), (6, .int v61_6), (7, .int v61_7), (8, .int v61_8)] → gw_b v61_7 → W p l e { frames := FJ + 20, cells := 0, slots := 0, locals := LJ + 300 } s m [.ref (G.2.1 30), .int a0, .int a1].toArray below meth c H locs 0 0 (MQ below (gw_QZ G s.heap.size o) [.ref (G.2.1 30), .int a0, .int a1].toArray s 0 0 (gw_A G s.heap.size)) (F0 m 61 ls []) := by
    intro n
    induction n with
    | zero =>
      intro v61_1 v61_2 v61_3 v61_4 v61_5 v61_6 v61_7 v61_8 σ H locs ls h
      exact absurd h (by rw [f_X7_isBoundSo_L61.eq_1]; exact fun h => nomatch h)
    | succ n ih =>
      intro v61_1 v61_2 v61_3 v61_4 v61_5 v61_6 v61_7 v61_8 σ H locs ls h hP hS hl hb_v61_7
      rw [f_X7_isBoundSo_L61.eq_2] at h
      refine lv_iload hx hb dX7_isBoundSo_61 (lv_at hl 8 rfl) ?_
      refine lv_bipush (v := 16) hx hb dX7_isBoundSo_63 (by decide) ?_
      refine lv_icmp_ge (tgt := 118) hx hb dX7_isBoundSo_65 (by decide) (fun c => ?_) (fun c => ?_)
      · have h := (if_pos c).symm.trans h
        refine lv_aload_n hx hb dX7_isBoundSo_118 rfl (lv_at hl 0 rfl) ?_
        refine va_get (D := G.1) (ci := 9) (v := .ref (G.2.1 32)) (C := RX7) (T := TX7) (N := 5) hx hb hts gx_X7 hown hT.2.1 hP 30 rfl rfl 4 (by decide) (hts _ gv_202) (fun _ h9 => h9) rfl dX7_isBoundSo_119 ?_
        refine lv_iload hx hb dX7_isBoundSo_122 (lv_at hl 4 rfl) ?_
        refine lv_iload hx hb dX7_isBoundSo_124 (lv_at hl 5 rfl) ?_
        obtain ⟨p6, gp6, h⟩ := Option.bind_eq_some_iff.mp h
        refine gw_cv (gw_rN (host := "Genericwood") X hP hS (gc_X8_put l G 32 ⟨by decide, by decide⟩ v61_4 v61_5 σ _ gp6) gk_X8_put gv_513 gv_403 rfl rfl (Nat.le_of_ble_eq_true rfl) hl.1 ⟨rfl, rfl⟩ ⟨by show 0 + 1 ≤ FJ + 20; omega, by show 8 + (3 + 11) + (0) ≤ LJ + 300; omega⟩ ⟨Nat.le_of_ble_eq_true rfl, Nat.le_of_ble_eq_true rfl⟩ dX7_isBoundSo_126) hS (fun H locs hP hS => ?_)
        refine lv_iload hx hb dX7_isBoundSo_129 (lv_at hl 7 rfl) ?_
        exact gw_rz X hP hS hb_v61_7 h dX7_isBoundSo_131
      · have h := (if_neg c).symm.trans h
        refine lv_iload hx hb dX7_isBoundSo_68 (lv_at hl 7 rfl) ?_
        refine lv_iload hx hb dX7_isBoundSo_70 (lv_at hl 6 rfl) ?_
        refine lv_icmp_ne (tgt := 118) hx hb dX7_isBoundSo_72 (by decide) (fun c => ?_) (fun c => ?_)
        · have h := (if_neg c).symm.trans h
          refine lv_aload_n hx hb dX7_isBoundSo_118 rfl (lv_at hl 0 rfl) ?_
          refine va_get (D := G.1) (ci := 9) (v := .ref (G.2.1 32)) (C := RX7) (T := TX7) (N := 5) hx hb hts gx_X7 hown hT.2.1 hP 30 rfl rfl 4 (by decide) (hts _ gv_202) (fun _ h9 => h9) rfl dX7_isBoundSo_119 ?_
          refine lv_iload hx hb dX7_isBoundSo_122 (lv_at hl 4 rfl) ?_
          refine lv_iload hx hb dX7_isBoundSo_124 (lv_at hl 5 rfl) ?_
          obtain ⟨p7, gp7, h⟩ := Option.bind_eq_some_iff.mp h
          refine gw_cv (gw_rN (host := "Genericwood") X hP hS (gc_X8_put l G 32 ⟨by decide, by decide⟩ v61_4 v61_5 σ _ gp7) gk_X8_put gv_513 gv_403 rfl rfl (Nat.le_of_ble_eq_true rfl) hl.1 ⟨rfl, rfl⟩ ⟨by show 0 + 1 ≤ FJ + 20; omega, by show 8 + (3 + 11) + (0) ≤ LJ + 300; omega⟩ ⟨Nat.le_of_ble_eq_true rfl, Nat.le_of_ble_eq_true rfl⟩ dX7_isBoundSo_126) hS (fun H locs hP hS => ?_)
          refine lv_iload hx hb dX7_isBoundSo_129 (lv_at hl 7 rfl) ?_
          exact gw_rz X hP hS hb_v61_7 h dX7_isBoundSo_131
        · have h := (if_pos c).symm.trans h
          refine lv_iload_n hx hb dX7_isBoundSo_75 rfl (lv_at hl 3 rfl) ?_
          refine lv_iload hx hb dX7_isBoundSo_76 (lv_at hl 8 rfl) ?_
          obtain ⟨p8, gp8, h⟩ := Option.bind_eq_some_iff.mp h
          refine gw_cz (gw_rN (host := "Genericwood") X hP hS (gc_X8_contains l G v61_3 v61_8 σ _ gp8) gk_X8_contains gv_494 gv_278 rfl rfl (Nat.le_of_ble_eq_true rfl) hl.1 ⟨rfl, rfl⟩ ⟨by show 0 + 1 ≤ FJ + 20; omega, by show 8 + (2 + 11) + (0) ≤ LJ + 300; omega⟩ ⟨Nat.le_of_ble_eq_true rfl, Nat.le_of_ble_eq_true rfl⟩ dX7_isBoundSo_78) hS (fun H locs hb_p8 hP hS => ?_)
          refine lv_if_eq (tgt := 112) hx hb dX7_isBoundSo_81 (by decide) (fun c => ?_) (fun c => ?_)
          · have h := (if_pos c).symm.trans h
            refine lv_iinc (v := (v61_8 + (1 : Int32))) (lv' := [(8, .int (v61_8 + (1 : Int32))), (0, .ref (G.2.1 30)), (1, .int v61_1), (2, .int v61_2), (3, .int v61_3), (4, .int v61_4), (5, .int v61_5), (6, .int v61_6), (7, .int v61_7)]) hx hb dX7_isBoundSo_112 hl (k := 8) rfl rfl (by decide) rfl (fun ls hl => ?_)
            refine lv_goto (tgt := 61) hx hb dX7_isBoundSo_115 (by decide) ?_
            exact ih v61_1 v61_2 v61_3 v61_4 v61_5 v61_6 v61_7 (v61_8 + (1 : Int32)) p8.2 _ _ _ h hP hS (lv_sub hl [1, 2, 3, 4, 5, 6, 7, 8, 0] rfl) hb_v61_7
          · have h := (if_neg c).symm.trans h
            refine lv_aload_n hx hb dX7_isBoundSo_84 rfl (lv_at hl 0 rfl) ?_
            refine va_get (D := G.1) (ci := 9) (v := .ref (G.2.1 32)) (C := RX7) (T := TX7) (N := 5) hx hb hts gx_X7 hown hT.2.1 hP 30 rfl rfl 4 (by decide) (hts _ gv_202) (fun _ h9 => h9) rfl dX7_isBoundSo_85 ?_
            refine lv_iload hx hb dX7_isBoundSo_88 (lv_at hl 4 rfl) ?_
            refine lv_iload hx hb dX7_isBoundSo_90 (lv_at hl 8 rfl) ?_
            obtain ⟨p9, gp9, h⟩ := Option.bind_eq_some_iff.mp h
            refine gw_cv (gw_rN (host := "Genericwood") X hP hS (gc_X8_put l G 32 ⟨by decide, by decide⟩ v61_4 v61_8 p8.2 _ gp9) gk_X8_put gv_513 gv_403 rfl rfl (Nat.le_of_ble_eq_true rfl) hl.1 ⟨rfl, rfl⟩ ⟨by show 0 + 1 ≤ FJ + 20; omega, by show 8 + (3 + 11) + (0) ≤ LJ + 300; omega⟩ ⟨Nat.le_of_ble_eq_true rfl, Nat.le_of_ble_eq_true rfl⟩ dX7_isBoundSo_92) hS (fun H locs hP hS => ?_)
            refine lv_aload_n hx hb dX7_isBoundSo_95 rfl (lv_at hl 0 rfl) ?_
            refine lv_aload_n hx hb dX7_isBoundSo_96 rfl (lv_at hl 0 rfl) ?_
            refine va_get (D := G.1) (ci := 9) (v := .ref (G.2.1 11)) (C := RX7) (T := TX7) (N := 5) hx hb hts gx_X7 hown hT.2.1 hP 30 rfl rfl 2 (by decide) (hts _ gv_200) (fun _ h9 => h9) rfl dX7_isBoundSo_97 ?_
            refine lv_iload_n hx hb dX7_isBoundSo_100 rfl (lv_at hl 1 rfl) ?_
            obtain ⟨p10, gp10, h⟩ := Option.bind_eq_some_iff.mp h
            refine gw_ci (gw_rV (C := RX1) X hP hS (gc_X1_second l G v61_1 p9 _ gp10) gk_X1_second gv_524 ⟨gv_448, gv_449⟩ (va_recv hT.2.1 hP (ci := 4) (q0 := 11) rfl rfl) rfl rfl (Nat.le_of_ble_eq_true rfl) hl.1 ⟨rfl, rfl⟩ ⟨by show 1 + 1 ≤ FJ + 20; omega, by show 8 + (2 + 11) + (21) ≤ LJ + 300; omega⟩ ⟨Nat.le_of_ble_eq_true rfl, Nat.le_of_ble_eq_true rfl⟩ dX7_isBoundSo_101) hS (fun H locs hP hS => ?_)
            refine lv_iload_n hx hb dX7_isBoundSo_104 rfl (lv_at hl 2 rfl) ?_
            refine lv_iconst (v := 1) hx hb dX7_isBoundSo_105 (by decide) ?_
            refine lv_iadd hx hb dX7_isBoundSo_106 ?_
            obtain ⟨p11, gp11, h⟩ := Option.bind_eq_some_iff.mp h
            refine gw_cz (gw_rV (C := RX7) X hP hS (hJ  p10.1 (v61_2 + (1 : Int32)) p10.2 _ gp11) gk_X7_isSo gv_518 ⟨gv_520, gv_s2⟩ (va_recv hT.2.1 hP (ci := 9) (q0 := 30) rfl rfl) rfl rfl (Nat.le_of_ble_eq_true rfl) hl.1 ⟨rfl, rfl⟩ ⟨by show FJ + 1 ≤ FJ + 20; omega, by show 8 + (5 + 11) + (LJ) ≤ LJ + 300; omega⟩ ⟨Nat.le_of_ble_eq_true rfl, Nat.le_of_ble_eq_true rfl⟩ dX7_isBoundSo_107) hS (fun H locs hb_p11 hP hS => ?_)
            refine lv_istore (lv' := [(7, .int p11.1), (0, .ref (G.2.1 30)), (1, .int v61_1), (2, .int v61_2), (3, .int v61_3), (4, .int v61_4), (5, .int v61_5), (6, .int v61_6), (8, .int v61_8)]) hx hb dX7_isBoundSo_110 hl (by decide) rfl (fun ls hl => ?_)
            refine lv_iinc (v := (v61_8 + (1 : Int32))) (lv' := [(8, .int (v61_8 + (1 : Int32))), (7, .int p11.1), (0, .ref (G.2.1 30)), (1, .int v61_1), (2, .int v61_2), (3, .int v61_3), (4, .int v61_4), (5, .int v61_5), (6, .int v61_6)]) hx hb dX7_isBoundSo_112 hl (k := 8) rfl rfl (by decide) rfl (fun ls hl => ?_)
            refine lv_goto (tgt := 61) hx hb dX7_isBoundSo_115 (by decide) ?_
            exact ih v61_1 v61_2 v61_3 v61_4 v61_5 v61_6 p11.1 (v61_8 + (1 : Int32)) p11.2 _ _ _ h hP hS (lv_sub hl [2, 3, 4, 5, 6, 7, 8, 1, 0] rfl) hb_p11
  unfold f_X7_isBoundSo at h
  refine lv_aload_n hx hb dX7_isBoundSo_0 rfl (lv_at hl 0 rfl) ?_
  refine lv_aload_n hx hb dX7_isBoundSo_1 rfl (lv_at hl 0 rfl) ?_
  refine va_get (D := G.1) (ci := 9) (v := .ref (G.2.1 11)) (C := RX7) (T := TX7) (N := 5) hx hb hts gx_X7 hown hT.2.1 hP 30 rfl rfl 2 (by decide) (hts _ gv_200) (fun _ h9 => h9) rfl dX7_isBoundSo_2 ?_
  refine lv_iload_n hx hb dX7_isBoundSo_5 rfl (lv_at hl 1 rfl) ?_
  obtain ⟨p1, gp1, h⟩ := Option.bind_eq_some_iff.mp h
  refine gw_ci (gw_rV (C := RX1) X hP hS (gc_X1_first l G a0 σ _ gp1) gk_X1_first gv_523 ⟨gv_444, gv_445⟩ (va_recv hT.2.1 hP (ci := 4) (q0 := 11) rfl rfl) rfl rfl (Nat.le_of_ble_eq_true rfl) hl.1 ⟨rfl, rfl⟩ ⟨by show 1 + 1 ≤ FJ + 20; omega, by show 8 + (2 + 11) + (21) ≤ LJ + 300; omega⟩ ⟨Nat.le_of_ble_eq_true rfl, Nat.le_of_ble_eq_true rfl⟩ dX7_isBoundSo_6) hS (fun H locs hP hS => ?_)
  obtain ⟨p2, gp2, h⟩ := Option.bind_eq_some_iff.mp h
  refine gw_ci (gw_rV (C := RX7) X hP hS (gc_X7_meant l G p1.1 p1.2 _ gp2) gk_X7_meant gv_526 ⟨gv_528, gv_s3⟩ (va_recv hT.2.1 hP (ci := 9) (q0 := 30) rfl rfl) rfl rfl (Nat.le_of_ble_eq_true rfl) hl.1 ⟨rfl, rfl⟩ ⟨by show 1 + 1 ≤ FJ + 20; omega, by show 8 + (2 + 11) + (21) ≤ LJ + 300; omega⟩ ⟨Nat.le_of_ble_eq_true rfl, Nat.le_of_ble_eq_true rfl⟩ dX7_isBoundSo_9) hS (fun H locs hP hS => ?_)
  refine lv_istore_n (lv' := [(3, .int p2.1), (0, .ref (G.2.1 30)), (1, .int a0), (2, .int a1)]) hx hb dX7_isBoundSo_12 rfl hl (by decide) rfl (fun ls hl => ?_)
  refine lv_aload_n hx hb dX7_isBoundSo_13 rfl (lv_at hl 1 rfl) ?_
  refine va_get (D := G.1) (ci := 9) (v := .ref (G.2.1 11)) (C := RX7) (T := TX7) (N := 5) hx hb hts gx_X7 hown hT.2.1 hP 30 rfl rfl 2 (by decide) (hts _ gv_200) (fun _ h9 => h9) rfl dX7_isBoundSo_14 ?_
  refine lv_iload_n hx hb dX7_isBoundSo_17 rfl (lv_at hl 2 rfl) ?_
  obtain ⟨p3, gp3, h⟩ := Option.bind_eq_some_iff.mp h
  refine gw_ci (gw_rV (C := RX1) X hP hS (gc_X1_letter l G a0 p2.2 _ gp3) gk_X1_letter gv_535 ⟨gv_478, gv_479⟩ (va_recv hT.2.1 hP (ci := 4) (q0 := 11) rfl rfl) rfl rfl (Nat.le_of_ble_eq_true rfl) hl.1 ⟨rfl, rfl⟩ ⟨by show 1 + 1 ≤ FJ + 20; omega, by show 8 + (2 + 11) + (21) ≤ LJ + 300; omega⟩ ⟨Nat.le_of_ble_eq_true rfl, Nat.le_of_ble_eq_true rfl⟩ dX7_isBoundSo_18) hS (fun H locs hP hS => ?_)
  refine lv_istore (lv' := [(4, .int p3.1), (3, .int p2.1), (0, .ref (G.2.1 30)), (1, .int a0), (2, .int a1)]) hx hb dX7_isBoundSo_21 hl (by decide) rfl (fun ls hl => ?_)
  refine lv_aload_n hx hb dX7_isBoundSo_23 rfl (lv_at hl 2 rfl) ?_
  refine va_get (D := G.1) (ci := 9) (v := .ref (G.2.1 32)) (C := RX7) (T := TX7) (N := 5) hx hb hts gx_X7 hown hT.2.1 hP 30 rfl rfl 4 (by decide) (hts _ gv_202) (fun _ h9 => h9) rfl dX7_isBoundSo_24 ?_
  refine lv_iload hx hb dX7_isBoundSo_27 (lv_at hl 0 rfl) ?_
  obtain ⟨p4, gp4, h⟩ := Option.bind_eq_some_iff.mp h
  refine gw_ci (gw_rN (host := "Genericwood") X hP hS (gc_X8_at l G 32 ⟨by decide, by decide⟩ p3.1 p3.2 _ gp4) gk_X8_at gv_512 gv_275 rfl rfl (Nat.le_of_ble_eq_true rfl) hl.1 ⟨rfl, rfl⟩ ⟨by show 0 + 1 ≤ FJ + 20; omega, by show 8 + (2 + 11) + (0) ≤ LJ + 300; omega⟩ ⟨Nat.le_of_ble_eq_true rfl, Nat.le_of_ble_eq_true rfl⟩ dX7_isBoundSo_29) hS (fun H locs hP hS => ?_)
  refine lv_istore (lv' := [(5, .int p4.1), (4, .int p3.1), (3, .int p2.1), (0, .ref (G.2.1 30)), (1, .int a0), (2, .int a1)]) hx hb dX7_isBoundSo_32 hl (by decide) rfl (fun ls hl => ?_)
  refine lv_aload_n hx hb dX7_isBoundSo_34 rfl (lv_at hl 3 rfl) ?_
  refine va_get (D := G.1) (ci := 9) (v := .ref (G.2.1 11)) (C := RX7) (T := TX7) (N := 5) hx hb hts gx_X7 hown hT.2.1 hP 30 rfl rfl 2 (by decide) (hts _ gv_200) (fun _ h9 => h9) rfl dX7_isBoundSo_35 ?_
  refine lv_iload_n hx hb dX7_isBoundSo_38 rfl (lv_at hl 4 rfl) ?_
  obtain ⟨p5, gp5, h⟩ := Option.bind_eq_some_iff.mp h
  refine gw_ci (gw_rV (C := RX1) X hP hS (gc_X1_kind l G a0 p4.2 _ gp5) gk_X1_kind gv_525 ⟨gv_452, gv_453⟩ (va_recv hT.2.1 hP (ci := 4) (q0 := 11) rfl rfl) rfl rfl (Nat.le_of_ble_eq_true rfl) hl.1 ⟨rfl, rfl⟩ ⟨by show 1 + 1 ≤ FJ + 20; omega, by show 8 + (2 + 11) + (21) ≤ LJ + 300; omega⟩ ⟨Nat.le_of_ble_eq_true rfl, Nat.le_of_ble_eq_true rfl⟩ dX7_isBoundSo_39) hS (fun H locs hP hS => ?_)
  refine lv_bipush (v := 65) hx hb dX7_isBoundSo_42 (by decide) ?_
  refine lv_icmp_ne (tgt := 51) hx hb dX7_isBoundSo_44 (by decide) (fun c => ?_) (fun c => ?_)
  · have h := (if_neg c).symm.trans h
    refine lv_iconst (v := 0) hx hb dX7_isBoundSo_51 (by decide) ?_
    refine lv_istore (lv' := [(6, .int (0 : Int32)), (5, .int p4.1), (4, .int p3.1), (3, .int p2.1), (0, .ref (G.2.1 30)), (1, .int a0), (2, .int a1)]) hx hb dX7_isBoundSo_52 hl (by decide) rfl (fun ls hl => ?_)
    refine lv_iload hx hb dX7_isBoundSo_54 (lv_at hl 0 rfl) ?_
    refine lv_istore (lv' := [(7, .int (0 : Int32)), (6, .int (0 : Int32)), (5, .int p4.1), (4, .int p3.1), (3, .int p2.1), (0, .ref (G.2.1 30)), (1, .int a0), (2, .int a1)]) hx hb dX7_isBoundSo_56 hl (by decide) rfl (fun ls hl => ?_)
    refine lv_iconst (v := 0) hx hb dX7_isBoundSo_58 (by decide) ?_
    refine lv_istore (lv' := [(8, .int (0 : Int32)), (7, .int (0 : Int32)), (6, .int (0 : Int32)), (5, .int p4.1), (4, .int p3.1), (3, .int p2.1), (0, .ref (G.2.1 30)), (1, .int a0), (2, .int a1)]) hx hb dX7_isBoundSo_59 hl (by decide) rfl (fun ls hl => ?_)
    exact L61 64 a0 a1 p2.1 p3.1 p4.1 (0 : Int32) (0 : Int32) (0 : Int32) p5.2 _ _ _ h hP hS (lv_sub hl [6, 7, 8, 5, 4, 3, 2, 1, 0] rfl) rfl
  · have h := (if_pos c).symm.trans h
    refine lv_iconst (v := 1) hx hb dX7_isBoundSo_47 (by decide) ?_
    refine lv_goto (tgt := 52) hx hb dX7_isBoundSo_48 (by decide) ?_
    refine lv_istore (lv' := [(6, .int (1 : Int32)), (5, .int p4.1), (4, .int p3.1), (3, .int p2.1), (0, .ref (G.2.1 30)), (1, .int a0), (2, .int a1)]) hx hb dX7_isBoundSo_52 hl (by decide) rfl (fun ls hl => ?_)
    refine lv_iload hx hb dX7_isBoundSo_54 (lv_at hl 0 rfl) ?_
    refine lv_istore (lv' := [(7, .int (1 : Int32)), (6, .int (1 : Int32)), (5, .int p4.1), (4, .int p3.1), (3, .int p2.1), (0, .ref (G.2.1 30)), (1, .int a0), (2, .int a1)]) hx hb dX7_isBoundSo_56 hl (by decide) rfl (fun ls hl => ?_)
    refine lv_iconst (v := 0) hx hb dX7_isBoundSo_58 (by decide) ?_
    refine lv_istore (lv' := [(8, .int (0 : Int32)), (7, .int (1 : Int32)), (6, .int (1 : Int32)), (5, .int p4.1), (4, .int p3.1), (3, .int p2.1), (0, .ref (G.2.1 30)), (1, .int a0), (2, .int a1)]) hx hb dX7_isBoundSo_59 hl (by decide) rfl (fun ls hl => ?_)
    exact L61 64 a0 a1 p2.1 p3.1 p4.1 (1 : Int32) (1 : Int32) (0 : Int32) p5.2 _ _ _ h hP hS (lv_sub hl [6, 7, 8, 5, 4, 3, 2, 1, 0] rfl) rfl
def f_X7_isSo : Nat → Int32 → Int32 → gw_S → Option (Int32 × gw_S)
  | 0, _, _, _ => none
  | n + 1, a0, a1, σ => (if (5 : Int32) < a1 then (some ((0 : Int32), σ)) else ((f_X1_knows a0 σ).bind fun p1 => (if p1.1 = 0 then (some ((0 : Int32), p1.2)) else ((f_X1_first a0 p1.2).bind fun p2 => ((f_X1_second a0 p2.2).bind fun p3 => ((f_X1_kind a0 p3.2).bind fun p4 => (if p4.1 = (61 : Int32) then ((f_X7_meant p2.1 p4.2).bind fun p5 => ((f_X7_meant p3.1 p5.2).bind fun p6 => (if p5.1 = p6.1 then (some ((1 : Int32), p6.2)) else (some ((0 : Int32), p6.2))))) else (if p4.1 = (97 : Int32) then ((f_X7_isSo n p2.1 (a1 + (1 : Int32)) p4.2).bind fun p7 => (if p7.1 = 0 then (some ((0 : Int32), p7.2)) else ((f_X7_isSo n p3.1 (a1 + (1 : Int32)) p7.2).bind fun p8 => (if p8.1 = 0 then (some ((0 : Int32), p8.2)) else (some ((1 : Int32), p8.2)))))) else (if p4.1 = (101 : Int32) then ((f_X7_meant p3.1 p4.2).bind fun p9 => ((f_X7_meant p2.1 p9.2).bind fun p10 => ((f_X8_contains p9.1 p10.1 p10.2).bind fun p11 => (some (p11.1, p11.2))))) else (if p4.1 = (110 : Int32) then ((f_X7_isSo n p2.1 (a1 + (1 : Int32)) p4.2).bind fun p12 => (if p12.1 = 0 then (some ((1 : Int32), p12.2)) else (some ((0 : Int32), p12.2)))) else (if p4.1 = (111 : Int32) then ((f_X7_isSo n p2.1 (a1 + (1 : Int32)) p4.2).bind fun p13 => (if p13.1 = 0 then ((f_X7_isSo n p3.1 (a1 + (1 : Int32)) p13.2).bind fun p14 => (if p14.1 = 0 then (some ((0 : Int32), p14.2)) else (some ((1 : Int32), p14.2)))) else (some ((1 : Int32), p13.2)))) else ((f_X7_isBoundSo (f_X7_isSo n) a0 a1 p4.2).bind fun p15 => (some (p15.1, p15.2))))))))))))))
set_option maxHeartbeats 4000000 in
set_option maxRecDepth 100000 in
theorem gc_X7_isSo (l : Launch) (G : gw_G) : ∀ (n : Nat) (a0 : Int32) (a1 : Int32) (σ : gw_S) (o : (Int32 × gw_S)), f_X7_isSo n a0 a1 σ = some o → gw_M (fun sz => gw_QZ G sz o) l yX7_isSo cX7_isSo 5 (some .boolean) { frames := 30 * n, cells := 0, slots := 0, locals := 500 * n } G [.ref (G.2.1 30), .int a0, .int a1] σ := by
  intro n
  induction n with
  | zero =>
    intro a0 a1 σ o h
    exact absurd h (by rw [f_X7_isSo.eq_1]; exact fun h => nomatch h)
  | succ n ih =>
  intro a0 a1 σ o h
  refine gw_en (own := RX7) (lv := [(0, .ref (G.2.1 30)), (1, .int a0), (2, .int a1)]) (by decide +kernel) rfl (Nat.le_of_ble_eq_true rfl) rfl ?_
  intro p e s m below meth c ls X hl hP
  obtain ⟨hx, hb, hml, hown, hts, -, -, hT, hZ, -⟩ := id X
  have hS : va_S (gw_A G s.heap.size) s.heap s.heap [] := va_S.rf
  rw [f_X7_isSo.eq_2] at h
  refine lv_iload_n hx hb dX7_isSo_0 rfl (lv_at hl 2 rfl) ?_
  refine lv_iconst (v := 5) hx hb dX7_isSo_1 (by decide) ?_
  refine lv_icmp_gt (tgt := 16) hx hb dX7_isSo_2 (by decide) (fun c => ?_) (fun c => ?_)
  · have h := (if_pos c).symm.trans h
    refine lv_iconst (v := 0) hx hb dX7_isSo_16 (by decide) ?_
    exact gw_rz X hP hS rfl h dX7_isSo_17
  · have h := (if_neg c).symm.trans h
    refine lv_aload_n hx hb dX7_isSo_5 rfl (lv_at hl 0 rfl) ?_
    refine va_get (D := G.1) (ci := 9) (v := .ref (G.2.1 11)) (C := RX7) (T := TX7) (N := 5) hx hb hts gx_X7 hown hT.2.1 hP 30 rfl rfl 2 (by decide) (hts _ gv_200) (fun _ h9 => h9) rfl dX7_isSo_6 ?_
    refine lv_iload_n hx hb dX7_isSo_9 rfl (lv_at hl 1 rfl) ?_
    obtain ⟨p1, gp1, h⟩ := Option.bind_eq_some_iff.mp h
    refine gw_cz (gw_rV (C := RX1) X hP hS (gc_X1_knows l G a0 σ _ gp1) gk_X1_knows gv_522 ⟨gv_440, gv_441⟩ (va_recv hT.2.1 hP (ci := 4) (q0 := 11) rfl rfl) rfl rfl (Nat.le_of_ble_eq_true rfl) hl.1 ⟨rfl, rfl⟩ ⟨by show 0 + 1 ≤ 30 * (n + 1); omega, by show 8 + (2 + 11) + (0) ≤ 500 * (n + 1); omega⟩ ⟨Nat.le_of_ble_eq_true rfl, Nat.le_of_ble_eq_true rfl⟩ dX7_isSo_10) hS (fun H locs hb_p1 hP hS => ?_)
    refine lv_if_ne (tgt := 18) hx hb dX7_isSo_13 (by decide) (fun c => ?_) (fun c => ?_)
    · have h := (if_neg c).symm.trans h
      refine lv_aload_n hx hb dX7_isSo_18 rfl (lv_at hl 0 rfl) ?_
      refine va_get (D := G.1) (ci := 9) (v := .ref (G.2.1 11)) (C := RX7) (T := TX7) (N := 5) hx hb hts gx_X7 hown hT.2.1 hP 30 rfl rfl 2 (by decide) (hts _ gv_200) (fun _ h9 => h9) rfl dX7_isSo_19 ?_
      refine lv_iload_n hx hb dX7_isSo_22 rfl (lv_at hl 1 rfl) ?_
      obtain ⟨p2, gp2, h⟩ := Option.bind_eq_some_iff.mp h
      refine gw_ci (gw_rV (C := RX1) X hP hS (gc_X1_first l G a0 p1.2 _ gp2) gk_X1_first gv_523 ⟨gv_444, gv_445⟩ (va_recv hT.2.1 hP (ci := 4) (q0 := 11) rfl rfl) rfl rfl (Nat.le_of_ble_eq_true rfl) hl.1 ⟨rfl, rfl⟩ ⟨by show 1 + 1 ≤ 30 * (n + 1); omega, by show 8 + (2 + 11) + (21) ≤ 500 * (n + 1); omega⟩ ⟨Nat.le_of_ble_eq_true rfl, Nat.le_of_ble_eq_true rfl⟩ dX7_isSo_23) hS (fun H locs hP hS => ?_)
      refine lv_istore_n (lv' := [(3, .int p2.1), (0, .ref (G.2.1 30)), (1, .int a0), (2, .int a1)]) hx hb dX7_isSo_26 rfl hl (by decide) rfl (fun ls hl => ?_)
      refine lv_aload_n hx hb dX7_isSo_27 rfl (lv_at hl 1 rfl) ?_
      refine va_get (D := G.1) (ci := 9) (v := .ref (G.2.1 11)) (C := RX7) (T := TX7) (N := 5) hx hb hts gx_X7 hown hT.2.1 hP 30 rfl rfl 2 (by decide) (hts _ gv_200) (fun _ h9 => h9) rfl dX7_isSo_28 ?_
      refine lv_iload_n hx hb dX7_isSo_31 rfl (lv_at hl 2 rfl) ?_
      obtain ⟨p3, gp3, h⟩ := Option.bind_eq_some_iff.mp h
      refine gw_ci (gw_rV (C := RX1) X hP hS (gc_X1_second l G a0 p2.2 _ gp3) gk_X1_second gv_524 ⟨gv_448, gv_449⟩ (va_recv hT.2.1 hP (ci := 4) (q0 := 11) rfl rfl) rfl rfl (Nat.le_of_ble_eq_true rfl) hl.1 ⟨rfl, rfl⟩ ⟨by show 1 + 1 ≤ 30 * (n + 1); omega, by show 8 + (2 + 11) + (21) ≤ 500 * (n + 1); omega⟩ ⟨Nat.le_of_ble_eq_true rfl, Nat.le_of_ble_eq_true rfl⟩ dX7_isSo_32) hS (fun H locs hP hS => ?_)
      refine lv_istore (lv' := [(4, .int p3.1), (3, .int p2.1), (0, .ref (G.2.1 30)), (1, .int a0), (2, .int a1)]) hx hb dX7_isSo_35 hl (by decide) rfl (fun ls hl => ?_)
      refine lv_aload_n hx hb dX7_isSo_37 rfl (lv_at hl 2 rfl) ?_
      refine va_get (D := G.1) (ci := 9) (v := .ref (G.2.1 11)) (C := RX7) (T := TX7) (N := 5) hx hb hts gx_X7 hown hT.2.1 hP 30 rfl rfl 2 (by decide) (hts _ gv_200) (fun _ h9 => h9) rfl dX7_isSo_38 ?_
      refine lv_iload_n hx hb dX7_isSo_41 rfl (lv_at hl 3 rfl) ?_
      obtain ⟨p4, gp4, h⟩ := Option.bind_eq_some_iff.mp h
      refine gw_ci (gw_rV (C := RX1) X hP hS (gc_X1_kind l G a0 p3.2 _ gp4) gk_X1_kind gv_525 ⟨gv_452, gv_453⟩ (va_recv hT.2.1 hP (ci := 4) (q0 := 11) rfl rfl) rfl rfl (Nat.le_of_ble_eq_true rfl) hl.1 ⟨rfl, rfl⟩ ⟨by show 1 + 1 ≤ 30 * (n + 1); omega, by show 8 + (2 + 11) + (21) ≤ 500 * (n + 1); omega⟩ ⟨Nat.le_of_ble_eq_true rfl, Nat.le_of_ble_eq_true rfl⟩ dX7_isSo_42) hS (fun H locs hP hS => ?_)
      by_cases c61 : p4.1 = (61 : Int32)
      · have h := (if_pos c61).symm.trans h
        refine lv_lookup (tgt := 111) hx hb dX7_isSo_45 (by decide) (by rw [c61]) (by decide) ?_
        refine lv_aload_n hx hb dX7_isSo_111 rfl (lv_at hl 2 rfl) ?_
        refine lv_iload_n hx hb dX7_isSo_112 rfl (lv_at hl 1 rfl) ?_
        obtain ⟨p5, gp5, h⟩ := Option.bind_eq_some_iff.mp h
        refine gw_ci (gw_rV (C := RX7) X hP hS (gc_X7_meant l G p2.1 p4.2 _ gp5) gk_X7_meant gv_526 ⟨gv_528, gv_s3⟩ (va_recv hT.2.1 hP (ci := 9) (q0 := 30) rfl rfl) rfl rfl (Nat.le_of_ble_eq_true rfl) hl.1 ⟨rfl, rfl⟩ ⟨by show 1 + 1 ≤ 30 * (n + 1); omega, by show 8 + (2 + 11) + (21) ≤ 500 * (n + 1); omega⟩ ⟨Nat.le_of_ble_eq_true rfl, Nat.le_of_ble_eq_true rfl⟩ dX7_isSo_113) hS (fun H locs hP hS => ?_)
        refine lv_aload_n hx hb dX7_isSo_116 rfl (lv_at hl 2 rfl) ?_
        refine lv_iload hx hb dX7_isSo_117 (lv_at hl 0 rfl) ?_
        obtain ⟨p6, gp6, h⟩ := Option.bind_eq_some_iff.mp h
        refine gw_ci (gw_rV (C := RX7) X hP hS (gc_X7_meant l G p3.1 p5.2 _ gp6) gk_X7_meant gv_526 ⟨gv_528, gv_s3⟩ (va_recv hT.2.1 hP (ci := 9) (q0 := 30) rfl rfl) rfl rfl (Nat.le_of_ble_eq_true rfl) hl.1 ⟨rfl, rfl⟩ ⟨by show 1 + 1 ≤ 30 * (n + 1); omega, by show 8 + (2 + 11) + (21) ≤ 500 * (n + 1); omega⟩ ⟨Nat.le_of_ble_eq_true rfl, Nat.le_of_ble_eq_true rfl⟩ dX7_isSo_119) hS (fun H locs hP hS => ?_)
        refine lv_icmp_ne (tgt := 129) hx hb dX7_isSo_122 (by decide) (fun c => ?_) (fun c => ?_)
        · have h := (if_neg c).symm.trans h
          refine lv_iconst (v := 0) hx hb dX7_isSo_129 (by decide) ?_
          exact gw_rz X hP hS rfl h dX7_isSo_130
        · have h := (if_pos c).symm.trans h
          refine lv_iconst (v := 1) hx hb dX7_isSo_125 (by decide) ?_
          refine lv_goto (tgt := 130) hx hb dX7_isSo_126 (by decide) ?_
          exact gw_rz X hP hS rfl h dX7_isSo_130
      · have h := (if_neg c61).symm.trans h
        by_cases c97 : p4.1 = (97 : Int32)
        · have h := (if_pos c97).symm.trans h
          refine lv_lookup (tgt := 131) hx hb dX7_isSo_45 (by decide) (by rw [c97]) (by decide) ?_
          refine lv_aload_n hx hb dX7_isSo_131 rfl (lv_at hl 2 rfl) ?_
          refine lv_iload_n hx hb dX7_isSo_132 rfl (lv_at hl 1 rfl) ?_
          refine lv_iload_n hx hb dX7_isSo_133 rfl (lv_at hl 4 rfl) ?_
          refine lv_iconst (v := 1) hx hb dX7_isSo_134 (by decide) ?_
          refine lv_iadd hx hb dX7_isSo_135 ?_
          obtain ⟨p7, gp7, h⟩ := Option.bind_eq_some_iff.mp h
          refine gw_cz (gw_rV (C := RX7) X hP hS (ih  p2.1 (a1 + (1 : Int32)) p4.2 _ gp7) gk_X7_isSo gv_518 ⟨gv_520, gv_s2⟩ (va_recv hT.2.1 hP (ci := 9) (q0 := 30) rfl rfl) rfl rfl (Nat.le_of_ble_eq_true rfl) hl.1 ⟨rfl, rfl⟩ ⟨by show 30 * n + 1 ≤ 30 * (n + 1); omega, by show 8 + (5 + 11) + (500 * n) ≤ 500 * (n + 1); omega⟩ ⟨Nat.le_of_ble_eq_true rfl, Nat.le_of_ble_eq_true rfl⟩ dX7_isSo_136) hS (fun H locs hb_p7 hP hS => ?_)
          refine lv_if_eq (tgt := 158) hx hb dX7_isSo_139 (by decide) (fun c => ?_) (fun c => ?_)
          · have h := (if_pos c).symm.trans h
            refine lv_iconst (v := 0) hx hb dX7_isSo_158 (by decide) ?_
            exact gw_rz X hP hS rfl h dX7_isSo_159
          · have h := (if_neg c).symm.trans h
            refine lv_aload_n hx hb dX7_isSo_142 rfl (lv_at hl 2 rfl) ?_
            refine lv_iload hx hb dX7_isSo_143 (lv_at hl 0 rfl) ?_
            refine lv_iload_n hx hb dX7_isSo_145 rfl (lv_at hl 4 rfl) ?_
            refine lv_iconst (v := 1) hx hb dX7_isSo_146 (by decide) ?_
            refine lv_iadd hx hb dX7_isSo_147 ?_
            obtain ⟨p8, gp8, h⟩ := Option.bind_eq_some_iff.mp h
            refine gw_cz (gw_rV (C := RX7) X hP hS (ih  p3.1 (a1 + (1 : Int32)) p7.2 _ gp8) gk_X7_isSo gv_518 ⟨gv_520, gv_s2⟩ (va_recv hT.2.1 hP (ci := 9) (q0 := 30) rfl rfl) rfl rfl (Nat.le_of_ble_eq_true rfl) hl.1 ⟨rfl, rfl⟩ ⟨by show 30 * n + 1 ≤ 30 * (n + 1); omega, by show 8 + (5 + 11) + (500 * n) ≤ 500 * (n + 1); omega⟩ ⟨Nat.le_of_ble_eq_true rfl, Nat.le_of_ble_eq_true rfl⟩ dX7_isSo_148) hS (fun H locs hb_p8 hP hS => ?_)
            refine lv_if_eq (tgt := 158) hx hb dX7_isSo_151 (by decide) (fun c => ?_) (fun c => ?_)
            · have h := (if_pos c).symm.trans h
              refine lv_iconst (v := 0) hx hb dX7_isSo_158 (by decide) ?_
              exact gw_rz X hP hS rfl h dX7_isSo_159
            · have h := (if_neg c).symm.trans h
              refine lv_iconst (v := 1) hx hb dX7_isSo_154 (by decide) ?_
              refine lv_goto (tgt := 159) hx hb dX7_isSo_155 (by decide) ?_
              exact gw_rz X hP hS rfl h dX7_isSo_159
        · have h := (if_neg c97).symm.trans h
          by_cases c101 : p4.1 = (101 : Int32)
          · have h := (if_pos c101).symm.trans h
            refine lv_lookup (tgt := 96) hx hb dX7_isSo_45 (by decide) (by rw [c101]) (by decide) ?_
            refine lv_aload_n hx hb dX7_isSo_96 rfl (lv_at hl 2 rfl) ?_
            refine lv_iload hx hb dX7_isSo_97 (lv_at hl 0 rfl) ?_
            obtain ⟨p9, gp9, h⟩ := Option.bind_eq_some_iff.mp h
            refine gw_ci (gw_rV (C := RX7) X hP hS (gc_X7_meant l G p3.1 p4.2 _ gp9) gk_X7_meant gv_526 ⟨gv_528, gv_s3⟩ (va_recv hT.2.1 hP (ci := 9) (q0 := 30) rfl rfl) rfl rfl (Nat.le_of_ble_eq_true rfl) hl.1 ⟨rfl, rfl⟩ ⟨by show 1 + 1 ≤ 30 * (n + 1); omega, by show 8 + (2 + 11) + (21) ≤ 500 * (n + 1); omega⟩ ⟨Nat.le_of_ble_eq_true rfl, Nat.le_of_ble_eq_true rfl⟩ dX7_isSo_99) hS (fun H locs hP hS => ?_)
            refine lv_aload_n hx hb dX7_isSo_102 rfl (lv_at hl 2 rfl) ?_
            refine lv_iload_n hx hb dX7_isSo_103 rfl (lv_at hl 1 rfl) ?_
            obtain ⟨p10, gp10, h⟩ := Option.bind_eq_some_iff.mp h
            refine gw_ci (gw_rV (C := RX7) X hP hS (gc_X7_meant l G p2.1 p9.2 _ gp10) gk_X7_meant gv_526 ⟨gv_528, gv_s3⟩ (va_recv hT.2.1 hP (ci := 9) (q0 := 30) rfl rfl) rfl rfl (Nat.le_of_ble_eq_true rfl) hl.1 ⟨rfl, rfl⟩ ⟨by show 1 + 1 ≤ 30 * (n + 1); omega, by show 8 + (2 + 11) + (21) ≤ 500 * (n + 1); omega⟩ ⟨Nat.le_of_ble_eq_true rfl, Nat.le_of_ble_eq_true rfl⟩ dX7_isSo_104) hS (fun H locs hP hS => ?_)
            obtain ⟨p11, gp11, h⟩ := Option.bind_eq_some_iff.mp h
            refine gw_cz (gw_rN (host := "Genericwood") X hP hS (gc_X8_contains l G p9.1 p10.1 p10.2 _ gp11) gk_X8_contains gv_494 gv_278 rfl rfl (Nat.le_of_ble_eq_true rfl) hl.1 ⟨rfl, rfl⟩ ⟨by show 0 + 1 ≤ 30 * (n + 1); omega, by show 8 + (2 + 11) + (0) ≤ 500 * (n + 1); omega⟩ ⟨Nat.le_of_ble_eq_true rfl, Nat.le_of_ble_eq_true rfl⟩ dX7_isSo_107) hS (fun H locs hb_p11 hP hS => ?_)
            exact gw_rz X hP hS hb_p11 h dX7_isSo_110
          · have h := (if_neg c101).symm.trans h
            by_cases c110 : p4.1 = (110 : Int32)
            · have h := (if_pos c110).symm.trans h
              refine lv_lookup (tgt := 189) hx hb dX7_isSo_45 (by decide) (by rw [c110]) (by decide) ?_
              refine lv_aload_n hx hb dX7_isSo_189 rfl (lv_at hl 2 rfl) ?_
              refine lv_iload_n hx hb dX7_isSo_190 rfl (lv_at hl 1 rfl) ?_
              refine lv_iload_n hx hb dX7_isSo_191 rfl (lv_at hl 4 rfl) ?_
              refine lv_iconst (v := 1) hx hb dX7_isSo_192 (by decide) ?_
              refine lv_iadd hx hb dX7_isSo_193 ?_
              obtain ⟨p12, gp12, h⟩ := Option.bind_eq_some_iff.mp h
              refine gw_cz (gw_rV (C := RX7) X hP hS (ih  p2.1 (a1 + (1 : Int32)) p4.2 _ gp12) gk_X7_isSo gv_518 ⟨gv_520, gv_s2⟩ (va_recv hT.2.1 hP (ci := 9) (q0 := 30) rfl rfl) rfl rfl (Nat.le_of_ble_eq_true rfl) hl.1 ⟨rfl, rfl⟩ ⟨by show 30 * n + 1 ≤ 30 * (n + 1); omega, by show 8 + (5 + 11) + (500 * n) ≤ 500 * (n + 1); omega⟩ ⟨Nat.le_of_ble_eq_true rfl, Nat.le_of_ble_eq_true rfl⟩ dX7_isSo_194) hS (fun H locs hb_p12 hP hS => ?_)
              refine lv_if_ne (tgt := 204) hx hb dX7_isSo_197 (by decide) (fun c => ?_) (fun c => ?_)
              · have h := (if_neg c).symm.trans h
                refine lv_iconst (v := 0) hx hb dX7_isSo_204 (by decide) ?_
                exact gw_rz X hP hS rfl h dX7_isSo_205
              · have h := (if_pos c).symm.trans h
                refine lv_iconst (v := 1) hx hb dX7_isSo_200 (by decide) ?_
                refine lv_goto (tgt := 205) hx hb dX7_isSo_201 (by decide) ?_
                exact gw_rz X hP hS rfl h dX7_isSo_205
            · have h := (if_neg c110).symm.trans h
              by_cases c111 : p4.1 = (111 : Int32)
              · have h := (if_pos c111).symm.trans h
                refine lv_lookup (tgt := 160) hx hb dX7_isSo_45 (by decide) (by rw [c111]) (by decide) ?_
                refine lv_aload_n hx hb dX7_isSo_160 rfl (lv_at hl 2 rfl) ?_
                refine lv_iload_n hx hb dX7_isSo_161 rfl (lv_at hl 1 rfl) ?_
                refine lv_iload_n hx hb dX7_isSo_162 rfl (lv_at hl 4 rfl) ?_
                refine lv_iconst (v := 1) hx hb dX7_isSo_163 (by decide) ?_
                refine lv_iadd hx hb dX7_isSo_164 ?_
                obtain ⟨p13, gp13, h⟩ := Option.bind_eq_some_iff.mp h
                refine gw_cz (gw_rV (C := RX7) X hP hS (ih  p2.1 (a1 + (1 : Int32)) p4.2 _ gp13) gk_X7_isSo gv_518 ⟨gv_520, gv_s2⟩ (va_recv hT.2.1 hP (ci := 9) (q0 := 30) rfl rfl) rfl rfl (Nat.le_of_ble_eq_true rfl) hl.1 ⟨rfl, rfl⟩ ⟨by show 30 * n + 1 ≤ 30 * (n + 1); omega, by show 8 + (5 + 11) + (500 * n) ≤ 500 * (n + 1); omega⟩ ⟨Nat.le_of_ble_eq_true rfl, Nat.le_of_ble_eq_true rfl⟩ dX7_isSo_165) hS (fun H locs hb_p13 hP hS => ?_)
                refine lv_if_ne (tgt := 183) hx hb dX7_isSo_168 (by decide) (fun c => ?_) (fun c => ?_)
                · have h := (if_neg c).symm.trans h
                  refine lv_iconst (v := 1) hx hb dX7_isSo_183 (by decide) ?_
                  refine lv_goto (tgt := 188) hx hb dX7_isSo_184 (by decide) ?_
                  exact gw_rz X hP hS rfl h dX7_isSo_188
                · have h := (if_pos c).symm.trans h
                  refine lv_aload_n hx hb dX7_isSo_171 rfl (lv_at hl 2 rfl) ?_
                  refine lv_iload hx hb dX7_isSo_172 (lv_at hl 0 rfl) ?_
                  refine lv_iload_n hx hb dX7_isSo_174 rfl (lv_at hl 4 rfl) ?_
                  refine lv_iconst (v := 1) hx hb dX7_isSo_175 (by decide) ?_
                  refine lv_iadd hx hb dX7_isSo_176 ?_
                  obtain ⟨p14, gp14, h⟩ := Option.bind_eq_some_iff.mp h
                  refine gw_cz (gw_rV (C := RX7) X hP hS (ih  p3.1 (a1 + (1 : Int32)) p13.2 _ gp14) gk_X7_isSo gv_518 ⟨gv_520, gv_s2⟩ (va_recv hT.2.1 hP (ci := 9) (q0 := 30) rfl rfl) rfl rfl (Nat.le_of_ble_eq_true rfl) hl.1 ⟨rfl, rfl⟩ ⟨by show 30 * n + 1 ≤ 30 * (n + 1); omega, by show 8 + (5 + 11) + (500 * n) ≤ 500 * (n + 1); omega⟩ ⟨Nat.le_of_ble_eq_true rfl, Nat.le_of_ble_eq_true rfl⟩ dX7_isSo_177) hS (fun H locs hb_p14 hP hS => ?_)
                  refine lv_if_eq (tgt := 187) hx hb dX7_isSo_180 (by decide) (fun c => ?_) (fun c => ?_)
                  · have h := (if_pos c).symm.trans h
                    refine lv_iconst (v := 0) hx hb dX7_isSo_187 (by decide) ?_
                    exact gw_rz X hP hS rfl h dX7_isSo_188
                  · have h := (if_neg c).symm.trans h
                    refine lv_iconst (v := 1) hx hb dX7_isSo_183 (by decide) ?_
                    refine lv_goto (tgt := 188) hx hb dX7_isSo_184 (by decide) ?_
                    exact gw_rz X hP hS rfl h dX7_isSo_188
              · have h := (if_neg c111).symm.trans h
                refine lv_lookup (tgt := 206) hx hb dX7_isSo_45 (by decide) (show Op.lookupswitch.offset [(61, 66), (97, 86), (101, 51), (110, 144), (111, 115)] 161 (p4.1).toInt = 161 from (lv_osw c61 rfl).trans ((lv_osw c97 rfl).trans ((lv_osw c101 rfl).trans ((lv_osw c110 rfl).trans ((lv_osw c111 rfl).trans (rfl)))))) (by decide) ?_
                refine lv_aload_n hx hb dX7_isSo_206 rfl (lv_at hl 2 rfl) ?_
                refine lv_iload_n hx hb dX7_isSo_207 rfl (lv_at hl 3 rfl) ?_
                refine lv_iload_n hx hb dX7_isSo_208 rfl (lv_at hl 4 rfl) ?_
                obtain ⟨p15, gp15, h⟩ := Option.bind_eq_some_iff.mp h
                refine gw_cz (gw_rV (C := RX7) X hP hS (gc_X7_isBoundSo l G (f_X7_isSo n) (30 * n) (500 * n) ih  a0 a1 p4.2 _ gp15) gk_X7_isBoundSo gv_531 ⟨gv_533, gv_s4⟩ (va_recv hT.2.1 hP (ci := 9) (q0 := 30) rfl rfl) rfl rfl (Nat.le_of_ble_eq_true rfl) hl.1 ⟨rfl, rfl⟩ ⟨by show 30 * n + 20 + 1 ≤ 30 * (n + 1); omega, by show 8 + (9 + 11) + (500 * n + 300) ≤ 500 * (n + 1); omega⟩ ⟨Nat.le_of_ble_eq_true rfl, Nat.le_of_ble_eq_true rfl⟩ dX7_isSo_209) hS (fun H locs hb_p15 hP hS => ?_)
                exact gw_rz X hP hS hb_p15 h dX7_isSo_212
    · have h := (if_pos c).symm.trans h
      refine lv_iconst (v := 0) hx hb dX7_isSo_16 (by decide) ?_
      exact gw_rz X hP hS rfl h dX7_isSo_17
def f_X7_agrees (a0 : Int32) (σ : gw_S) : Option (Int32 × gw_S) := ((f_X7_isSo 8 a0 (1 : Int32) σ).bind fun p1 => (some (p1.1, p1.2)))
set_option maxHeartbeats 4000000 in
set_option maxRecDepth 100000 in
theorem gc_X7_agrees (l : Launch) (G : gw_G) (a0 : Int32) (σ : gw_S) (o : (Int32 × gw_S)) (h : f_X7_agrees a0 σ = some o) : gw_M (fun sz => gw_QZ G sz o) l yX7_agrees cX7_agrees 2 (some .boolean) { frames := 300, cells := 0, slots := 0, locals := 5000 } G [.ref (G.2.1 30), .int a0] σ := by
  refine gw_en (own := RX7) (lv := [(0, .ref (G.2.1 30)), (1, .int a0)]) (by decide +kernel) rfl (Nat.le_of_ble_eq_true rfl) rfl ?_
  intro p e s m below meth c ls X hl hP
  obtain ⟨hx, hb, hml, hown, hts, -, -, hT, hZ, -⟩ := id X
  have hS : va_S (gw_A G s.heap.size) s.heap s.heap [] := va_S.rf
  unfold f_X7_agrees at h
  refine lv_aload_n hx hb dX7_agrees_0 rfl (lv_at hl 0 rfl) ?_
  refine lv_iload_n hx hb dX7_agrees_1 rfl (lv_at hl 1 rfl) ?_
  refine lv_iconst (v := 1) hx hb dX7_agrees_2 (by decide) ?_
  obtain ⟨p1, gp1, h⟩ := Option.bind_eq_some_iff.mp h
  refine gw_cz (gw_rV (C := RX7) X hP hS (gc_X7_isSo l G 8  a0 (1 : Int32) σ _ gp1) gk_X7_isSo gv_518 ⟨gv_520, gv_s2⟩ (va_recv hT.2.1 hP (ci := 9) (q0 := 30) rfl rfl) rfl rfl (Nat.le_of_ble_eq_true rfl) hl.1 ⟨rfl, rfl⟩ ⟨by show 30 * 8 + 1 ≤ 300; omega, by show 8 + (5 + 11) + (500 * 8) ≤ 5000; omega⟩ ⟨Nat.le_of_ble_eq_true rfl, Nat.le_of_ble_eq_true rfl⟩ dX7_agrees_3) hS (fun H locs hb_p1 hP hS => ?_)
  exact gw_rz X hP hS hb_p1 h dX7_agrees_6
def f_X7_worldsOf_L13 : Nat → Int32 → Int32 → Int32 → Int32 → gw_S → Option (Int32 × gw_S)
  | 0, _, _, _, _, _ => none
  | n + 1, v13_1, v13_2, v13_3, v13_4, σ => ((f_X3_size  σ).bind fun p2 => (if p2.1 ≤ v13_4 then (some (v13_3, p2.2)) else ((f_X8_contains v13_2 v13_4 p2.2).bind fun p3 => (if p3.1 = 0 then (f_X7_worldsOf_L13 n v13_1 v13_2 v13_3 (v13_4 + (1 : Int32)) p3.2) else ((f_X7_enter v13_4 (0 : Int32) p3.2).bind fun p4 => ((f_X7_agrees v13_1 p4).bind fun p5 => (if p5.1 = 0 then (f_X7_worldsOf_L13 n v13_1 v13_2 (v13_3 ||| (0 : Int32)) (v13_4 + (1 : Int32)) p5.2) else (f_X7_worldsOf_L13 n v13_1 v13_2 (v13_3 ||| ((1 : Int32) <<< (v13_4 &&& 31))) (v13_4 + (1 : Int32)) p5.2))))))))
def f_X7_worldsOf (a0 : Int32) (σ : gw_S) : Option (Int32 × gw_S) := ((f_X3_ends  σ).bind fun p1 => (f_X7_worldsOf_L13 64 a0 p1.1 (0 : Int32) (0 : Int32) p1.2))
set_option maxHeartbeats 4000000 in
set_option maxRecDepth 100000 in
theorem gc_X7_worldsOf (l : Launch) (G : gw_G) (a0 : Int32) (σ : gw_S) (o : (Int32 × gw_S)) (h : f_X7_worldsOf a0 σ = some o) : gw_M (fun sz => gw_QI G sz o) l yX7_worldsOf cX7_worldsOf 5 (some .int) { frames := 301, cells := 0, slots := 0, locals := 5021 } G [.ref (G.2.1 30), .int a0] σ := by
  refine gw_en (own := RX7) (lv := [(0, .ref (G.2.1 30)), (1, .int a0)]) (by decide +kernel) rfl (Nat.le_of_ble_eq_true rfl) rfl ?_
  intro p e s m below meth c ls X hl hP
  obtain ⟨hx, hb, hml, hown, hts, -, -, hT, hZ, -⟩ := id X
  have hS : va_S (gw_A G s.heap.size) s.heap s.heap [] := va_S.rf
  have L13 : ∀ (n : Nat) (v13_1 : Int32) (v13_2 : Int32) (v13_3 : Int32) (v13_4 : Int32) (σ : gw_S) (H : Heap) (locs : List Loc) (ls : Array Slot), f_X7_worldsOf_L13 n v13_1 v13_2 v13_3 v13_4 σ = some o → gw_P G σ H → va_S (gw_A G s.heap.size) s.heap H locs → lv_has ls 5 [(0, .ref (G.2.1 30)), (1, .int v13_1), (2, .int v13_2), (3, .int v13_3), (4, .int v13_4)] → W p l e { frames := 301, cells := 0, slots := 0, locals := 5021 } s m [.ref (G.2.1 30), .int a0].toArray below meth c H locs 0 0 (MQ below (gw_QI G s.heap.size o) [.ref (G.2.1 30), .int a0].toArray s 0 0 (gw_A G s.heap.size)) (F0 m 13 ls []) := by
    intro n
    induction n with
    | zero =>
      intro v13_1 v13_2 v13_3 v13_4 σ H locs ls h
      exact absurd h (by rw [f_X7_worldsOf_L13.eq_1]; exact fun h => nomatch h)
    | succ n ih =>
      intro v13_1 v13_2 v13_3 v13_4 σ H locs ls h hP hS hl
      rw [f_X7_worldsOf_L13.eq_2] at h
      refine lv_iload hx hb dX7_worldsOf_13 (lv_at hl 4 rfl) ?_
      refine lv_aload_n hx hb dX7_worldsOf_15 rfl (lv_at hl 0 rfl) ?_
      refine va_get (D := G.1) (ci := 9) (v := .ref (G.2.1 1)) (C := RX7) (T := TX7) (N := 5) hx hb hts gx_X7 hown hT.2.1 hP 30 rfl rfl 0 (by decide) (hts _ gv_198) (fun _ h9 => h9) rfl dX7_worldsOf_16 ?_
      obtain ⟨p2, gp2, h⟩ := Option.bind_eq_some_iff.mp h
      refine gw_ci (gw_rV (C := RX3) X hP hS (gc_X3_size l G  σ _ gp2) gk_X3_size gv_493 ⟨gv_259, gv_260⟩ (va_recv hT.2.1 hP (ci := 6) (q0 := 1) rfl rfl) rfl rfl (Nat.le_of_ble_eq_true rfl) hl.1 ⟨rfl, rfl⟩ ⟨Nat.le_of_ble_eq_true rfl, Nat.le_of_ble_eq_true rfl⟩ ⟨Nat.le_of_ble_eq_true rfl, Nat.le_of_ble_eq_true rfl⟩ dX7_worldsOf_19) hS (fun H locs hP hS => ?_)
      refine lv_icmp_ge (tgt := 66) hx hb dX7_worldsOf_22 (by decide) (fun c => ?_) (fun c => ?_)
      · have h := (if_pos c).symm.trans h
        refine lv_iload_n hx hb dX7_worldsOf_66 rfl (lv_at hl 3 rfl) ?_
        exact gw_ri X hP hS h dX7_worldsOf_67
      · have h := (if_neg c).symm.trans h
        refine lv_iload_n hx hb dX7_worldsOf_25 rfl (lv_at hl 2 rfl) ?_
        refine lv_iload hx hb dX7_worldsOf_26 (lv_at hl 4 rfl) ?_
        obtain ⟨p3, gp3, h⟩ := Option.bind_eq_some_iff.mp h
        refine gw_cz (gw_rN (host := "Genericwood") X hP hS (gc_X8_contains l G v13_2 v13_4 p2.2 _ gp3) gk_X8_contains gv_494 gv_278 rfl rfl (Nat.le_of_ble_eq_true rfl) hl.1 ⟨rfl, rfl⟩ ⟨Nat.le_of_ble_eq_true rfl, Nat.le_of_ble_eq_true rfl⟩ ⟨Nat.le_of_ble_eq_true rfl, Nat.le_of_ble_eq_true rfl⟩ dX7_worldsOf_28) hS (fun H locs hb_p3 hP hS => ?_)
        refine lv_if_eq (tgt := 60) hx hb dX7_worldsOf_31 (by decide) (fun c => ?_) (fun c => ?_)
        · have h := (if_pos c).symm.trans h
          refine lv_iinc (v := (v13_4 + (1 : Int32))) (lv' := [(4, .int (v13_4 + (1 : Int32))), (0, .ref (G.2.1 30)), (1, .int v13_1), (2, .int v13_2), (3, .int v13_3)]) hx hb dX7_worldsOf_60 hl (k := 4) rfl rfl (by decide) rfl (fun ls hl => ?_)
          refine lv_goto (tgt := 13) hx hb dX7_worldsOf_63 (by decide) ?_
          exact ih v13_1 v13_2 v13_3 (v13_4 + (1 : Int32)) p3.2 _ _ _ h hP hS (lv_sub hl [1, 2, 3, 4, 0] rfl)
        · have h := (if_neg c).symm.trans h
          refine lv_aload_n hx hb dX7_worldsOf_34 rfl (lv_at hl 0 rfl) ?_
          refine lv_iload hx hb dX7_worldsOf_35 (lv_at hl 4 rfl) ?_
          refine lv_iconst (v := 0) hx hb dX7_worldsOf_37 (by decide) ?_
          obtain ⟨p4, gp4, h⟩ := Option.bind_eq_some_iff.mp h
          refine gw_cv (gw_rV (C := RX7) X hP hS (gc_X7_enter l G v13_4 (0 : Int32) p3.2 _ gp4) gk_X7_enter gv_495 ⟨gv_496, gv_497⟩ (va_recv hT.2.1 hP (ci := 9) (q0 := 30) rfl rfl) rfl rfl (Nat.le_of_ble_eq_true rfl) hl.1 ⟨rfl, rfl⟩ ⟨Nat.le_of_ble_eq_true rfl, Nat.le_of_ble_eq_true rfl⟩ ⟨Nat.le_of_ble_eq_true rfl, Nat.le_of_ble_eq_true rfl⟩ dX7_worldsOf_38) hS (fun H locs hP hS => ?_)
          refine lv_iload_n hx hb dX7_worldsOf_41 rfl (lv_at hl 3 rfl) ?_
          refine lv_aload_n hx hb dX7_worldsOf_42 rfl (lv_at hl 0 rfl) ?_
          refine lv_iload_n hx hb dX7_worldsOf_43 rfl (lv_at hl 1 rfl) ?_
          obtain ⟨p5, gp5, h⟩ := Option.bind_eq_some_iff.mp h
          refine gw_cz (gw_rV (C := RX7) X hP hS (gc_X7_agrees l G v13_1 p4 _ gp5) gk_X7_agrees gv_514 ⟨gv_515, gv_516⟩ (va_recv hT.2.1 hP (ci := 9) (q0 := 30) rfl rfl) rfl rfl (Nat.le_of_ble_eq_true rfl) hl.1 ⟨rfl, rfl⟩ ⟨Nat.le_of_ble_eq_true rfl, Nat.le_of_ble_eq_true rfl⟩ ⟨Nat.le_of_ble_eq_true rfl, Nat.le_of_ble_eq_true rfl⟩ dX7_worldsOf_44) hS (fun H locs hb_p5 hP hS => ?_)
          refine lv_if_eq (tgt := 57) hx hb dX7_worldsOf_47 (by decide) (fun c => ?_) (fun c => ?_)
          · have h := (if_pos c).symm.trans h
            refine lv_iconst (v := 0) hx hb dX7_worldsOf_57 (by decide) ?_
            refine lv_ior hx hb dX7_worldsOf_58 ?_
            refine lv_istore_n (lv' := [(3, .int (v13_3 ||| (0 : Int32))), (0, .ref (G.2.1 30)), (1, .int v13_1), (2, .int v13_2), (4, .int v13_4)]) hx hb dX7_worldsOf_59 rfl hl (by decide) rfl (fun ls hl => ?_)
            refine lv_iinc (v := (v13_4 + (1 : Int32))) (lv' := [(4, .int (v13_4 + (1 : Int32))), (3, .int (v13_3 ||| (0 : Int32))), (0, .ref (G.2.1 30)), (1, .int v13_1), (2, .int v13_2)]) hx hb dX7_worldsOf_60 hl (k := 4) rfl rfl (by decide) rfl (fun ls hl => ?_)
            refine lv_goto (tgt := 13) hx hb dX7_worldsOf_63 (by decide) ?_
            exact ih v13_1 v13_2 (v13_3 ||| (0 : Int32)) (v13_4 + (1 : Int32)) p5.2 _ _ _ h hP hS (lv_sub hl [2, 3, 4, 1, 0] rfl)
          · have h := (if_neg c).symm.trans h
            refine lv_iconst (v := 1) hx hb dX7_worldsOf_50 (by decide) ?_
            refine lv_iload hx hb dX7_worldsOf_51 (lv_at hl 4 rfl) ?_
            refine lv_ishl hx hb dX7_worldsOf_53 ?_
            refine lv_goto (tgt := 58) hx hb dX7_worldsOf_54 (by decide) ?_
            refine lv_ior hx hb dX7_worldsOf_58 ?_
            refine lv_istore_n (lv' := [(3, .int (v13_3 ||| ((1 : Int32) <<< (v13_4 &&& 31)))), (0, .ref (G.2.1 30)), (1, .int v13_1), (2, .int v13_2), (4, .int v13_4)]) hx hb dX7_worldsOf_59 rfl hl (by decide) rfl (fun ls hl => ?_)
            refine lv_iinc (v := (v13_4 + (1 : Int32))) (lv' := [(4, .int (v13_4 + (1 : Int32))), (3, .int (v13_3 ||| ((1 : Int32) <<< (v13_4 &&& 31)))), (0, .ref (G.2.1 30)), (1, .int v13_1), (2, .int v13_2)]) hx hb dX7_worldsOf_60 hl (k := 4) rfl rfl (by decide) rfl (fun ls hl => ?_)
            refine lv_goto (tgt := 13) hx hb dX7_worldsOf_63 (by decide) ?_
            exact ih v13_1 v13_2 (v13_3 ||| ((1 : Int32) <<< (v13_4 &&& 31))) (v13_4 + (1 : Int32)) p5.2 _ _ _ h hP hS (lv_sub hl [2, 3, 4, 1, 0] rfl)
  unfold f_X7_worldsOf at h
  refine lv_aload_n hx hb dX7_worldsOf_0 rfl (lv_at hl 0 rfl) ?_
  refine va_get (D := G.1) (ci := 9) (v := .ref (G.2.1 1)) (C := RX7) (T := TX7) (N := 5) hx hb hts gx_X7 hown hT.2.1 hP 30 rfl rfl 0 (by decide) (hts _ gv_198) (fun _ h9 => h9) rfl dX7_worldsOf_1 ?_
  obtain ⟨p1, gp1, h⟩ := Option.bind_eq_some_iff.mp h
  refine gw_ci (gw_rV (C := RX3) X hP hS (gc_X3_ends l G  σ _ gp1) gk_X3_ends gv_492 ⟨gv_241, gv_242⟩ (va_recv hT.2.1 hP (ci := 6) (q0 := 1) rfl rfl) rfl rfl (Nat.le_of_ble_eq_true rfl) hl.1 ⟨rfl, rfl⟩ ⟨Nat.le_of_ble_eq_true rfl, Nat.le_of_ble_eq_true rfl⟩ ⟨Nat.le_of_ble_eq_true rfl, Nat.le_of_ble_eq_true rfl⟩ dX7_worldsOf_4) hS (fun H locs hP hS => ?_)
  refine lv_istore_n (lv' := [(2, .int p1.1), (0, .ref (G.2.1 30)), (1, .int a0)]) hx hb dX7_worldsOf_7 rfl hl (by decide) rfl (fun ls hl => ?_)
  refine lv_iconst (v := 0) hx hb dX7_worldsOf_8 (by decide) ?_
  refine lv_istore_n (lv' := [(3, .int (0 : Int32)), (2, .int p1.1), (0, .ref (G.2.1 30)), (1, .int a0)]) hx hb dX7_worldsOf_9 rfl hl (by decide) rfl (fun ls hl => ?_)
  refine lv_iconst (v := 0) hx hb dX7_worldsOf_10 (by decide) ?_
  refine lv_istore (lv' := [(4, .int (0 : Int32)), (3, .int (0 : Int32)), (2, .int p1.1), (0, .ref (G.2.1 30)), (1, .int a0)]) hx hb dX7_worldsOf_11 hl (by decide) rfl (fun ls hl => ?_)
  exact L13 64 a0 p1.1 (0 : Int32) (0 : Int32) p1.2 _ _ _ h hP hS (lv_sub hl [3, 4, 2, 1, 0] rfl)
