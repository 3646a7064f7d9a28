theorem gv_x15 : Cond.selects RX6 ⟨"Genericwood$Way", "named", "(I)I"⟩ yX5_named ∈ gw_L := gw_xs 15 (by decide +kernel) (by decide +kernel)
theorem gv_378 : Cond.selects RX6 ⟨"Genericwood$Way", "whole", "()I"⟩ yX6_whole ∈ gw_L := gw_tab 378 (by decide +kernel) (by decide +kernel)
theorem gv_434 : Cond.code yX6_settled cX6_settled 2 (some .int) ∈ gw_L := gw_tab 434 (by decide +kernel) (by decide +kernel)
theorem gk_X6_settled : gw_K yX6_settled cX6_settled 2 (some .int) 1 := ⟨gv_434, gv_7, by decide +kernel, by decide +kernel⟩
theorem gv_433 : Cond.instanceMethod yX6_settled ∈ gw_L := gw_tab 433 (by decide +kernel) (by decide +kernel)
theorem gv_432 : Cond.selects RX6 ⟨"Genericwood$Way", "settled", "(I)I"⟩ yX6_settled ∈ gw_L := gw_tab 432 (by decide +kernel) (by decide +kernel)
theorem gv_x16 : Cond.selects RX6 ⟨"Genericwood$Way", "judged", "(II)I"⟩ yX5_judged ∈ gw_L := gw_xs 16 (by decide +kernel) (by decide +kernel)
theorem gv_401 : Cond.selects RX6 ⟨"Genericwood$Way", "unless", "(II)I"⟩ yX6_unless ∈ gw_L := gw_tab 401 (by decide +kernel) (by decide +kernel)
theorem gv_418 : Cond.selects RX6 ⟨"Genericwood$Way", "along", "(II)I"⟩ yX6_along ∈ gw_L := gw_tab 418 (by decide +kernel) (by decide +kernel)
theorem gv_472 : Cond.selects RX6 ⟨"Genericwood$Way", "denied", "(I)I"⟩ yX6_denied ∈ gw_L := gw_tab 472 (by decide +kernel) (by decide +kernel)
theorem gv_x17 : Cond.selects RX6 ⟨"Genericwood$Way", "judgedBound", "(II)I"⟩ yX5_judgedBound ∈ gw_L := gw_xs 17 (by decide +kernel) (by decide +kernel)
theorem gv_x13 : Cond.selects RX6 ⟨"Genericwood$Way", "partly", "(II)I"⟩ yX5_partly ∈ gw_L := gw_xs 13 (by decide +kernel) (by decide +kernel)
theorem gv_x14 : Cond.selects RX6 ⟨"Genericwood$Way", "contained", "(II)I"⟩ yX5_contained ∈ gw_L := gw_xs 14 (by decide +kernel) (by decide +kernel)
theorem gv_x12 : Cond.selects RX6 ⟨"Genericwood$Way", "refresh", "()V"⟩ yX5_refresh ∈ gw_L := gw_xs 12 (by decide +kernel) (by decide +kernel)
def f_X5_named_W (a0 : Int32) (σ : gw_S) : Option (Int32 × gw_S) := ((f_X8_isLetter a0 σ).bind fun p1 => (if p1.1 = 0 then (some (a0, p1.2)) else ((f_X8_at 29 (a0 - (100 : Int32)) p1.2).bind fun p2 => (some (p2.1, p2.2)))))
set_option maxHeartbeats 4000000 in
set_option maxRecDepth 100000 in
theorem gc_X5_named_W (l : Launch) (G : gw_G) (a0 : Int32) (σ : gw_S) (o : (Int32 × gw_S)) (h : f_X5_named_W a0 σ = some o) : gw_M (fun sz => gw_QI G sz o) l yX5_named cX5_named 2 (some .int) { frames := 1, cells := 0, slots := 0, locals := 21 } G [.ref (G.2.1 26), .int a0] σ := by
  refine gw_en (own := RX5) (lv := [(0, .ref (G.2.1 26)), (1, .int a0)]) (by decide +kernel) rfl (Nat.le_of_ble_eq_true rfl) rfl ?_
  intro p e s m below meth c ls X hl hP
  obtain ⟨hx, hb, hml, hown, hts, -, -, hT, hZ, -⟩ := id X
  have hS : va_S (gw_A G s.heap.size) s.heap s.heap [] := va_S.rf
  unfold f_X5_named_W at h
  refine lv_iload_n hx hb dX5_named_0 rfl (lv_at hl 1 rfl) ?_
  obtain ⟨p1, gp1, h⟩ := Option.bind_eq_some_iff.mp h
  refine gw_cz (gw_rN (host := "Genericwood") X hP hS (gc_X8_isLetter l G a0 σ _ gp1) gk_X8_isLetter gv_459 gv_460 rfl rfl (Nat.le_of_ble_eq_true rfl) hl.1 ⟨rfl, rfl⟩ ⟨Nat.le_of_ble_eq_true rfl, Nat.le_of_ble_eq_true rfl⟩ ⟨Nat.le_of_ble_eq_true rfl, Nat.le_of_ble_eq_true rfl⟩ dX5_named_1) hS (fun H locs hb_p1 hP hS => ?_)
  refine lv_if_eq (tgt := 21) hx hb dX5_named_4 (by decide) (fun c => ?_) (fun c => ?_)
  · have h := (if_pos c).symm.trans h
    refine lv_iload_n hx hb dX5_named_21 rfl (lv_at hl 1 rfl) ?_
    exact gw_ri X hP hS h dX5_named_22
  · have h := (if_neg c).symm.trans h
    refine lv_aload_n hx hb dX5_named_7 rfl (lv_at hl 0 rfl) ?_
    refine va_get (D := G.1) (ci := 8) (v := .ref (G.2.1 29)) (C := RX6) (T := TX6) (N := 7) hx hb hts gx_X6 hown hT.2.1 hP 26 rfl rfl 5 (by decide) (hts _ gv_147) (fun _ h9 => h9) rfl dX5_named_8 ?_
    refine lv_iload_n hx hb dX5_named_11 rfl (lv_at hl 1 rfl) ?_
    refine lv_bipush (v := 100) hx hb dX5_named_12 (by decide) ?_
    refine lv_isub hx hb dX5_named_14 ?_
    obtain ⟨p2, gp2, h⟩ := Option.bind_eq_some_iff.mp h
    refine gw_ci (gw_rN (host := "Genericwood") X hP hS (gc_X8_at l G 29 ⟨by decide, by decide⟩ (a0 - (100 : Int32)) p1.2 _ gp2) gk_X8_at gv_381 gv_275 rfl rfl (Nat.le_of_ble_eq_true rfl) hl.1 ⟨rfl, rfl⟩ ⟨Nat.le_of_ble_eq_true rfl, Nat.le_of_ble_eq_true rfl⟩ ⟨Nat.le_of_ble_eq_true rfl, Nat.le_of_ble_eq_true rfl⟩ dX5_named_15) hS (fun H locs hP hS => ?_)
    refine lv_goto (tgt := 22) hx hb dX5_named_18 (by decide) ?_
    exact gw_ri X hP hS h dX5_named_22
def f_X5_judgedBound_W_L46 (J : Int32 → Int32 → gw_S → Option (Int32 × gw_S)) : Nat → Int32 → Int32 → Int32 → Int32 → Int32 → Int32 → Int32 → Int32 → gw_S → Option (Int32 × gw_S)
  | 0, _, _, _, _, _, _, _, _, _ => none
  | n + 1, v46_1, v46_2, v46_3, v46_4, v46_5, v46_6, v46_7, v46_8, σ => ((f_X2_pairsOf v46_3 σ).bind fun p6 => (if p6.1 ≤ v46_8 then ((f_X8_put 29 v46_4 v46_5 p6.2).bind fun p7 => ((f_X1_kind v46_1 p7).bind fun p8 => (if p8.1 = (65 : Int32) then (some (v46_6, p8.2)) else ((f_X6_settled_W v46_7 p8.2).bind fun p9 => (some (p9.1, p9.2)))))) else ((f_X2_lower v46_3 v46_8 p6.2).bind fun p10 => ((f_X8_put 29 v46_4 p10.1 p10.2).bind fun p11 => ((f_X1_second v46_1 p11).bind fun p12 => ((J p12.1 (v46_2 + (1 : Int32)) p12.2).bind fun p13 => ((f_X2_promise v46_3 v46_8 p13.2).bind fun p14 => ((f_X6_unless_W p14.1 p13.1 p14.2).bind fun p15 => ((f_X2_promise v46_3 v46_8 p15.2).bind fun p16 => ((f_X6_along_W p16.1 p13.1 p16.2).bind fun p17 => (f_X5_judgedBound_W_L46 J n v46_1 v46_2 v46_3 v46_4 v46_5 (v46_6 &&& p15.1) (v46_7 ||| p17.1) (v46_8 + (1 : Int32)) p17.2)))))))))))
def f_X5_judgedBound_W (J : Int32 → Int32 → gw_S → Option (Int32 × gw_S)) (a0 : Int32) (a1 : Int32) (σ : gw_S) : Option (Int32 × gw_S) := ((f_X1_first a0 σ).bind fun p1 => ((f_X5_named_W p1.1 p1.2).bind fun p2 => ((f_X1_letter a0 p2.2).bind fun p3 => ((f_X8_at 29 p3.1 p3.2).bind fun p4 => ((f_X6_whole_W  p4.2).bind fun p5 => (f_X5_judgedBound_W_L46 J 64 a0 a1 p2.1 p3.1 p4.1 p5.1 (0 : Int32) (0 : Int32) p5.2))))))
set_option maxHeartbeats 4000000 in
set_option maxRecDepth 100000 in
theorem gc_X5_judgedBound_W (l : Launch) (G : gw_G) (J : Int32 → Int32 → gw_S → Option (Int32 × gw_S)) (FJ LJ : Nat) (hJ : ∀ (a0 a1 : Int32) (σ : gw_S) (o : Int32 × gw_S), J a0 a1 σ = some o → gw_M (fun sz => gw_QI G sz o) l yX5_judged cX5_judged 5 (some .int) { frames := FJ, cells := 0, slots := 0, locals := LJ } G [.ref (G.2.1 26), .int a0, .int a1] σ) (a0 : Int32) (a1 : Int32) (σ : gw_S) (o : (Int32 × gw_S)) (h : f_X5_judgedBound_W J a0 a1 σ = some o) : gw_M (fun sz => gw_QI G sz o) l yX5_judgedBound cX5_judgedBound 10 (some .int) { frames := FJ + 20, cells := 0, slots := 0, locals := LJ + 300 } G [.ref (G.2.1 26), .int a0, .int a1] σ := by
  refine gw_en (own := RX5) (lv := [(0, .ref (G.2.1 26)), (1, .int a0), (2, .int a1)]) (by decide +kernel) rfl (Nat.le_of_ble_eq_true rfl) rfl ?_
  intro p e s m below meth c ls X hl hP
  obtain ⟨hx, hb, hml, hown, hts, -, -, hT, hZ, -⟩ := id X
  have hS : va_S (gw_A G s.heap.size) s.heap s.heap [] := va_S.rf
  have L46 : ∀ (n : Nat) (v46_1 : Int32) (v46_2 : Int32) (v46_3 : Int32) (v46_4 : Int32) (v46_5 : Int32) (v46_6 : Int32) (v46_7 : Int32) (v46_8 : Int32) (σ : gw_S) (H : Heap) (locs : List Loc) (ls : Array Slot), f_X5_judgedBound_W_L46 J n v46_1 v46_2 v46_3 v46_4 v46_5 v46_6 v46_7 v46_8 σ = some o → gw_P G σ H → va_S (gw_A G s.heap.size) s.heap H locs → lv_has ls 10 [(0, .ref (G.2.1 26)), (1, .int v46_1), (2, .int v46_2), (3, .int v46_3), (4, .int v46_4), (5, .int v46_5), (6, .int v46_6), (7, .int v46_7), (8, .int v46_8)] → W p l e { frames := FJ + 20, cells := 0, slots := 0, locals := LJ + 300 } s m [.ref (G.2.1 26), .int a0, .int a1].toArray below meth c H locs 0 0 (MQ below (gw_QI G s.heap.size o) [.ref (G.2.1 26), .int a0, .int a1].toArray s 0 0 (gw_A G s.heap.size)) (F0 m 46 ls []) := by
    intro n
    induction n with
    | zero =>
      intro v46_1 v46_2 v46_3 v46_4 v46_5 v46_6 v46_7 v46_8 σ H locs ls h
      exact absurd h (by rw [f_X5_judgedBound_W_L46.eq_1]; exact fun h => nomatch h)
    | succ n ih =>
      intro v46_1 v46_2 v46_3 v46_4 v46_5 v46_6 v46_7 v46_8 σ H locs ls h hP hS hl
      rw [f_X5_judgedBound_W_L46.eq_2] at h
      refine lv_iload hx hb dX5_judgedBound_46 (lv_at hl 8 rfl) ?_
      refine lv_aload_n hx hb dX5_judgedBound_48 rfl (lv_at hl 0 rfl) ?_
      refine va_get (D := G.1) (ci := 8) (v := .ref (G.2.1 4)) (C := RX6) (T := TX6) (N := 7) hx hb hts gx_X6 hown hT.2.1 hP 26 rfl rfl 1 (by decide) (hts _ gv_143) (fun _ h9 => h9) rfl dX5_judgedBound_49 ?_
      refine lv_iload_n hx hb dX5_judgedBound_52 rfl (lv_at hl 3 rfl) ?_
      obtain ⟨p6, gp6, h⟩ := Option.bind_eq_some_iff.mp h
      refine gw_ci (gw_rV (C := RX2) X hP hS (gc_X2_pairsOf l G v46_3 σ _ gp6) gk_X2_pairsOf gv_379 ⟨gv_313, gv_314⟩ (va_recv hT.2.1 hP (ci := 5) (q0 := 4) rfl rfl) rfl rfl (Nat.le_of_ble_eq_true rfl) hl.1 ⟨rfl, rfl⟩ ⟨by show 1 + 1 ≤ FJ + 20; omega, by show 8 + (2 + 11) + (21) ≤ LJ + 300; omega⟩ ⟨Nat.le_of_ble_eq_true rfl, Nat.le_of_ble_eq_true rfl⟩ dX5_judgedBound_53) hS (fun H locs hP hS => ?_)
      refine lv_icmp_ge (tgt := 143) hx hb dX5_judgedBound_56 (by decide) (fun c => ?_) (fun c => ?_)
      · have h := (if_pos c).symm.trans h
        refine lv_aload_n hx hb dX5_judgedBound_143 rfl (lv_at hl 0 rfl) ?_
        refine va_get (D := G.1) (ci := 8) (v := .ref (G.2.1 29)) (C := RX6) (T := TX6) (N := 7) hx hb hts gx_X6 hown hT.2.1 hP 26 rfl rfl 5 (by decide) (hts _ gv_147) (fun _ h9 => h9) rfl dX5_judgedBound_144 ?_
        refine lv_iload hx hb dX5_judgedBound_147 (lv_at hl 4 rfl) ?_
        refine lv_iload hx hb dX5_judgedBound_149 (lv_at hl 5 rfl) ?_
        obtain ⟨p7, gp7, h⟩ := Option.bind_eq_some_iff.mp h
        refine gw_cv (gw_rN (host := "Genericwood") X hP hS (gc_X8_put l G 29 ⟨by decide, by decide⟩ v46_4 v46_5 p6.2 _ gp7) gk_X8_put gv_402 gv_403 rfl rfl (Nat.le_of_ble_eq_true rfl) hl.1 ⟨rfl, rfl⟩ ⟨by show 0 + 1 ≤ FJ + 20; omega, by show 8 + (3 + 11) + (0) ≤ LJ + 300; omega⟩ ⟨Nat.le_of_ble_eq_true rfl, Nat.le_of_ble_eq_true rfl⟩ dX5_judgedBound_151) hS (fun H locs hP hS => ?_)
        refine lv_aload_n hx hb dX5_judgedBound_154 rfl (lv_at hl 0 rfl) ?_
        refine va_get (D := G.1) (ci := 8) (v := .ref (G.2.1 11)) (C := RX6) (T := TX6) (N := 7) hx hb hts gx_X6 hown hT.2.1 hP 26 rfl rfl 2 (by decide) (hts _ gv_144) (fun _ h9 => h9) rfl dX5_judgedBound_155 ?_
        refine lv_iload_n hx hb dX5_judgedBound_158 rfl (lv_at hl 1 rfl) ?_
        obtain ⟨p8, gp8, h⟩ := Option.bind_eq_some_iff.mp h
        refine gw_ci (gw_rV (C := RX1) X hP hS (gc_X1_kind l G v46_1 p7 _ gp8) gk_X1_kind gv_451 ⟨gv_452, gv_453⟩ (va_recv hT.2.1 hP (ci := 4) (q0 := 11) rfl rfl) rfl rfl (Nat.le_of_ble_eq_true rfl) hl.1 ⟨rfl, rfl⟩ ⟨by show 1 + 1 ≤ FJ + 20; omega, by show 8 + (2 + 11) + (21) ≤ LJ + 300; omega⟩ ⟨Nat.le_of_ble_eq_true rfl, Nat.le_of_ble_eq_true rfl⟩ dX5_judgedBound_159) hS (fun H locs hP hS => ?_)
        refine lv_bipush (v := 65) hx hb dX5_judgedBound_162 (by decide) ?_
        refine lv_icmp_ne (tgt := 172) hx hb dX5_judgedBound_164 (by decide) (fun c => ?_) (fun c => ?_)
        · have h := (if_neg c).symm.trans h
          refine lv_aload_n hx hb dX5_judgedBound_172 rfl (lv_at hl 0 rfl) ?_
          refine lv_iload hx hb dX5_judgedBound_173 (lv_at hl 7 rfl) ?_
          obtain ⟨p9, gp9, h⟩ := Option.bind_eq_some_iff.mp h
          refine gw_ci (gw_rU (x := ⟨"Genericwood$Way", "settled", "(I)I"⟩) (owner := "Genericwood$Way") (C := RX6) X hP hS (gc_X6_settled_W l G v46_7 p8.2 _ gp9) gk_X6_settled ⟨by decide +kernel, by decide +kernel⟩ gv_419 ⟨gv_421, gv_432, gv_433⟩ (va_Decl.abs (va_Nw.of rfl (hts _ gv_420))) (va_recv hT.2.1 hP (ci := 8) (q0 := 26) rfl rfl) rfl rfl (Nat.le_of_ble_eq_true rfl) hl.1 ⟨rfl, rfl⟩ ⟨by show 0 + 1 ≤ FJ + 20; omega, by show 8 + (2 + 11) + (0) ≤ LJ + 300; omega⟩ ⟨Nat.le_of_ble_eq_true rfl, Nat.le_of_ble_eq_true rfl⟩ dX5_judgedBound_175) hS (fun H locs hP hS => ?_)
          exact gw_ri X hP hS h dX5_judgedBound_178
        · have h := (if_pos c).symm.trans h
          refine lv_iload hx hb dX5_judgedBound_167 (lv_at hl 6 rfl) ?_
          refine lv_goto (tgt := 178) hx hb dX5_judgedBound_169 (by decide) ?_
          exact gw_ri X hP hS h dX5_judgedBound_178
      · have h := (if_neg c).symm.trans h
        refine lv_aload_n hx hb dX5_judgedBound_59 rfl (lv_at hl 0 rfl) ?_
        refine va_get (D := G.1) (ci := 8) (v := .ref (G.2.1 29)) (C := RX6) (T := TX6) (N := 7) hx hb hts gx_X6 hown hT.2.1 hP 26 rfl rfl 5 (by decide) (hts _ gv_147) (fun _ h9 => h9) rfl dX5_judgedBound_60 ?_
        refine lv_iload hx hb dX5_judgedBound_63 (lv_at hl 4 rfl) ?_
        refine lv_aload_n hx hb dX5_judgedBound_65 rfl (lv_at hl 0 rfl) ?_
        refine va_get (D := G.1) (ci := 8) (v := .ref (G.2.1 4)) (C := RX6) (T := TX6) (N := 7) hx hb hts gx_X6 hown hT.2.1 hP 26 rfl rfl 1 (by decide) (hts _ gv_143) (fun _ h9 => h9) rfl dX5_judgedBound_66 ?_
        refine lv_iload_n hx hb dX5_judgedBound_69 rfl (lv_at hl 3 rfl) ?_
        refine lv_iload hx hb dX5_judgedBound_70 (lv_at hl 8 rfl) ?_
        obtain ⟨p10, gp10, h⟩ := Option.bind_eq_some_iff.mp h
        refine gw_ci (gw_rV (C := RX2) X hP hS (gc_X2_lower l G v46_3 v46_8 p6.2 _ gp10) gk_X2_lower gv_380 ⟨gv_317, gv_318⟩ (va_recv hT.2.1 hP (ci := 5) (q0 := 4) rfl rfl) rfl rfl (Nat.le_of_ble_eq_true rfl) hl.1 ⟨rfl, rfl⟩ ⟨by show 1 + 1 ≤ FJ + 20; omega, by show 8 + (3 + 11) + (21) ≤ LJ + 300; omega⟩ ⟨Nat.le_of_ble_eq_true rfl, Nat.le_of_ble_eq_true rfl⟩ dX5_judgedBound_72) hS (fun H locs hP hS => ?_)
        obtain ⟨p11, gp11, h⟩ := Option.bind_eq_some_iff.mp h
        refine gw_cv (gw_rN (host := "Genericwood") X hP hS (gc_X8_put l G 29 ⟨by decide, by decide⟩ v46_4 p10.1 p10.2 _ gp11) gk_X8_put gv_402 gv_403 rfl rfl (Nat.le_of_ble_eq_true rfl) hl.1 ⟨rfl, rfl⟩ ⟨by show 0 + 1 ≤ FJ + 20; omega, by show 8 + (3 + 11) + (0) ≤ LJ + 300; omega⟩ ⟨Nat.le_of_ble_eq_true rfl, Nat.le_of_ble_eq_true rfl⟩ dX5_judgedBound_75) hS (fun H locs hP hS => ?_)
        refine lv_aload_n hx hb dX5_judgedBound_78 rfl (lv_at hl 0 rfl) ?_
        refine lv_aload_n hx hb dX5_judgedBound_79 rfl (lv_at hl 0 rfl) ?_
        refine va_get (D := G.1) (ci := 8) (v := .ref (G.2.1 11)) (C := RX6) (T := TX6) (N := 7) hx hb hts gx_X6 hown hT.2.1 hP 26 rfl rfl 2 (by decide) (hts _ gv_144) (fun _ h9 => h9) rfl dX5_judgedBound_80 ?_
        refine lv_iload_n hx hb dX5_judgedBound_83 rfl (lv_at hl 1 rfl) ?_
        obtain ⟨p12, gp12, h⟩ := Option.bind_eq_some_iff.mp h
        refine gw_ci (gw_rV (C := RX1) X hP hS (gc_X1_second l G v46_1 p11 _ gp12) gk_X1_second gv_447 ⟨gv_448, gv_449⟩ (va_recv hT.2.1 hP (ci := 4) (q0 := 11) rfl rfl) rfl rfl (Nat.le_of_ble_eq_true rfl) hl.1 ⟨rfl, rfl⟩ ⟨by show 1 + 1 ≤ FJ + 20; omega, by show 8 + (2 + 11) + (21) ≤ LJ + 300; omega⟩ ⟨Nat.le_of_ble_eq_true rfl, Nat.le_of_ble_eq_true rfl⟩ dX5_judgedBound_84) hS (fun H locs hP hS => ?_)
        refine lv_iload_n hx hb dX5_judgedBound_87 rfl (lv_at hl 2 rfl) ?_
        refine lv_iconst (v := 1) hx hb dX5_judgedBound_88 (by decide) ?_
        refine lv_iadd hx hb dX5_judgedBound_89 ?_
        obtain ⟨p13, gp13, h⟩ := Option.bind_eq_some_iff.mp h
        refine gw_ci (gw_rU (x := ⟨"Genericwood$Way", "judged", "(II)I"⟩) (owner := "Genericwood$Way") (C := RX6) X hP hS (hJ  p12.1 (v46_2 + (1 : Int32)) p12.2 _ gp13) gk_X5_judged ⟨by decide +kernel, by decide +kernel⟩ gv_435 ⟨gv_1796, gv_x16, gv_437⟩ (va_Decl.of (hts _ gv_437) (hts _ gk_X5_judged.1)) (va_recv hT.2.1 hP (ci := 8) (q0 := 26) rfl rfl) rfl rfl (Nat.le_of_ble_eq_true rfl) hl.1 ⟨rfl, rfl⟩ ⟨by show FJ + 1 ≤ FJ + 20; omega, by show 8 + (5 + 11) + (LJ) ≤ LJ + 300; omega⟩ ⟨Nat.le_of_ble_eq_true rfl, Nat.le_of_ble_eq_true rfl⟩ dX5_judgedBound_90) hS (fun H locs hP hS => ?_)
        refine lv_istore (lv' := [(9, .int p13.1), (0, .ref (G.2.1 26)), (1, .int v46_1), (2, .int v46_2), (3, .int v46_3), (4, .int v46_4), (5, .int v46_5), (6, .int v46_6), (7, .int v46_7), (8, .int v46_8)]) hx hb dX5_judgedBound_93 hl (by decide) rfl (fun ls hl => ?_)
        refine lv_iload hx hb dX5_judgedBound_95 (lv_at hl 7 rfl) ?_
        refine lv_aload_n hx hb dX5_judgedBound_97 rfl (lv_at hl 1 rfl) ?_
        refine lv_aload_n hx hb dX5_judgedBound_98 rfl (lv_at hl 1 rfl) ?_
        refine va_get (D := G.1) (ci := 8) (v := .ref (G.2.1 4)) (C := RX6) (T := TX6) (N := 7) hx hb hts gx_X6 hown hT.2.1 hP 26 rfl rfl 1 (by decide) (hts _ gv_143) (fun _ h9 => h9) rfl dX5_judgedBound_99 ?_
        refine lv_iload_n hx hb dX5_judgedBound_102 rfl (lv_at hl 4 rfl) ?_
        refine lv_iload hx hb dX5_judgedBound_103 (lv_at hl 9 rfl) ?_
        obtain ⟨p14, gp14, h⟩ := Option.bind_eq_some_iff.mp h
        refine gw_ci (gw_rV (C := RX2) X hP hS (gc_X2_promise l G v46_3 v46_8 p13.2 _ gp14) gk_X2_promise gv_382 ⟨gv_321, gv_322⟩ (va_recv hT.2.1 hP (ci := 5) (q0 := 4) rfl rfl) rfl rfl (Nat.le_of_ble_eq_true rfl) hl.1 ⟨rfl, rfl⟩ ⟨by show 1 + 1 ≤ FJ + 20; omega, by show 8 + (3 + 11) + (21) ≤ LJ + 300; omega⟩ ⟨Nat.le_of_ble_eq_true rfl, Nat.le_of_ble_eq_true rfl⟩ dX5_judgedBound_105) hS (fun H locs hP hS => ?_)
        refine lv_iload hx hb dX5_judgedBound_108 (lv_at hl 0 rfl) ?_
        obtain ⟨p15, gp15, h⟩ := Option.bind_eq_some_iff.mp h
        refine gw_ci (gw_rU (x := ⟨"Genericwood$Way", "unless", "(II)I"⟩) (owner := "Genericwood$Way") (C := RX6) X hP hS (gc_X6_unless_W l G p14.1 p13.1 p14.2 _ gp15) gk_X6_unless ⟨by decide +kernel, by decide +kernel⟩ gv_383 ⟨gv_385, gv_401, gv_387⟩ (va_Decl.abs (va_Nw.of rfl (hts _ gv_384))) (va_recv hT.2.1 hP (ci := 8) (q0 := 26) rfl rfl) rfl rfl (Nat.le_of_ble_eq_true rfl) hl.1 ⟨rfl, rfl⟩ ⟨by show 2 + 1 ≤ FJ + 20; omega, by show 8 + (5 + 11) + (42) ≤ LJ + 300; omega⟩ ⟨Nat.le_of_ble_eq_true rfl, Nat.le_of_ble_eq_true rfl⟩ dX5_judgedBound_110) hS (fun H locs hP hS => ?_)
        refine lv_iand hx hb dX5_judgedBound_113 ?_
        refine lv_istore (lv' := [(6, .int (v46_6 &&& p15.1)), (9, .int p13.1), (0, .ref (G.2.1 26)), (1, .int v46_1), (2, .int v46_2), (3, .int v46_3), (4, .int v46_4), (5, .int v46_5), (7, .int v46_7), (8, .int v46_8)]) hx hb dX5_judgedBound_114 hl (by decide) rfl (fun ls hl => ?_)
        refine lv_iload hx hb dX5_judgedBound_116 (lv_at hl 8 rfl) ?_
        refine lv_aload_n hx hb dX5_judgedBound_118 rfl (lv_at hl 2 rfl) ?_
        refine lv_aload_n hx hb dX5_judgedBound_119 rfl (lv_at hl 2 rfl) ?_
        refine va_get (D := G.1) (ci := 8) (v := .ref (G.2.1 4)) (C := RX6) (T := TX6) (N := 7) hx hb hts gx_X6 hown hT.2.1 hP 26 rfl rfl 1 (by decide) (hts _ gv_143) (fun _ h9 => h9) rfl dX5_judgedBound_120 ?_
        refine lv_iload_n hx hb dX5_judgedBound_123 rfl (lv_at hl 5 rfl) ?_
        refine lv_iload hx hb dX5_judgedBound_124 (lv_at hl 9 rfl) ?_
        obtain ⟨p16, gp16, h⟩ := Option.bind_eq_some_iff.mp h
        refine gw_ci (gw_rV (C := RX2) X hP hS (gc_X2_promise l G v46_3 v46_8 p15.2 _ gp16) gk_X2_promise gv_382 ⟨gv_321, gv_322⟩ (va_recv hT.2.1 hP (ci := 5) (q0 := 4) rfl rfl) rfl rfl (Nat.le_of_ble_eq_true rfl) hl.1 ⟨rfl, rfl⟩ ⟨by show 1 + 1 ≤ FJ + 20; omega, by show 8 + (3 + 11) + (21) ≤ LJ + 300; omega⟩ ⟨Nat.le_of_ble_eq_true rfl, Nat.le_of_ble_eq_true rfl⟩ dX5_judgedBound_126) hS (fun H locs hP hS => ?_)
        refine lv_iload hx hb dX5_judgedBound_129 (lv_at hl 1 rfl) ?_
        obtain ⟨p17, gp17, h⟩ := Option.bind_eq_some_iff.mp h
        refine gw_ci (gw_rU (x := ⟨"Genericwood$Way", "along", "(II)I"⟩) (owner := "Genericwood$Way") (C := RX6) X hP hS (gc_X6_along_W l G p16.1 p13.1 p16.2 _ gp17) gk_X6_along ⟨by decide +kernel, by decide +kernel⟩ gv_409 ⟨gv_411, gv_418, gv_413⟩ (va_Decl.abs (va_Nw.of rfl (hts _ gv_410))) (va_recv hT.2.1 hP (ci := 8) (q0 := 26) rfl rfl) rfl rfl (Nat.le_of_ble_eq_true rfl) hl.1 ⟨rfl, rfl⟩ ⟨by show 2 + 1 ≤ FJ + 20; omega, by show 8 + (3 + 11) + (42) ≤ LJ + 300; omega⟩ ⟨Nat.le_of_ble_eq_true rfl, Nat.le_of_ble_eq_true rfl⟩ dX5_judgedBound_131) hS (fun H locs hP hS => ?_)
        refine lv_ior hx hb dX5_judgedBound_134 ?_
        refine lv_istore (lv' := [(7, .int (v46_7 ||| p17.1)), (6, .int (v46_6 &&& p15.1)), (9, .int p13.1), (0, .ref (G.2.1 26)), (1, .int v46_1), (2, .int v46_2), (3, .int v46_3), (4, .int v46_4), (5, .int v46_5), (8, .int v46_8)]) hx hb dX5_judgedBound_135 hl (by decide) rfl (fun ls hl => ?_)
        refine lv_iinc (v := (v46_8 + (1 : Int32))) (lv' := [(8, .int (v46_8 + (1 : Int32))), (7, .int (v46_7 ||| p17.1)), (6, .int (v46_6 &&& p15.1)), (9, .int p13.1), (0, .ref (G.2.1 26)), (1, .int v46_1), (2, .int v46_2), (3, .int v46_3), (4, .int v46_4), (5, .int v46_5)]) hx hb dX5_judgedBound_137 hl (k := 9) rfl rfl (by decide) rfl (fun ls hl => ?_)
        refine lv_goto (tgt := 46) hx hb dX5_judgedBound_140 (by decide) ?_
        exact ih v46_1 v46_2 v46_3 v46_4 v46_5 (v46_6 &&& p15.1) (v46_7 ||| p17.1) (v46_8 + (1 : Int32)) p17.2 _ _ _ h hP hS (lv_sub hl [4, 5, 6, 7, 8, 9, 2, 1, 0] rfl)
  unfold f_X5_judgedBound_W at h
  refine lv_aload_n hx hb dX5_judgedBound_0 rfl (lv_at hl 0 rfl) ?_
  refine lv_aload_n hx hb dX5_judgedBound_1 rfl (lv_at hl 0 rfl) ?_
  refine va_get (D := G.1) (ci := 8) (v := .ref (G.2.1 11)) (C := RX6) (T := TX6) (N := 7) hx hb hts gx_X6 hown hT.2.1 hP 26 rfl rfl 2 (by decide) (hts _ gv_144) (fun _ h9 => h9) rfl dX5_judgedBound_2 ?_
  refine lv_iload_n hx hb dX5_judgedBound_5 rfl (lv_at hl 1 rfl) ?_
  obtain ⟨p1, gp1, h⟩ := Option.bind_eq_some_iff.mp h
  refine gw_ci (gw_rV (C := RX1) X hP hS (gc_X1_first l G a0 σ _ gp1) gk_X1_first gv_443 ⟨gv_444, gv_445⟩ (va_recv hT.2.1 hP (ci := 4) (q0 := 11) rfl rfl) rfl rfl (Nat.le_of_ble_eq_true rfl) hl.1 ⟨rfl, rfl⟩ ⟨by show 1 + 1 ≤ FJ + 20; omega, by show 8 + (2 + 11) + (21) ≤ LJ + 300; omega⟩ ⟨Nat.le_of_ble_eq_true rfl, Nat.le_of_ble_eq_true rfl⟩ dX5_judgedBound_6) hS (fun H locs hP hS => ?_)
  obtain ⟨p2, gp2, h⟩ := Option.bind_eq_some_iff.mp h
  refine gw_ci (gw_rU (x := ⟨"Genericwood$Way", "named", "(I)I"⟩) (owner := "Genericwood$Way") (C := RX6) X hP hS (gc_X5_named_W l G p1.1 p1.2 _ gp2) gk_X5_named ⟨by decide +kernel, by decide +kernel⟩ gv_455 ⟨gv_1797, gv_x15, gv_457⟩ (va_Decl.of (hts _ gv_457) (hts _ gk_X5_named.1)) (va_recv hT.2.1 hP (ci := 8) (q0 := 26) rfl rfl) rfl rfl (Nat.le_of_ble_eq_true rfl) hl.1 ⟨rfl, rfl⟩ ⟨by show 1 + 1 ≤ FJ + 20; omega, by show 8 + (2 + 11) + (21) ≤ LJ + 300; omega⟩ ⟨Nat.le_of_ble_eq_true rfl, Nat.le_of_ble_eq_true rfl⟩ dX5_judgedBound_9) hS (fun H locs hP hS => ?_)
  refine lv_istore_n (lv' := [(3, .int p2.1), (0, .ref (G.2.1 26)), (1, .int a0), (2, .int a1)]) hx hb dX5_judgedBound_12 rfl hl (by decide) rfl (fun ls hl => ?_)
  refine lv_aload_n hx hb dX5_judgedBound_13 rfl (lv_at hl 1 rfl) ?_
  refine va_get (D := G.1) (ci := 8) (v := .ref (G.2.1 11)) (C := RX6) (T := TX6) (N := 7) hx hb hts gx_X6 hown hT.2.1 hP 26 rfl rfl 2 (by decide) (hts _ gv_144) (fun _ h9 => h9) rfl dX5_judgedBound_14 ?_
  refine lv_iload_n hx hb dX5_judgedBound_17 rfl (lv_at hl 2 rfl) ?_
  obtain ⟨p3, gp3, h⟩ := Option.bind_eq_some_iff.mp h
  refine gw_ci (gw_rV (C := RX1) X hP hS (gc_X1_letter l G a0 p2.2 _ gp3) gk_X1_letter gv_477 ⟨gv_478, gv_479⟩ (va_recv hT.2.1 hP (ci := 4) (q0 := 11) rfl rfl) rfl rfl (Nat.le_of_ble_eq_true rfl) hl.1 ⟨rfl, rfl⟩ ⟨by show 1 + 1 ≤ FJ + 20; omega, by show 8 + (2 + 11) + (21) ≤ LJ + 300; omega⟩ ⟨Nat.le_of_ble_eq_true rfl, Nat.le_of_ble_eq_true rfl⟩ dX5_judgedBound_18) hS (fun H locs hP hS => ?_)
  refine lv_istore (lv' := [(4, .int p3.1), (3, .int p2.1), (0, .ref (G.2.1 26)), (1, .int a0), (2, .int a1)]) hx hb dX5_judgedBound_21 hl (by decide) rfl (fun ls hl => ?_)
  refine lv_aload_n hx hb dX5_judgedBound_23 rfl (lv_at hl 2 rfl) ?_
  refine va_get (D := G.1) (ci := 8) (v := .ref (G.2.1 29)) (C := RX6) (T := TX6) (N := 7) hx hb hts gx_X6 hown hT.2.1 hP 26 rfl rfl 5 (by decide) (hts _ gv_147) (fun _ h9 => h9) rfl dX5_judgedBound_24 ?_
  refine lv_iload hx hb dX5_judgedBound_27 (lv_at hl 0 rfl) ?_
  obtain ⟨p4, gp4, h⟩ := Option.bind_eq_some_iff.mp h
  refine gw_ci (gw_rN (host := "Genericwood") X hP hS (gc_X8_at l G 29 ⟨by decide, by decide⟩ p3.1 p3.2 _ gp4) gk_X8_at gv_381 gv_275 rfl rfl (Nat.le_of_ble_eq_true rfl) hl.1 ⟨rfl, rfl⟩ ⟨by show 0 + 1 ≤ FJ + 20; omega, by show 8 + (2 + 11) + (0) ≤ LJ + 300; omega⟩ ⟨Nat.le_of_ble_eq_true rfl, Nat.le_of_ble_eq_true rfl⟩ dX5_judgedBound_29) hS (fun H locs hP hS => ?_)
  refine lv_istore (lv' := [(5, .int p4.1), (4, .int p3.1), (3, .int p2.1), (0, .ref (G.2.1 26)), (1, .int a0), (2, .int a1)]) hx hb dX5_judgedBound_32 hl (by decide) rfl (fun ls hl => ?_)
  refine lv_aload_n hx hb dX5_judgedBound_34 rfl (lv_at hl 3 rfl) ?_
  obtain ⟨p5, gp5, h⟩ := Option.bind_eq_some_iff.mp h
  refine gw_ci (gw_rU (x := ⟨"Genericwood$Way", "whole", "()I"⟩) (owner := "Genericwood$Way") (C := RX6) X hP hS (gc_X6_whole_W l G  p4.2 _ gp5) gk_X6_whole ⟨by decide +kernel, by decide +kernel⟩ gv_364 ⟨gv_366, gv_378, gv_368⟩ (va_Decl.abs (va_Nw.of rfl (hts _ gv_365))) (va_recv hT.2.1 hP (ci := 8) (q0 := 26) rfl rfl) rfl rfl (Nat.le_of_ble_eq_true rfl) hl.1 ⟨rfl, rfl⟩ ⟨by show 1 + 1 ≤ FJ + 20; omega, by show 8 + (1 + 11) + (20) ≤ LJ + 300; omega⟩ ⟨Nat.le_of_ble_eq_true rfl, Nat.le_of_ble_eq_true rfl⟩ dX5_judgedBound_35) hS (fun H locs hP hS => ?_)
  refine lv_istore (lv' := [(6, .int p5.1), (5, .int p4.1), (4, .int p3.1), (3, .int p2.1), (0, .ref (G.2.1 26)), (1, .int a0), (2, .int a1)]) hx hb dX5_judgedBound_38 hl (by decide) rfl (fun ls hl => ?_)
  refine lv_iconst (v := 0) hx hb dX5_judgedBound_40 (by decide) ?_
  refine lv_istore (lv' := [(7, .int (0 : Int32)), (6, .int p5.1), (5, .int p4.1), (4, .int p3.1), (3, .int p2.1), (0, .ref (G.2.1 26)), (1, .int a0), (2, .int a1)]) hx hb dX5_judgedBound_41 hl (by decide) rfl (fun ls hl => ?_)
  refine lv_iconst (v := 0) hx hb dX5_judgedBound_43 (by decide) ?_
  refine lv_istore (lv' := [(8, .int (0 : Int32)), (7, .int (0 : Int32)), (6, .int p5.1), (5, .int p4.1), (4, .int p3.1), (3, .int p2.1), (0, .ref (G.2.1 26)), (1, .int a0), (2, .int a1)]) hx hb dX5_judgedBound_44 hl (by decide) rfl (fun ls hl => ?_)
  exact L46 64 a0 a1 p2.1 p3.1 p4.1 p5.1 (0 : Int32) (0 : Int32) p5.2 _ _ _ h hP hS (lv_sub hl [6, 7, 8, 5, 4, 3, 2, 1, 0] rfl)
def f_X5_judged_W : Nat → Int32 → Int32 → gw_S → Option (Int32 × gw_S)
  | 0, _, _, _ => none
  | n + 1, a0, a1, σ => (if (5 : Int32) < a1 then (some ((0 : Int32), σ)) else ((f_X1_knows a0 σ).bind fun p1 => (if p1.1 = 0 then (some ((0 : Int32), p1.2)) else ((f_X1_first a0 p1.2).bind fun p2 => ((f_X1_second a0 p2.2).bind fun p3 => ((f_X1_kind a0 p3.2).bind fun p4 => (if p4.1 = (61 : Int32) then ((f_X5_named_W p2.1 p4.2).bind fun p5 => ((f_X5_named_W p3.1 p5.2).bind fun p6 => ((f_X8_at 27 ((p5.1 * (12 : Int32)) + p6.1) p6.2).bind fun p7 => (some (p7.1, p7.2))))) else (if p4.1 = (97 : Int32) then ((f_X5_judged_W n p2.1 (a1 + (1 : Int32)) p4.2).bind fun p8 => ((f_X5_judged_W n p3.1 (a1 + (1 : Int32)) p8.2).bind fun p9 => (some ((p8.1 &&& p9.1), p9.2)))) else (if p4.1 = (101 : Int32) then ((f_X5_named_W p2.1 p4.2).bind fun p10 => ((f_X5_named_W p3.1 p10.2).bind fun p11 => ((f_X8_at 28 ((p10.1 * (12 : Int32)) + p11.1) p11.2).bind fun p12 => (some (p12.1, p12.2))))) else (if p4.1 = (110 : Int32) then ((f_X5_judged_W n p2.1 (a1 + (1 : Int32)) p4.2).bind fun p13 => ((f_X6_denied_W p13.1 p13.2).bind fun p14 => (some (p14.1, p14.2)))) else (if p4.1 = (111 : Int32) then ((f_X5_judged_W n p2.1 (a1 + (1 : Int32)) p4.2).bind fun p15 => ((f_X5_judged_W n p3.1 (a1 + (1 : Int32)) p15.2).bind fun p16 => ((f_X6_settled_W (p15.1 ||| p16.1) p16.2).bind fun p17 => (some (p17.1, p17.2))))) else ((f_X5_judgedBound_W (f_X5_judged_W n) a0 a1 p4.2).bind fun p18 => (some (p18.1, p18.2))))))))))))))
set_option maxHeartbeats 4000000 in
set_option maxRecDepth 100000 in
theorem gc_X5_judged_W (l : Launch) (G : gw_G) : ∀ (n : Nat) (a0 : Int32) (a1 : Int32) (σ : gw_S) (o : (Int32 × gw_S)), f_X5_judged_W n a0 a1 σ = some o → gw_M (fun sz => gw_QI G sz o) l yX5_judged cX5_judged 5 (some .int) { frames := 30 * n, cells := 0, slots := 0, locals := 500 * n } G [.ref (G.2.1 26), .int a0, .int a1] σ := by
  intro n
  induction n with
  | zero =>
    intro a0 a1 σ o h
    exact absurd h (by rw [f_X5_judged_W.eq_1]; exact fun h => nomatch h)
  | succ n ih =>
  intro a0 a1 σ o h
  refine gw_en (own := RX5) (lv := [(0, .ref (G.2.1 26)), (1, .int a0), (2, .int a1)]) (by decide +kernel) rfl (Nat.le_of_ble_eq_true rfl) rfl ?_
  intro p e s m below meth c ls X hl hP
  obtain ⟨hx, hb, hml, hown, hts, -, -, hT, hZ, -⟩ := id X
  have hS : va_S (gw_A G s.heap.size) s.heap s.heap [] := va_S.rf
  rw [f_X5_judged_W.eq_2] at h
  refine lv_iload_n hx hb dX5_judged_0 rfl (lv_at hl 2 rfl) ?_
  refine lv_iconst (v := 5) hx hb dX5_judged_1 (by decide) ?_
  refine lv_icmp_gt (tgt := 16) hx hb dX5_judged_2 (by decide) (fun c => ?_) (fun c => ?_)
  · have h := (if_pos c).symm.trans h
    refine lv_iconst (v := 0) hx hb dX5_judged_16 (by decide) ?_
    exact gw_ri X hP hS h dX5_judged_17
  · have h := (if_neg c).symm.trans h
    refine lv_aload_n hx hb dX5_judged_5 rfl (lv_at hl 0 rfl) ?_
    refine va_get (D := G.1) (ci := 8) (v := .ref (G.2.1 11)) (C := RX6) (T := TX6) (N := 7) hx hb hts gx_X6 hown hT.2.1 hP 26 rfl rfl 2 (by decide) (hts _ gv_144) (fun _ h9 => h9) rfl dX5_judged_6 ?_
    refine lv_iload_n hx hb dX5_judged_9 rfl (lv_at hl 1 rfl) ?_
    obtain ⟨p1, gp1, h⟩ := Option.bind_eq_some_iff.mp h
    refine gw_cz (gw_rV (C := RX1) X hP hS (gc_X1_knows l G a0 σ _ gp1) gk_X1_knows gv_439 ⟨gv_440, gv_441⟩ (va_recv hT.2.1 hP (ci := 4) (q0 := 11) rfl rfl) rfl rfl (Nat.le_of_ble_eq_true rfl) hl.1 ⟨rfl, rfl⟩ ⟨by show 0 + 1 ≤ 30 * (n + 1); omega, by show 8 + (2 + 11) + (0) ≤ 500 * (n + 1); omega⟩ ⟨Nat.le_of_ble_eq_true rfl, Nat.le_of_ble_eq_true rfl⟩ dX5_judged_10) hS (fun H locs hb_p1 hP hS => ?_)
    refine lv_if_ne (tgt := 18) hx hb dX5_judged_13 (by decide) (fun c => ?_) (fun c => ?_)
    · have h := (if_neg c).symm.trans h
      refine lv_aload_n hx hb dX5_judged_18 rfl (lv_at hl 0 rfl) ?_
      refine va_get (D := G.1) (ci := 8) (v := .ref (G.2.1 11)) (C := RX6) (T := TX6) (N := 7) hx hb hts gx_X6 hown hT.2.1 hP 26 rfl rfl 2 (by decide) (hts _ gv_144) (fun _ h9 => h9) rfl dX5_judged_19 ?_
      refine lv_iload_n hx hb dX5_judged_22 rfl (lv_at hl 1 rfl) ?_
      obtain ⟨p2, gp2, h⟩ := Option.bind_eq_some_iff.mp h
      refine gw_ci (gw_rV (C := RX1) X hP hS (gc_X1_first l G a0 p1.2 _ gp2) gk_X1_first gv_443 ⟨gv_444, gv_445⟩ (va_recv hT.2.1 hP (ci := 4) (q0 := 11) rfl rfl) rfl rfl (Nat.le_of_ble_eq_true rfl) hl.1 ⟨rfl, rfl⟩ ⟨by show 1 + 1 ≤ 30 * (n + 1); omega, by show 8 + (2 + 11) + (21) ≤ 500 * (n + 1); omega⟩ ⟨Nat.le_of_ble_eq_true rfl, Nat.le_of_ble_eq_true rfl⟩ dX5_judged_23) hS (fun H locs hP hS => ?_)
      refine lv_istore_n (lv' := [(3, .int p2.1), (0, .ref (G.2.1 26)), (1, .int a0), (2, .int a1)]) hx hb dX5_judged_26 rfl hl (by decide) rfl (fun ls hl => ?_)
      refine lv_aload_n hx hb dX5_judged_27 rfl (lv_at hl 1 rfl) ?_
      refine va_get (D := G.1) (ci := 8) (v := .ref (G.2.1 11)) (C := RX6) (T := TX6) (N := 7) hx hb hts gx_X6 hown hT.2.1 hP 26 rfl rfl 2 (by decide) (hts _ gv_144) (fun _ h9 => h9) rfl dX5_judged_28 ?_
      refine lv_iload_n hx hb dX5_judged_31 rfl (lv_at hl 2 rfl) ?_
      obtain ⟨p3, gp3, h⟩ := Option.bind_eq_some_iff.mp h
      refine gw_ci (gw_rV (C := RX1) X hP hS (gc_X1_second l G a0 p2.2 _ gp3) gk_X1_second gv_447 ⟨gv_448, gv_449⟩ (va_recv hT.2.1 hP (ci := 4) (q0 := 11) rfl rfl) rfl rfl (Nat.le_of_ble_eq_true rfl) hl.1 ⟨rfl, rfl⟩ ⟨by show 1 + 1 ≤ 30 * (n + 1); omega, by show 8 + (2 + 11) + (21) ≤ 500 * (n + 1); omega⟩ ⟨Nat.le_of_ble_eq_true rfl, Nat.le_of_ble_eq_true rfl⟩ dX5_judged_32) hS (fun H locs hP hS => ?_)
      refine lv_istore (lv' := [(4, .int p3.1), (3, .int p2.1), (0, .ref (G.2.1 26)), (1, .int a0), (2, .int a1)]) hx hb dX5_judged_35 hl (by decide) rfl (fun ls hl => ?_)
      refine lv_aload_n hx hb dX5_judged_37 rfl (lv_at hl 2 rfl) ?_
      refine va_get (D := G.1) (ci := 8) (v := .ref (G.2.1 11)) (C := RX6) (T := TX6) (N := 7) hx hb hts gx_X6 hown hT.2.1 hP 26 rfl rfl 2 (by decide) (hts _ gv_144) (fun _ h9 => h9) rfl dX5_judged_38 ?_
      refine lv_iload_n hx hb dX5_judged_41 rfl (lv_at hl 3 rfl) ?_
      obtain ⟨p4, gp4, h⟩ := Option.bind_eq_some_iff.mp h
      refine gw_ci (gw_rV (C := RX1) X hP hS (gc_X1_kind l G a0 p3.2 _ gp4) gk_X1_kind gv_451 ⟨gv_452, gv_453⟩ (va_recv hT.2.1 hP (ci := 4) (q0 := 11) rfl rfl) rfl rfl (Nat.le_of_ble_eq_true rfl) hl.1 ⟨rfl, rfl⟩ ⟨by show 1 + 1 ≤ 30 * (n + 1); omega, by show 8 + (2 + 11) + (21) ≤ 500 * (n + 1); omega⟩ ⟨Nat.le_of_ble_eq_true rfl, Nat.le_of_ble_eq_true rfl⟩ dX5_judged_42) hS (fun H locs hP hS => ?_)
      by_cases c61 : p4.1 = (61 : Int32)
      · have h := (if_pos c61).symm.trans h
        refine lv_lookup (tgt := 119) hx hb dX5_judged_45 (by decide) (by rw [c61]) (by decide) ?_
        refine lv_aload_n hx hb dX5_judged_119 rfl (lv_at hl 2 rfl) ?_
        refine va_get (D := G.1) (ci := 8) (v := .ref (G.2.1 27)) (C := RX6) (T := TX6) (N := 7) hx hb hts gx_X6 hown hT.2.1 hP 26 rfl rfl 3 (by decide) (hts _ gv_145) (fun _ h9 => h9) rfl dX5_judged_120 ?_
        refine lv_aload_n hx hb dX5_judged_123 rfl (lv_at hl 2 rfl) ?_
        refine lv_iload_n hx hb dX5_judged_124 rfl (lv_at hl 1 rfl) ?_
        obtain ⟨p5, gp5, h⟩ := Option.bind_eq_some_iff.mp h
        refine gw_ci (gw_rU (x := ⟨"Genericwood$Way", "named", "(I)I"⟩) (owner := "Genericwood$Way") (C := RX6) X hP hS (gc_X5_named_W l G p2.1 p4.2 _ gp5) gk_X5_named ⟨by decide +kernel, by decide +kernel⟩ gv_455 ⟨gv_1797, gv_x15, gv_457⟩ (va_Decl.of (hts _ gv_457) (hts _ gk_X5_named.1)) (va_recv hT.2.1 hP (ci := 8) (q0 := 26) rfl rfl) rfl rfl (Nat.le_of_ble_eq_true rfl) hl.1 ⟨rfl, rfl⟩ ⟨by show 1 + 1 ≤ 30 * (n + 1); omega, by show 8 + (2 + 11) + (21) ≤ 500 * (n + 1); omega⟩ ⟨Nat.le_of_ble_eq_true rfl, Nat.le_of_ble_eq_true rfl⟩ dX5_judged_125) hS (fun H locs hP hS => ?_)
        refine lv_bipush (v := 12) hx hb dX5_judged_128 (by decide) ?_
        refine lv_imul hx hb dX5_judged_130 ?_
        refine lv_aload_n hx hb dX5_judged_131 rfl (lv_at hl 2 rfl) ?_
        refine lv_iload hx hb dX5_judged_132 (lv_at hl 0 rfl) ?_
        obtain ⟨p6, gp6, h⟩ := Option.bind_eq_some_iff.mp h
        refine gw_ci (gw_rU (x := ⟨"Genericwood$Way", "named", "(I)I"⟩) (owner := "Genericwood$Way") (C := RX6) X hP hS (gc_X5_named_W l G p3.1 p5.2 _ gp6) gk_X5_named ⟨by decide +kernel, by decide +kernel⟩ gv_455 ⟨gv_1797, gv_x15, gv_457⟩ (va_Decl.of (hts _ gv_457) (hts _ gk_X5_named.1)) (va_recv hT.2.1 hP (ci := 8) (q0 := 26) rfl rfl) rfl rfl (Nat.le_of_ble_eq_true rfl) hl.1 ⟨rfl, rfl⟩ ⟨by show 1 + 1 ≤ 30 * (n + 1); omega, by show 8 + (2 + 11) + (21) ≤ 500 * (n + 1); omega⟩ ⟨Nat.le_of_ble_eq_true rfl, Nat.le_of_ble_eq_true rfl⟩ dX5_judged_134) hS (fun H locs hP hS => ?_)
        refine lv_iadd hx hb dX5_judged_137 ?_
        obtain ⟨p7, gp7, h⟩ := Option.bind_eq_some_iff.mp h
        refine gw_ci (gw_rN (host := "Genericwood") X hP hS (gc_X8_at l G 27 ⟨by decide, by decide⟩ ((p5.1 * (12 : Int32)) + p6.1) p6.2 _ gp7) gk_X8_at gv_381 gv_275 rfl rfl (Nat.le_of_ble_eq_true rfl) hl.1 ⟨rfl, rfl⟩ ⟨by show 0 + 1 ≤ 30 * (n + 1); omega, by show 8 + (2 + 11) + (0) ≤ 500 * (n + 1); omega⟩ ⟨Nat.le_of_ble_eq_true rfl, Nat.le_of_ble_eq_true rfl⟩ dX5_judged_138) hS (fun H locs hP hS => ?_)
        exact gw_ri X hP hS h dX5_judged_141
      · have h := (if_neg c61).symm.trans h
        by_cases c97 : p4.1 = (97 : Int32)
        · have h := (if_pos c97).symm.trans h
          refine lv_lookup (tgt := 142) hx hb dX5_judged_45 (by decide) (by rw [c97]) (by decide) ?_
          refine lv_aload_n hx hb dX5_judged_142 rfl (lv_at hl 2 rfl) ?_
          refine lv_iload_n hx hb dX5_judged_143 rfl (lv_at hl 1 rfl) ?_
          refine lv_iload_n hx hb dX5_judged_144 rfl (lv_at hl 4 rfl) ?_
          refine lv_iconst (v := 1) hx hb dX5_judged_145 (by decide) ?_
          refine lv_iadd hx hb dX5_judged_146 ?_
          obtain ⟨p8, gp8, h⟩ := Option.bind_eq_some_iff.mp h
          refine gw_ci (gw_rU (x := ⟨"Genericwood$Way", "judged", "(II)I"⟩) (owner := "Genericwood$Way") (C := RX6) X hP hS (ih  p2.1 (a1 + (1 : Int32)) p4.2 _ gp8) gk_X5_judged ⟨by decide +kernel, by decide +kernel⟩ gv_435 ⟨gv_1796, gv_x16, gv_437⟩ (va_Decl.of (hts _ gv_437) (hts _ gk_X5_judged.1)) (va_recv hT.2.1 hP (ci := 8) (q0 := 26) rfl rfl) rfl rfl (Nat.le_of_ble_eq_true rfl) hl.1 ⟨rfl, rfl⟩ ⟨by show 30 * n + 1 ≤ 30 * (n + 1); omega, by show 8 + (5 + 11) + (500 * n) ≤ 500 * (n + 1); omega⟩ ⟨Nat.le_of_ble_eq_true rfl, Nat.le_of_ble_eq_true rfl⟩ dX5_judged_147) hS (fun H locs hP hS => ?_)
          refine lv_aload_n hx hb dX5_judged_150 rfl (lv_at hl 2 rfl) ?_
          refine lv_iload hx hb dX5_judged_151 (lv_at hl 0 rfl) ?_
          refine lv_iload_n hx hb dX5_judged_153 rfl (lv_at hl 4 rfl) ?_
          refine lv_iconst (v := 1) hx hb dX5_judged_154 (by decide) ?_
          refine lv_iadd hx hb dX5_judged_155 ?_
          obtain ⟨p9, gp9, h⟩ := Option.bind_eq_some_iff.mp h
          refine gw_ci (gw_rU (x := ⟨"Genericwood$Way", "judged", "(II)I"⟩) (owner := "Genericwood$Way") (C := RX6) X hP hS (ih  p3.1 (a1 + (1 : Int32)) p8.2 _ gp9) gk_X5_judged ⟨by decide +kernel, by decide +kernel⟩ gv_435 ⟨gv_1796, gv_x16, gv_437⟩ (va_Decl.of (hts _ gv_437) (hts _ gk_X5_judged.1)) (va_recv hT.2.1 hP (ci := 8) (q0 := 26) rfl rfl) rfl rfl (Nat.le_of_ble_eq_true rfl) hl.1 ⟨rfl, rfl⟩ ⟨by show 30 * n + 1 ≤ 30 * (n + 1); omega, by show 8 + (5 + 11) + (500 * n) ≤ 500 * (n + 1); omega⟩ ⟨Nat.le_of_ble_eq_true rfl, Nat.le_of_ble_eq_true rfl⟩ dX5_judged_156) hS (fun H locs hP hS => ?_)
          refine lv_iand hx hb dX5_judged_159 ?_
          exact gw_ri X hP hS h dX5_judged_160
        · have h := (if_neg c97).symm.trans h
          by_cases c101 : p4.1 = (101 : Int32)
          · have h := (if_pos c101).symm.trans h
            refine lv_lookup (tgt := 96) hx hb dX5_judged_45 (by decide) (by rw [c101]) (by decide) ?_
            refine lv_aload_n hx hb dX5_judged_96 rfl (lv_at hl 2 rfl) ?_
            refine va_get (D := G.1) (ci := 8) (v := .ref (G.2.1 28)) (C := RX6) (T := TX6) (N := 7) hx hb hts gx_X6 hown hT.2.1 hP 26 rfl rfl 4 (by decide) (hts _ gv_146) (fun _ h9 => h9) rfl dX5_judged_97 ?_
            refine lv_aload_n hx hb dX5_judged_100 rfl (lv_at hl 2 rfl) ?_
            refine lv_iload_n hx hb dX5_judged_101 rfl (lv_at hl 1 rfl) ?_
            obtain ⟨p10, gp10, h⟩ := Option.bind_eq_some_iff.mp h
            refine gw_ci (gw_rU (x := ⟨"Genericwood$Way", "named", "(I)I"⟩) (owner := "Genericwood$Way") (C := RX6) X hP hS (gc_X5_named_W l G p2.1 p4.2 _ gp10) gk_X5_named ⟨by decide +kernel, by decide +kernel⟩ gv_455 ⟨gv_1797, gv_x15, gv_457⟩ (va_Decl.of (hts _ gv_457) (hts _ gk_X5_named.1)) (va_recv hT.2.1 hP (ci := 8) (q0 := 26) rfl rfl) rfl rfl (Nat.le_of_ble_eq_true rfl) hl.1 ⟨rfl, rfl⟩ ⟨by show 1 + 1 ≤ 30 * (n + 1); omega, by show 8 + (2 + 11) + (21) ≤ 500 * (n + 1); omega⟩ ⟨Nat.le_of_ble_eq_true rfl, Nat.le_of_ble_eq_true rfl⟩ dX5_judged_102) hS (fun H locs hP hS => ?_)
            refine lv_bipush (v := 12) hx hb dX5_judged_105 (by decide) ?_
            refine lv_imul hx hb dX5_judged_107 ?_
            refine lv_aload_n hx hb dX5_judged_108 rfl (lv_at hl 2 rfl) ?_
            refine lv_iload hx hb dX5_judged_109 (lv_at hl 0 rfl) ?_
            obtain ⟨p11, gp11, h⟩ := Option.bind_eq_some_iff.mp h
            refine gw_ci (gw_rU (x := ⟨"Genericwood$Way", "named", "(I)I"⟩) (owner := "Genericwood$Way") (C := RX6) X hP hS (gc_X5_named_W l G p3.1 p10.2 _ gp11) gk_X5_named ⟨by decide +kernel, by decide +kernel⟩ gv_455 ⟨gv_1797, gv_x15, gv_457⟩ (va_Decl.of (hts _ gv_457) (hts _ gk_X5_named.1)) (va_recv hT.2.1 hP (ci := 8) (q0 := 26) rfl rfl) rfl rfl (Nat.le_of_ble_eq_true rfl) hl.1 ⟨rfl, rfl⟩ ⟨by show 1 + 1 ≤ 30 * (n + 1); omega, by show 8 + (2 + 11) + (21) ≤ 500 * (n + 1); omega⟩ ⟨Nat.le_of_ble_eq_true rfl, Nat.le_of_ble_eq_true rfl⟩ dX5_judged_111) hS (fun H locs hP hS => ?_)
            refine lv_iadd hx hb dX5_judged_114 ?_
            obtain ⟨p12, gp12, h⟩ := Option.bind_eq_some_iff.mp h
            refine gw_ci (gw_rN (host := "Genericwood") X hP hS (gc_X8_at l G 28 ⟨by decide, by decide⟩ ((p10.1 * (12 : Int32)) + p11.1) p11.2 _ gp12) gk_X8_at gv_381 gv_275 rfl rfl (Nat.le_of_ble_eq_true rfl) hl.1 ⟨rfl, rfl⟩ ⟨by show 0 + 1 ≤ 30 * (n + 1); omega, by show 8 + (2 + 11) + (0) ≤ 500 * (n + 1); omega⟩ ⟨Nat.le_of_ble_eq_true rfl, Nat.le_of_ble_eq_true rfl⟩ dX5_judged_115) hS (fun H locs hP hS => ?_)
            exact gw_ri X hP hS h dX5_judged_118
          · have h := (if_neg c101).symm.trans h
            by_cases c110 : p4.1 = (110 : Int32)
            · have h := (if_pos c110).symm.trans h
              refine lv_lookup (tgt := 184) hx hb dX5_judged_45 (by decide) (by rw [c110]) (by decide) ?_
              refine lv_aload_n hx hb dX5_judged_184 rfl (lv_at hl 2 rfl) ?_
              refine lv_aload_n hx hb dX5_judged_185 rfl (lv_at hl 2 rfl) ?_
              refine lv_iload_n hx hb dX5_judged_186 rfl (lv_at hl 1 rfl) ?_
              refine lv_iload_n hx hb dX5_judged_187 rfl (lv_at hl 4 rfl) ?_
              refine lv_iconst (v := 1) hx hb dX5_judged_188 (by decide) ?_
              refine lv_iadd hx hb dX5_judged_189 ?_
              obtain ⟨p13, gp13, h⟩ := Option.bind_eq_some_iff.mp h
              refine gw_ci (gw_rU (x := ⟨"Genericwood$Way", "judged", "(II)I"⟩) (owner := "Genericwood$Way") (C := RX6) X hP hS (ih  p2.1 (a1 + (1 : Int32)) p4.2 _ gp13) gk_X5_judged ⟨by decide +kernel, by decide +kernel⟩ gv_435 ⟨gv_1796, gv_x16, gv_437⟩ (va_Decl.of (hts _ gv_437) (hts _ gk_X5_judged.1)) (va_recv hT.2.1 hP (ci := 8) (q0 := 26) rfl rfl) rfl rfl (Nat.le_of_ble_eq_true rfl) hl.1 ⟨rfl, rfl⟩ ⟨by show 30 * n + 1 ≤ 30 * (n + 1); omega, by show 8 + (5 + 11) + (500 * n) ≤ 500 * (n + 1); omega⟩ ⟨Nat.le_of_ble_eq_true rfl, Nat.le_of_ble_eq_true rfl⟩ dX5_judged_190) hS (fun H locs hP hS => ?_)
              obtain ⟨p14, gp14, h⟩ := Option.bind_eq_some_iff.mp h
              refine gw_ci (gw_rU (x := ⟨"Genericwood$Way", "denied", "(I)I"⟩) (owner := "Genericwood$Way") (C := RX6) X hP hS (gc_X6_denied_W l G p13.1 p13.2 _ gp14) gk_X6_denied ⟨by decide +kernel, by decide +kernel⟩ gv_462 ⟨gv_464, gv_472, gv_466⟩ (va_Decl.abs (va_Nw.of rfl (hts _ gv_463))) (va_recv hT.2.1 hP (ci := 8) (q0 := 26) rfl rfl) rfl rfl (Nat.le_of_ble_eq_true rfl) hl.1 ⟨rfl, rfl⟩ ⟨by show 2 + 1 ≤ 30 * (n + 1); omega, by show 8 + (2 + 11) + (44) ≤ 500 * (n + 1); omega⟩ ⟨Nat.le_of_ble_eq_true rfl, Nat.le_of_ble_eq_true rfl⟩ dX5_judged_193) hS (fun H locs hP hS => ?_)
              exact gw_ri X hP hS h dX5_judged_196
            · have h := (if_neg c110).symm.trans h
              by_cases c111 : p4.1 = (111 : Int32)
              · have h := (if_pos c111).symm.trans h
                refine lv_lookup (tgt := 161) hx hb dX5_judged_45 (by decide) (by rw [c111]) (by decide) ?_
                refine lv_aload_n hx hb dX5_judged_161 rfl (lv_at hl 2 rfl) ?_
                refine lv_aload_n hx hb dX5_judged_162 rfl (lv_at hl 2 rfl) ?_
                refine lv_iload_n hx hb dX5_judged_163 rfl (lv_at hl 1 rfl) ?_
                refine lv_iload_n hx hb dX5_judged_164 rfl (lv_at hl 4 rfl) ?_
                refine lv_iconst (v := 1) hx hb dX5_judged_165 (by decide) ?_
                refine lv_iadd hx hb dX5_judged_166 ?_
                obtain ⟨p15, gp15, h⟩ := Option.bind_eq_some_iff.mp h
                refine gw_ci (gw_rU (x := ⟨"Genericwood$Way", "judged", "(II)I"⟩) (owner := "Genericwood$Way") (C := RX6) X hP hS (ih  p2.1 (a1 + (1 : Int32)) p4.2 _ gp15) gk_X5_judged ⟨by decide +kernel, by decide +kernel⟩ gv_435 ⟨gv_1796, gv_x16, gv_437⟩ (va_Decl.of (hts _ gv_437) (hts _ gk_X5_judged.1)) (va_recv hT.2.1 hP (ci := 8) (q0 := 26) rfl rfl) rfl rfl (Nat.le_of_ble_eq_true rfl) hl.1 ⟨rfl, rfl⟩ ⟨by show 30 * n + 1 ≤ 30 * (n + 1); omega, by show 8 + (5 + 11) + (500 * n) ≤ 500 * (n + 1); omega⟩ ⟨Nat.le_of_ble_eq_true rfl, Nat.le_of_ble_eq_true rfl⟩ dX5_judged_167) hS (fun H locs hP hS => ?_)
                refine lv_aload_n hx hb dX5_judged_170 rfl (lv_at hl 2 rfl) ?_
                refine lv_iload hx hb dX5_judged_171 (lv_at hl 0 rfl) ?_
                refine lv_iload_n hx hb dX5_judged_173 rfl (lv_at hl 4 rfl) ?_
                refine lv_iconst (v := 1) hx hb dX5_judged_174 (by decide) ?_
                refine lv_iadd hx hb dX5_judged_175 ?_
                obtain ⟨p16, gp16, h⟩ := Option.bind_eq_some_iff.mp h
                refine gw_ci (gw_rU (x := ⟨"Genericwood$Way", "judged", "(II)I"⟩) (owner := "Genericwood$Way") (C := RX6) X hP hS (ih  p3.1 (a1 + (1 : Int32)) p15.2 _ gp16) gk_X5_judged ⟨by decide +kernel, by decide +kernel⟩ gv_435 ⟨gv_1796, gv_x16, gv_437⟩ (va_Decl.of (hts _ gv_437) (hts _ gk_X5_judged.1)) (va_recv hT.2.1 hP (ci := 8) (q0 := 26) rfl rfl) rfl rfl (Nat.le_of_ble_eq_true rfl) hl.1 ⟨rfl, rfl⟩ ⟨by show 30 * n + 1 ≤ 30 * (n + 1); omega, by show 8 + (5 + 11) + (500 * n) ≤ 500 * (n + 1); omega⟩ ⟨Nat.le_of_ble_eq_true rfl, Nat.le_of_ble_eq_true rfl⟩ dX5_judged_176) hS (fun H locs hP hS => ?_)
                refine lv_ior hx hb dX5_judged_179 ?_
                obtain ⟨p17, gp17, h⟩ := Option.bind_eq_some_iff.mp h
                refine gw_ci (gw_rU (x := ⟨"Genericwood$Way", "settled", "(I)I"⟩) (owner := "Genericwood$Way") (C := RX6) X hP hS (gc_X6_settled_W l G (p15.1 ||| p16.1) p16.2 _ gp17) gk_X6_settled ⟨by decide +kernel, by decide +kernel⟩ gv_419 ⟨gv_421, gv_432, gv_433⟩ (va_Decl.abs (va_Nw.of rfl (hts _ gv_420))) (va_recv hT.2.1 hP (ci := 8) (q0 := 26) rfl rfl) rfl rfl (Nat.le_of_ble_eq_true rfl) hl.1 ⟨rfl, rfl⟩ ⟨by show 0 + 1 ≤ 30 * (n + 1); omega, by show 8 + (2 + 11) + (0) ≤ 500 * (n + 1); omega⟩ ⟨Nat.le_of_ble_eq_true rfl, Nat.le_of_ble_eq_true rfl⟩ dX5_judged_180) hS (fun H locs hP hS => ?_)
                exact gw_ri X hP hS h dX5_judged_183
              · have h := (if_neg c111).symm.trans h
                refine lv_lookup (tgt := 197) hx hb dX5_judged_45 (by decide) (show Op.lookupswitch.offset [(61, 74), (97, 97), (101, 51), (110, 139), (111, 116)] 152 (p4.1).toInt = 152 from (lv_osw c61 rfl).trans ((lv_osw c97 rfl).trans ((lv_osw c101 rfl).trans ((lv_osw c110 rfl).trans ((lv_osw c111 rfl).trans (rfl)))))) (by decide) ?_
                refine lv_aload_n hx hb dX5_judged_197 rfl (lv_at hl 2 rfl) ?_
                refine lv_iload_n hx hb dX5_judged_198 rfl (lv_at hl 3 rfl) ?_
                refine lv_iload_n hx hb dX5_judged_199 rfl (lv_at hl 4 rfl) ?_
                obtain ⟨p18, gp18, h⟩ := Option.bind_eq_some_iff.mp h
                refine gw_ci (gw_rU (x := ⟨"Genericwood$Way", "judgedBound", "(II)I"⟩) (owner := "Genericwood$Way") (C := RX6) X hP hS (gc_X5_judgedBound_W l G (f_X5_judged_W n) (30 * n) (500 * n) ih  a0 a1 p4.2 _ gp18) gk_X5_judgedBound ⟨by decide +kernel, by decide +kernel⟩ gv_473 ⟨gv_1798, gv_x17, gv_475⟩ (va_Decl.of (hts _ gv_475) (hts _ gk_X5_judgedBound.1)) (va_recv hT.2.1 hP (ci := 8) (q0 := 26) rfl rfl) rfl rfl (Nat.le_of_ble_eq_true rfl) hl.1 ⟨rfl, rfl⟩ ⟨by show 30 * n + 20 + 1 ≤ 30 * (n + 1); omega, by show 8 + (10 + 11) + (500 * n + 300) ≤ 500 * (n + 1); omega⟩ ⟨Nat.le_of_ble_eq_true rfl, Nat.le_of_ble_eq_true rfl⟩ dX5_judged_200) hS (fun H locs hP hS => ?_)
                exact gw_ri X hP hS h dX5_judged_203
    · have h := (if_pos c).symm.trans h
      refine lv_iconst (v := 0) hx hb dX5_judged_16 (by decide) ?_
      exact gw_ri X hP hS h dX5_judged_17
def f_X5_partly_W_L8 : Nat → Int32 → Int32 → Int32 → Int32 → gw_S → Option (Int32 × gw_S)
  | 0, _, _, _, _, _ => none
  | n + 1, v8_1, v8_2, v8_3, v8_4, σ => ((f_X2_pairsOf v8_1 σ).bind fun p2 => (if p2.1 ≤ v8_4 then (some (v8_3, p2.2)) else ((f_X2_lower v8_1 v8_4 p2.2).bind fun p3 => ((f_X8_at 28 ((p3.1 * (12 : Int32)) + v8_2) p3.2).bind fun p4 => ((f_X2_promise v8_1 v8_4 p4.2).bind fun p5 => ((f_X6_unless_W p5.1 p4.1 p5.2).bind fun p6 => (f_X5_partly_W_L8 n v8_1 v8_2 (v8_3 &&& p6.1) (v8_4 + (1 : Int32)) p6.2)))))))
def f_X5_partly_W (a0 : Int32) (a1 : Int32) (σ : gw_S) : Option (Int32 × gw_S) := ((f_X6_whole_W  σ).bind fun p1 => (f_X5_partly_W_L8 64 a0 a1 p1.1 (0 : Int32) p1.2))
set_option maxHeartbeats 4000000 in
set_option maxRecDepth 100000 in
theorem gc_X5_partly_W (l : Launch) (G : gw_G) (a0 : Int32) (a1 : Int32) (σ : gw_S) (o : (Int32 × gw_S)) (h : f_X5_partly_W a0 a1 σ = some o) : gw_M (fun sz => gw_QI G sz o) l yX5_partly cX5_partly 6 (some .int) { frames := 3, cells := 0, slots := 0, locals := 66 } G [.ref (G.2.1 26), .int a0, .int a1] σ := by
  refine gw_en (own := RX5) (lv := [(0, .ref (G.2.1 26)), (1, .int a0), (2, .int a1)]) (by decide +kernel) rfl (Nat.le_of_ble_eq_true rfl) rfl ?_
  intro p e s m below meth c ls X hl hP
  obtain ⟨hx, hb, hml, hown, hts, -, -, hT, hZ, -⟩ := id X
  have hS : va_S (gw_A G s.heap.size) s.heap s.heap [] := va_S.rf
  have L8 : ∀ (n : Nat) (v8_1 : Int32) (v8_2 : Int32) (v8_3 : Int32) (v8_4 : Int32) (σ : gw_S) (H : Heap) (locs : List Loc) (ls : Array Slot), f_X5_partly_W_L8 n v8_1 v8_2 v8_3 v8_4 σ = some o → gw_P G σ H → va_S (gw_A G s.heap.size) s.heap H locs → lv_has ls 6 [(0, .ref (G.2.1 26)), (1, .int v8_1), (2, .int v8_2), (3, .int v8_3), (4, .int v8_4)] → W p l e { frames := 3, cells := 0, slots := 0, locals := 66 } s m [.ref (G.2.1 26), .int a0, .int a1].toArray below meth c H locs 0 0 (MQ below (gw_QI G s.heap.size o) [.ref (G.2.1 26), .int a0, .int a1].toArray s 0 0 (gw_A G s.heap.size)) (F0 m 8 ls []) := by
    intro n
    induction n with
    | zero =>
      intro v8_1 v8_2 v8_3 v8_4 σ H locs ls h
      exact absurd h (by rw [f_X5_partly_W_L8.eq_1]; exact fun h => nomatch h)
    | succ n ih =>
      intro v8_1 v8_2 v8_3 v8_4 σ H locs ls h hP hS hl
      rw [f_X5_partly_W_L8.eq_2] at h
      refine lv_iload hx hb dX5_partly_8 (lv_at hl 4 rfl) ?_
      refine lv_aload_n hx hb dX5_partly_10 rfl (lv_at hl 0 rfl) ?_
      refine va_get (D := G.1) (ci := 8) (v := .ref (G.2.1 4)) (C := RX6) (T := TX6) (N := 7) hx hb hts gx_X6 hown hT.2.1 hP 26 rfl rfl 1 (by decide) (hts _ gv_143) (fun _ h9 => h9) rfl dX5_partly_11 ?_
      refine lv_iload_n hx hb dX5_partly_14 rfl (lv_at hl 1 rfl) ?_
      obtain ⟨p2, gp2, h⟩ := Option.bind_eq_some_iff.mp h
      refine gw_ci (gw_rV (C := RX2) X hP hS (gc_X2_pairsOf l G v8_1 σ _ gp2) gk_X2_pairsOf gv_379 ⟨gv_313, gv_314⟩ (va_recv hT.2.1 hP (ci := 5) (q0 := 4) rfl rfl) rfl rfl (Nat.le_of_ble_eq_true rfl) hl.1 ⟨rfl, rfl⟩ ⟨Nat.le_of_ble_eq_true rfl, Nat.le_of_ble_eq_true rfl⟩ ⟨Nat.le_of_ble_eq_true rfl, Nat.le_of_ble_eq_true rfl⟩ dX5_partly_15) hS (fun H locs hP hS => ?_)
      refine lv_icmp_ge (tgt := 70) hx hb dX5_partly_18 (by decide) (fun c => ?_) (fun c => ?_)
      · have h := (if_pos c).symm.trans h
        refine lv_iload_n hx hb dX5_partly_70 rfl (lv_at hl 3 rfl) ?_
        exact gw_ri X hP hS h dX5_partly_71
      · have h := (if_neg c).symm.trans h
        refine lv_aload_n hx hb dX5_partly_21 rfl (lv_at hl 0 rfl) ?_
        refine va_get (D := G.1) (ci := 8) (v := .ref (G.2.1 28)) (C := RX6) (T := TX6) (N := 7) hx hb hts gx_X6 hown hT.2.1 hP 26 rfl rfl 4 (by decide) (hts _ gv_146) (fun _ h9 => h9) rfl dX5_partly_22 ?_
        refine lv_aload_n hx hb dX5_partly_25 rfl (lv_at hl 0 rfl) ?_
        refine va_get (D := G.1) (ci := 8) (v := .ref (G.2.1 4)) (C := RX6) (T := TX6) (N := 7) hx hb hts gx_X6 hown hT.2.1 hP 26 rfl rfl 1 (by decide) (hts _ gv_143) (fun _ h9 => h9) rfl dX5_partly_26 ?_
        refine lv_iload_n hx hb dX5_partly_29 rfl (lv_at hl 1 rfl) ?_
        refine lv_iload hx hb dX5_partly_30 (lv_at hl 4 rfl) ?_
        obtain ⟨p3, gp3, h⟩ := Option.bind_eq_some_iff.mp h
        refine gw_ci (gw_rV (C := RX2) X hP hS (gc_X2_lower l G v8_1 v8_4 p2.2 _ gp3) gk_X2_lower gv_380 ⟨gv_317, gv_318⟩ (va_recv hT.2.1 hP (ci := 5) (q0 := 4) rfl rfl) rfl rfl (Nat.le_of_ble_eq_true rfl) hl.1 ⟨rfl, rfl⟩ ⟨Nat.le_of_ble_eq_true rfl, Nat.le_of_ble_eq_true rfl⟩ ⟨Nat.le_of_ble_eq_true rfl, Nat.le_of_ble_eq_true rfl⟩ dX5_partly_32) hS (fun H locs hP hS => ?_)
        refine lv_bipush (v := 12) hx hb dX5_partly_35 (by decide) ?_
        refine lv_imul hx hb dX5_partly_37 ?_
        refine lv_iload_n hx hb dX5_partly_38 rfl (lv_at hl 2 rfl) ?_
        refine lv_iadd hx hb dX5_partly_39 ?_
        obtain ⟨p4, gp4, h⟩ := Option.bind_eq_some_iff.mp h
        refine gw_ci (gw_rN (host := "Genericwood") X hP hS (gc_X8_at l G 28 ⟨by decide, by decide⟩ ((p3.1 * (12 : Int32)) + v8_2) p3.2 _ gp4) gk_X8_at gv_381 gv_275 rfl rfl (Nat.le_of_ble_eq_true rfl) hl.1 ⟨rfl, rfl⟩ ⟨Nat.le_of_ble_eq_true rfl, Nat.le_of_ble_eq_true rfl⟩ ⟨Nat.le_of_ble_eq_true rfl, Nat.le_of_ble_eq_true rfl⟩ dX5_partly_40) hS (fun H locs hP hS => ?_)
        refine lv_istore (lv' := [(5, .int p4.1), (0, .ref (G.2.1 26)), (1, .int v8_1), (2, .int v8_2), (3, .int v8_3), (4, .int v8_4)]) hx hb dX5_partly_43 hl (by decide) rfl (fun ls hl => ?_)
        refine lv_iload_n hx hb dX5_partly_45 rfl (lv_at hl 4 rfl) ?_
        refine lv_aload_n hx hb dX5_partly_46 rfl (lv_at hl 1 rfl) ?_
        refine lv_aload_n hx hb dX5_partly_47 rfl (lv_at hl 1 rfl) ?_
        refine va_get (D := G.1) (ci := 8) (v := .ref (G.2.1 4)) (C := RX6) (T := TX6) (N := 7) hx hb hts gx_X6 hown hT.2.1 hP 26 rfl rfl 1 (by decide) (hts _ gv_143) (fun _ h9 => h9) rfl dX5_partly_48 ?_
        refine lv_iload_n hx hb dX5_partly_51 rfl (lv_at hl 2 rfl) ?_
        refine lv_iload hx hb dX5_partly_52 (lv_at hl 5 rfl) ?_
        obtain ⟨p5, gp5, h⟩ := Option.bind_eq_some_iff.mp h
        refine gw_ci (gw_rV (C := RX2) X hP hS (gc_X2_promise l G v8_1 v8_4 p4.2 _ gp5) gk_X2_promise gv_382 ⟨gv_321, gv_322⟩ (va_recv hT.2.1 hP (ci := 5) (q0 := 4) rfl rfl) rfl rfl (Nat.le_of_ble_eq_true rfl) hl.1 ⟨rfl, rfl⟩ ⟨Nat.le_of_ble_eq_true rfl, Nat.le_of_ble_eq_true rfl⟩ ⟨Nat.le_of_ble_eq_true rfl, Nat.le_of_ble_eq_true rfl⟩ dX5_partly_54) hS (fun H locs hP hS => ?_)
        refine lv_iload hx hb dX5_partly_57 (lv_at hl 0 rfl) ?_
        obtain ⟨p6, gp6, h⟩ := Option.bind_eq_some_iff.mp h
        refine gw_ci (gw_rU (x := ⟨"Genericwood$Way", "unless", "(II)I"⟩) (owner := "Genericwood$Way") (C := RX6) X hP hS (gc_X6_unless_W l G p5.1 p4.1 p5.2 _ gp6) gk_X6_unless ⟨by decide +kernel, by decide +kernel⟩ gv_383 ⟨gv_385, gv_401, gv_387⟩ (va_Decl.abs (va_Nw.of rfl (hts _ gv_384))) (va_recv hT.2.1 hP (ci := 8) (q0 := 26) rfl rfl) rfl rfl (Nat.le_of_ble_eq_true rfl) hl.1 ⟨rfl, rfl⟩ ⟨Nat.le_of_ble_eq_true rfl, Nat.le_of_ble_eq_true rfl⟩ ⟨Nat.le_of_ble_eq_true rfl, Nat.le_of_ble_eq_true rfl⟩ dX5_partly_59) hS (fun H locs hP hS => ?_)
        refine lv_iand hx hb dX5_partly_62 ?_
        refine lv_istore_n (lv' := [(3, .int (v8_3 &&& p6.1)), (5, .int p4.1), (0, .ref (G.2.1 26)), (1, .int v8_1), (2, .int v8_2), (4, .int v8_4)]) hx hb dX5_partly_63 rfl hl (by decide) rfl (fun ls hl => ?_)
        refine lv_iinc (v := (v8_4 + (1 : Int32))) (lv' := [(4, .int (v8_4 + (1 : Int32))), (3, .int (v8_3 &&& p6.1)), (5, .int p4.1), (0, .ref (G.2.1 26)), (1, .int v8_1), (2, .int v8_2)]) hx hb dX5_partly_64 hl (k := 5) rfl rfl (by decide) rfl (fun ls hl => ?_)
        refine lv_goto (tgt := 8) hx hb dX5_partly_67 (by decide) ?_
        exact ih v8_1 v8_2 (v8_3 &&& p6.1) (v8_4 + (1 : Int32)) p6.2 _ _ _ h hP hS (lv_sub hl [3, 4, 5, 1, 0] rfl)
  unfold f_X5_partly_W at h
  refine lv_aload_n hx hb dX5_partly_0 rfl (lv_at hl 0 rfl) ?_
  obtain ⟨p1, gp1, h⟩ := Option.bind_eq_some_iff.mp h
  refine gw_ci (gw_rU (x := ⟨"Genericwood$Way", "whole", "()I"⟩) (owner := "Genericwood$Way") (C := RX6) X hP hS (gc_X6_whole_W l G  σ _ gp1) gk_X6_whole ⟨by decide +kernel, by decide +kernel⟩ gv_364 ⟨gv_366, gv_378, gv_368⟩ (va_Decl.abs (va_Nw.of rfl (hts _ gv_365))) (va_recv hT.2.1 hP (ci := 8) (q0 := 26) rfl rfl) rfl rfl (Nat.le_of_ble_eq_true rfl) hl.1 ⟨rfl, rfl⟩ ⟨Nat.le_of_ble_eq_true rfl, Nat.le_of_ble_eq_true rfl⟩ ⟨Nat.le_of_ble_eq_true rfl, Nat.le_of_ble_eq_true rfl⟩ dX5_partly_1) hS (fun H locs hP hS => ?_)
  refine lv_istore_n (lv' := [(3, .int p1.1), (0, .ref (G.2.1 26)), (1, .int a0), (2, .int a1)]) hx hb dX5_partly_4 rfl hl (by decide) rfl (fun ls hl => ?_)
  refine lv_iconst (v := 0) hx hb dX5_partly_5 (by decide) ?_
  refine lv_istore (lv' := [(4, .int (0 : Int32)), (3, .int p1.1), (0, .ref (G.2.1 26)), (1, .int a0), (2, .int a1)]) hx hb dX5_partly_6 hl (by decide) rfl (fun ls hl => ?_)
  exact L8 64 a0 a1 p1.1 (0 : Int32) p1.2 _ _ _ h hP hS (lv_sub hl [2, 3, 4, 1, 0] rfl)
def f_X5_contained_W_L5 : Nat → Int32 → Int32 → Int32 → Int32 → gw_S → Option (Int32 × gw_S)
  | 0, _, _, _, _, _ => none
  | n + 1, v5_1, v5_2, v5_3, v5_4, σ => ((f_X2_pairsOf v5_2 σ).bind fun p1 => (if p1.1 ≤ v5_4 then ((f_X6_settled_W v5_3 p1.2).bind fun p2 => (some (p2.1, p2.2))) else ((f_X2_lower v5_2 v5_4 p1.2).bind fun p3 => ((f_X8_at 27 ((v5_1 * (12 : Int32)) + p3.1) p3.2).bind fun p4 => ((f_X2_promise v5_2 v5_4 p4.2).bind fun p5 => ((f_X6_along_W p5.1 p4.1 p5.2).bind fun p6 => (f_X5_contained_W_L5 n v5_1 v5_2 (v5_3 ||| p6.1) (v5_4 + (1 : Int32)) p6.2)))))))
def f_X5_contained_W (a0 : Int32) (a1 : Int32) (σ : gw_S) : Option (Int32 × gw_S) := (f_X5_contained_W_L5 64 a0 a1 (0 : Int32) (0 : Int32) σ)
set_option maxHeartbeats 4000000 in
set_option maxRecDepth 100000 in
theorem gc_X5_contained_W (l : Launch) (G : gw_G) (a0 : Int32) (a1 : Int32) (σ : gw_S) (o : (Int32 × gw_S)) (h : f_X5_contained_W a0 a1 σ = some o) : gw_M (fun sz => gw_QI G sz o) l yX5_contained cX5_contained 6 (some .int) { frames := 3, cells := 0, slots := 0, locals := 64 } G [.ref (G.2.1 26), .int a0, .int a1] σ := by
  refine gw_en (own := RX5) (lv := [(0, .ref (G.2.1 26)), (1, .int a0), (2, .int a1)]) (by decide +kernel) rfl (Nat.le_of_ble_eq_true rfl) rfl ?_
  intro p e s m below meth c ls X hl hP
  obtain ⟨hx, hb, hml, hown, hts, -, -, hT, hZ, -⟩ := id X
  have hS : va_S (gw_A G s.heap.size) s.heap s.heap [] := va_S.rf
  have L5 : ∀ (n : Nat) (v5_1 : Int32) (v5_2 : Int32) (v5_3 : Int32) (v5_4 : Int32) (σ : gw_S) (H : Heap) (locs : List Loc) (ls : Array Slot), f_X5_contained_W_L5 n v5_1 v5_2 v5_3 v5_4 σ = some o → gw_P G σ H → va_S (gw_A G s.heap.size) s.heap H locs → lv_has ls 6 [(0, .ref (G.2.1 26)), (1, .int v5_1), (2, .int v5_2), (3, .int v5_3), (4, .int v5_4)] → W p l e { frames := 3, cells := 0, slots := 0, locals := 64 } s m [.ref (G.2.1 26), .int a0, .int a1].toArray below meth c H locs 0 0 (MQ below (gw_QI G s.heap.size o) [.ref (G.2.1 26), .int a0, .int a1].toArray s 0 0 (gw_A G s.heap.size)) (F0 m 5 ls []) := by
    intro n
    induction n with
    | zero =>
      intro v5_1 v5_2 v5_3 v5_4 σ H locs ls h
      exact absurd h (by rw [f_X5_contained_W_L5.eq_1]; exact fun h => nomatch h)
    | succ n ih =>
      intro v5_1 v5_2 v5_3 v5_4 σ H locs ls h hP hS hl
      rw [f_X5_contained_W_L5.eq_2] at h
      refine lv_iload hx hb dX5_contained_5 (lv_at hl 4 rfl) ?_
      refine lv_aload_n hx hb dX5_contained_7 rfl (lv_at hl 0 rfl) ?_
      refine va_get (D := G.1) (ci := 8) (v := .ref (G.2.1 4)) (C := RX6) (T := TX6) (N := 7) hx hb hts gx_X6 hown hT.2.1 hP 26 rfl rfl 1 (by decide) (hts _ gv_143) (fun _ h9 => h9) rfl dX5_contained_8 ?_
      refine lv_iload_n hx hb dX5_contained_11 rfl (lv_at hl 2 rfl) ?_
      obtain ⟨p1, gp1, h⟩ := Option.bind_eq_some_iff.mp h
      refine gw_ci (gw_rV (C := RX2) X hP hS (gc_X2_pairsOf l G v5_2 σ _ gp1) gk_X2_pairsOf gv_379 ⟨gv_313, gv_314⟩ (va_recv hT.2.1 hP (ci := 5) (q0 := 4) rfl rfl) rfl rfl (Nat.le_of_ble_eq_true rfl) hl.1 ⟨rfl, rfl⟩ ⟨Nat.le_of_ble_eq_true rfl, Nat.le_of_ble_eq_true rfl⟩ ⟨Nat.le_of_ble_eq_true rfl, Nat.le_of_ble_eq_true rfl⟩ dX5_contained_12) hS (fun H locs hP hS => ?_)
      refine lv_icmp_ge (tgt := 67) hx hb dX5_contained_15 (by decide) (fun c => ?_) (fun c => ?_)
      · have h := (if_pos c).symm.trans h
        refine lv_aload_n hx hb dX5_contained_67 rfl (lv_at hl 0 rfl) ?_
        refine lv_iload_n hx hb dX5_contained_68 rfl (lv_at hl 3 rfl) ?_
        obtain ⟨p2, gp2, h⟩ := Option.bind_eq_some_iff.mp h
        refine gw_ci (gw_rU (x := ⟨"Genericwood$Way", "settled", "(I)I"⟩) (owner := "Genericwood$Way") (C := RX6) X hP hS (gc_X6_settled_W l G v5_3 p1.2 _ gp2) gk_X6_settled ⟨by decide +kernel, by decide +kernel⟩ gv_419 ⟨gv_421, gv_432, gv_433⟩ (va_Decl.abs (va_Nw.of rfl (hts _ gv_420))) (va_recv hT.2.1 hP (ci := 8) (q0 := 26) rfl rfl) rfl rfl (Nat.le_of_ble_eq_true rfl) hl.1 ⟨rfl, rfl⟩ ⟨Nat.le_of_ble_eq_true rfl, Nat.le_of_ble_eq_true rfl⟩ ⟨Nat.le_of_ble_eq_true rfl, Nat.le_of_ble_eq_true rfl⟩ dX5_contained_69) hS (fun H locs hP hS => ?_)
        exact gw_ri X hP hS h dX5_contained_72
      · have h := (if_neg c).symm.trans h
        refine lv_aload_n hx hb dX5_contained_18 rfl (lv_at hl 0 rfl) ?_
        refine va_get (D := G.1) (ci := 8) (v := .ref (G.2.1 27)) (C := RX6) (T := TX6) (N := 7) hx hb hts gx_X6 hown hT.2.1 hP 26 rfl rfl 3 (by decide) (hts _ gv_145) (fun _ h9 => h9) rfl dX5_contained_19 ?_
        refine lv_iload_n hx hb dX5_contained_22 rfl (lv_at hl 1 rfl) ?_
        refine lv_bipush (v := 12) hx hb dX5_contained_23 (by decide) ?_
        refine lv_imul hx hb dX5_contained_25 ?_
        refine lv_aload_n hx hb dX5_contained_26 rfl (lv_at hl 0 rfl) ?_
        refine va_get (D := G.1) (ci := 8) (v := .ref (G.2.1 4)) (C := RX6) (T := TX6) (N := 7) hx hb hts gx_X6 hown hT.2.1 hP 26 rfl rfl 1 (by decide) (hts _ gv_143) (fun _ h9 => h9) rfl dX5_contained_27 ?_
        refine lv_iload_n hx hb dX5_contained_30 rfl (lv_at hl 2 rfl) ?_
        refine lv_iload hx hb dX5_contained_31 (lv_at hl 4 rfl) ?_
        obtain ⟨p3, gp3, h⟩ := Option.bind_eq_some_iff.mp h
        refine gw_ci (gw_rV (C := RX2) X hP hS (gc_X2_lower l G v5_2 v5_4 p1.2 _ gp3) gk_X2_lower gv_380 ⟨gv_317, gv_318⟩ (va_recv hT.2.1 hP (ci := 5) (q0 := 4) rfl rfl) rfl rfl (Nat.le_of_ble_eq_true rfl) hl.1 ⟨rfl, rfl⟩ ⟨Nat.le_of_ble_eq_true rfl, Nat.le_of_ble_eq_true rfl⟩ ⟨Nat.le_of_ble_eq_true rfl, Nat.le_of_ble_eq_true rfl⟩ dX5_contained_33) hS (fun H locs hP hS => ?_)
        refine lv_iadd hx hb dX5_contained_36 ?_
        obtain ⟨p4, gp4, h⟩ := Option.bind_eq_some_iff.mp h
        refine gw_ci (gw_rN (host := "Genericwood") X hP hS (gc_X8_at l G 27 ⟨by decide, by decide⟩ ((v5_1 * (12 : Int32)) + p3.1) p3.2 _ gp4) gk_X8_at gv_381 gv_275 rfl rfl (Nat.le_of_ble_eq_true rfl) hl.1 ⟨rfl, rfl⟩ ⟨Nat.le_of_ble_eq_true rfl, Nat.le_of_ble_eq_true rfl⟩ ⟨Nat.le_of_ble_eq_true rfl, Nat.le_of_ble_eq_true rfl⟩ dX5_contained_37) hS (fun H locs hP hS => ?_)
        refine lv_istore (lv' := [(5, .int p4.1), (0, .ref (G.2.1 26)), (1, .int v5_1), (2, .int v5_2), (3, .int v5_3), (4, .int v5_4)]) hx hb dX5_contained_40 hl (by decide) rfl (fun ls hl => ?_)
        refine lv_iload_n hx hb dX5_contained_42 rfl (lv_at hl 4 rfl) ?_
        refine lv_aload_n hx hb dX5_contained_43 rfl (lv_at hl 1 rfl) ?_
        refine lv_aload_n hx hb dX5_contained_44 rfl (lv_at hl 1 rfl) ?_
        refine va_get (D := G.1) (ci := 8) (v := .ref (G.2.1 4)) (C := RX6) (T := TX6) (N := 7) hx hb hts gx_X6 hown hT.2.1 hP 26 rfl rfl 1 (by decide) (hts _ gv_143) (fun _ h9 => h9) rfl dX5_contained_45 ?_
        refine lv_iload_n hx hb dX5_contained_48 rfl (lv_at hl 3 rfl) ?_
        refine lv_iload hx hb dX5_contained_49 (lv_at hl 5 rfl) ?_
        obtain ⟨p5, gp5, h⟩ := Option.bind_eq_some_iff.mp h
        refine gw_ci (gw_rV (C := RX2) X hP hS (gc_X2_promise l G v5_2 v5_4 p4.2 _ gp5) gk_X2_promise gv_382 ⟨gv_321, gv_322⟩ (va_recv hT.2.1 hP (ci := 5) (q0 := 4) rfl rfl) rfl rfl (Nat.le_of_ble_eq_true rfl) hl.1 ⟨rfl, rfl⟩ ⟨Nat.le_of_ble_eq_true rfl, Nat.le_of_ble_eq_true rfl⟩ ⟨Nat.le_of_ble_eq_true rfl, Nat.le_of_ble_eq_true rfl⟩ dX5_contained_51) hS (fun H locs hP hS => ?_)
        refine lv_iload hx hb dX5_contained_54 (lv_at hl 0 rfl) ?_
        obtain ⟨p6, gp6, h⟩ := Option.bind_eq_some_iff.mp h
        refine gw_ci (gw_rU (x := ⟨"Genericwood$Way", "along", "(II)I"⟩) (owner := "Genericwood$Way") (C := RX6) X hP hS (gc_X6_along_W l G p5.1 p4.1 p5.2 _ gp6) gk_X6_along ⟨by decide +kernel, by decide +kernel⟩ gv_409 ⟨gv_411, gv_418, gv_413⟩ (va_Decl.abs (va_Nw.of rfl (hts _ gv_410))) (va_recv hT.2.1 hP (ci := 8) (q0 := 26) rfl rfl) rfl rfl (Nat.le_of_ble_eq_true rfl) hl.1 ⟨rfl, rfl⟩ ⟨Nat.le_of_ble_eq_true rfl, Nat.le_of_ble_eq_true rfl⟩ ⟨Nat.le_of_ble_eq_true rfl, Nat.le_of_ble_eq_true rfl⟩ dX5_contained_56) hS (fun H locs hP hS => ?_)
        refine lv_ior hx hb dX5_contained_59 ?_
        refine lv_istore_n (lv' := [(3, .int (v5_3 ||| p6.1)), (5, .int p4.1), (0, .ref (G.2.1 26)), (1, .int v5_1), (2, .int v5_2), (4, .int v5_4)]) hx hb dX5_contained_60 rfl hl (by decide) rfl (fun ls hl => ?_)
        refine lv_iinc (v := (v5_4 + (1 : Int32))) (lv' := [(4, .int (v5_4 + (1 : Int32))), (3, .int (v5_3 ||| p6.1)), (5, .int p4.1), (0, .ref (G.2.1 26)), (1, .int v5_1), (2, .int v5_2)]) hx hb dX5_contained_61 hl (k := 5) rfl rfl (by decide) rfl (fun ls hl => ?_)
        refine lv_goto (tgt := 5) hx hb dX5_contained_64 (by decide) ?_
        exact ih v5_1 v5_2 (v5_3 ||| p6.1) (v5_4 + (1 : Int32)) p6.2 _ _ _ h hP hS (lv_sub hl [3, 4, 5, 1, 0] rfl)
  unfold f_X5_contained_W at h
  refine lv_iconst (v := 0) hx hb dX5_contained_0 (by decide) ?_
  refine lv_istore_n (lv' := [(3, .int (0 : Int32)), (0, .ref (G.2.1 26)), (1, .int a0), (2, .int a1)]) hx hb dX5_contained_1 rfl hl (by decide) rfl (fun ls hl => ?_)
  refine lv_iconst (v := 0) hx hb dX5_contained_2 (by decide) ?_
  refine lv_istore (lv' := [(4, .int (0 : Int32)), (3, .int (0 : Int32)), (0, .ref (G.2.1 26)), (1, .int a0), (2, .int a1)]) hx hb dX5_contained_3 hl (by decide) rfl (fun ls hl => ?_)
  exact L5 64 a0 a1 (0 : Int32) (0 : Int32) σ _ _ _ h hP hS (lv_sub hl [2, 3, 4, 1, 0] rfl)
def f_X5_refresh_W_L63 : Nat → (Int32 → gw_S → Option gw_S) → Int32 → Int32 → gw_S → Option gw_S
  | 0, _, _, _, _ => none
  | n + 1, K, v63_2, v63_3, σ => ((f_X2_size  σ).bind fun p5 => (if p5.1 ≤ v63_3 then (K v63_2 p5.2) else (if v63_2 < v63_3 then (K v63_2 p5.2) else ((f_X5_partly_W v63_3 (v63_2 - v63_3) p5.2).bind fun p6 => ((f_X5_partly_W (v63_2 - v63_3) v63_3 p6.2).bind fun p7 => ((f_X8_put 27 (((v63_3 * (12 : Int32)) + v63_2) - v63_3) (p6.1 &&& p7.1) p7.2).bind fun p8 => ((f_X5_contained_W v63_3 (v63_2 - v63_3) p8).bind fun p9 => ((f_X8_put 28 (((v63_3 * (12 : Int32)) + v63_2) - v63_3) p9.1 p9.2).bind fun p10 => (f_X5_refresh_W_L63 n K v63_2 (v63_3 + (1 : Int32)) p10)))))))))
def f_X5_refresh_W_L32 : Nat → Int32 → gw_S → Option gw_S
  | 0, _, _ => none
  | n + 1, v32_2, σ => ((f_X2_size  σ).bind fun p3 => (if ((2 : Int32) * (p3.1 - (1 : Int32))) < v32_2 then (some p3.2) else ((f_X2_size  p3.2).bind fun p4 => (f_X5_refresh_W_L63 64 (fun w63_2 σ63 => (f_X5_refresh_W_L32 n (w63_2 + (1 : Int32)) σ63)) v32_2 (if (0 : Int32) < ((v32_2 - p4.1) + (1 : Int32)) then ((v32_2 - p4.1) + (1 : Int32)) else (0 : Int32)) p4.2))))
def f_X5_refresh_W (σ : gw_S) : Option gw_S := ((f_X3_changes  σ).bind fun p1 => ((f_X2_changes  p1.2).bind fun p2 => (if (p2.2 26 6) = (p1.1 + p2.1) then (some p2.2) else (f_X5_refresh_W_L32 64 (0 : Int32) (gw_up p2.2 26 6 (p1.1 + p2.1))))))
set_option maxHeartbeats 4000000 in
set_option maxRecDepth 100000 in
theorem gc_X5_refresh_W (l : Launch) (G : gw_G) (σ : gw_S) (o : gw_S) (h : f_X5_refresh_W σ = some o) : gw_M (fun sz => gw_QV G sz o) l yX5_refresh cX5_refresh 4 none { frames := 4, cells := 0, slots := 0, locals := 91 } G [.ref (G.2.1 26)] σ := by
  refine gw_en (own := RX5) (lv := [(0, .ref (G.2.1 26))]) (by decide +kernel) rfl (Nat.le_of_ble_eq_true rfl) rfl ?_
  intro p e s m below meth c ls X hl hP
  obtain ⟨hx, hb, hml, hown, hts, -, -, hT, hZ, -⟩ := id X
  have hS : va_S (gw_A G s.heap.size) s.heap s.heap [] := va_S.rf
  have L63 : ∀ (n : Nat) (K : Int32 → gw_S → Option gw_S) (v63_2 : Int32) (v63_3 : Int32) (σ : gw_S) (H : Heap) (locs : List Loc) (ls : Array Slot), f_X5_refresh_W_L63 n K v63_2 v63_3 σ = some o → gw_P G σ H → va_S (gw_A G s.heap.size) s.heap H locs → lv_has ls 4 [(0, .ref (G.2.1 26)), (2, .int v63_2), (3, .int v63_3)] → (∀ (w2 : Int32) (σ : gw_S) (H : Heap) (locs : List Loc) (ls : Array Slot), K w2 σ = some o → gw_P G σ H → va_S (gw_A G s.heap.size) s.heap H locs → lv_has ls 4 [(0, .ref (G.2.1 26)), (2, .int w2)] → W p l e { frames := 4, cells := 0, slots := 0, locals := 91 } s m [.ref (G.2.1 26)].toArray below meth c H locs 0 0 (MQ below (gw_QV G s.heap.size o) [.ref (G.2.1 26)].toArray s 0 0 (gw_A G s.heap.size)) (F0 m 140 ls [])) → W p l e { frames := 4, cells := 0, slots := 0, locals := 91 } s m [.ref (G.2.1 26)].toArray below meth c H locs 0 0 (MQ below (gw_QV G s.heap.size o) [.ref (G.2.1 26)].toArray s 0 0 (gw_A G s.heap.size)) (F0 m 63 ls []) := by
    intro n K
    induction n with
    | zero =>
      intro v63_2 v63_3 σ H locs ls h
      exact absurd h (by rw [f_X5_refresh_W_L63.eq_1]; exact fun h => nomatch h)
    | succ n ih =>
      intro v63_2 v63_3 σ H locs ls h hP hS hl hK
      rw [f_X5_refresh_W_L63.eq_2] at h
      refine lv_iload_n hx hb dX5_refresh_63 rfl (lv_at hl 2 rfl) ?_
      refine lv_aload_n hx hb dX5_refresh_64 rfl (lv_at hl 0 rfl) ?_
      refine va_get (D := G.1) (ci := 8) (v := .ref (G.2.1 4)) (C := RX6) (T := TX6) (N := 7) hx hb hts gx_X6 hown hT.2.1 hP 26 rfl rfl 1 (by decide) (hts _ gv_143) (fun _ h9 => h9) rfl dX5_refresh_65 ?_
      obtain ⟨p5, gp5, h⟩ := Option.bind_eq_some_iff.mp h
      refine gw_ci (gw_rV (C := RX2) X hP hS (gc_X2_size l G  σ _ gp5) gk_X2_size gv_356 ⟨gv_304, gv_305⟩ (va_recv hT.2.1 hP (ci := 5) (q0 := 4) rfl rfl) rfl rfl (Nat.le_of_ble_eq_true rfl) hl.1 ⟨rfl, rfl⟩ ⟨Nat.le_of_ble_eq_true rfl, Nat.le_of_ble_eq_true rfl⟩ ⟨Nat.le_of_ble_eq_true rfl, Nat.le_of_ble_eq_true rfl⟩ dX5_refresh_68) hS (fun H locs hP hS => ?_)
      refine lv_icmp_ge (tgt := 140) hx hb dX5_refresh_71 (by decide) (fun c => ?_) (fun c => ?_)
      · have h := (if_pos c).symm.trans h
        exact hK v63_2 p5.2 _ _ _ h hP hS (lv_sub hl [0, 1] rfl)
      · have h := (if_neg c).symm.trans h
        refine lv_iload_n hx hb dX5_refresh_74 rfl (lv_at hl 2 rfl) ?_
        refine lv_iload_n hx hb dX5_refresh_75 rfl (lv_at hl 1 rfl) ?_
        refine lv_icmp_gt (tgt := 140) hx hb dX5_refresh_76 (by decide) (fun c => ?_) (fun c => ?_)
        · have h := (if_pos c).symm.trans h
          exact hK v63_2 p5.2 _ _ _ h hP hS (lv_sub hl [0, 1] rfl)
        · have h := (if_neg c).symm.trans h
          refine lv_aload_n hx hb dX5_refresh_79 rfl (lv_at hl 0 rfl) ?_
          refine va_get (D := G.1) (ci := 8) (v := .ref (G.2.1 27)) (C := RX6) (T := TX6) (N := 7) hx hb hts gx_X6 hown hT.2.1 hP 26 rfl rfl 3 (by decide) (hts _ gv_145) (fun _ h9 => h9) rfl dX5_refresh_80 ?_
          refine lv_iload_n hx hb dX5_refresh_83 rfl (lv_at hl 2 rfl) ?_
          refine lv_bipush (v := 12) hx hb dX5_refresh_84 (by decide) ?_
          refine lv_imul hx hb dX5_refresh_86 ?_
          refine lv_iload_n hx hb dX5_refresh_87 rfl (lv_at hl 1 rfl) ?_
          refine lv_iadd hx hb dX5_refresh_88 ?_
          refine lv_iload_n hx hb dX5_refresh_89 rfl (lv_at hl 2 rfl) ?_
          refine lv_isub hx hb dX5_refresh_90 ?_
          refine lv_aload_n hx hb dX5_refresh_91 rfl (lv_at hl 0 rfl) ?_
          refine lv_iload_n hx hb dX5_refresh_92 rfl (lv_at hl 2 rfl) ?_
          refine lv_iload_n hx hb dX5_refresh_93 rfl (lv_at hl 1 rfl) ?_
          refine lv_iload_n hx hb dX5_refresh_94 rfl (lv_at hl 2 rfl) ?_
          refine lv_isub hx hb dX5_refresh_95 ?_
          obtain ⟨p6, gp6, h⟩ := Option.bind_eq_some_iff.mp h
          refine gw_ci (gw_rU (x := ⟨"Genericwood$Way", "partly", "(II)I"⟩) (owner := "Genericwood$Way") (C := RX6) X hP hS (gc_X5_partly_W l G v63_3 (v63_2 - v63_3) p5.2 _ gp6) gk_X5_partly ⟨by decide +kernel, by decide +kernel⟩ gv_360 ⟨gv_1794, gv_x13, gv_362⟩ (va_Decl.of (hts _ gv_362) (hts _ gk_X5_partly.1)) (va_recv hT.2.1 hP (ci := 8) (q0 := 26) rfl rfl) rfl rfl (Nat.le_of_ble_eq_true rfl) hl.1 ⟨rfl, rfl⟩ ⟨Nat.le_of_ble_eq_true rfl, Nat.le_of_ble_eq_true rfl⟩ ⟨Nat.le_of_ble_eq_true rfl, Nat.le_of_ble_eq_true rfl⟩ dX5_refresh_96) hS (fun H locs hP hS => ?_)
          refine lv_aload_n hx hb dX5_refresh_99 rfl (lv_at hl 0 rfl) ?_
          refine lv_iload_n hx hb dX5_refresh_100 rfl (lv_at hl 1 rfl) ?_
          refine lv_iload_n hx hb dX5_refresh_101 rfl (lv_at hl 2 rfl) ?_
          refine lv_isub hx hb dX5_refresh_102 ?_
          refine lv_iload_n hx hb dX5_refresh_103 rfl (lv_at hl 2 rfl) ?_
          obtain ⟨p7, gp7, h⟩ := Option.bind_eq_some_iff.mp h
          refine gw_ci (gw_rU (x := ⟨"Genericwood$Way", "partly", "(II)I"⟩) (owner := "Genericwood$Way") (C := RX6) X hP hS (gc_X5_partly_W l G (v63_2 - v63_3) v63_3 p6.2 _ gp7) gk_X5_partly ⟨by decide +kernel, by decide +kernel⟩ gv_360 ⟨gv_1794, gv_x13, gv_362⟩ (va_Decl.of (hts _ gv_362) (hts _ gk_X5_partly.1)) (va_recv hT.2.1 hP (ci := 8) (q0 := 26) rfl rfl) rfl rfl (Nat.le_of_ble_eq_true rfl) hl.1 ⟨rfl, rfl⟩ ⟨Nat.le_of_ble_eq_true rfl, Nat.le_of_ble_eq_true rfl⟩ ⟨Nat.le_of_ble_eq_true rfl, Nat.le_of_ble_eq_true rfl⟩ dX5_refresh_104) hS (fun H locs hP hS => ?_)
          refine lv_iand hx hb dX5_refresh_107 ?_
          obtain ⟨p8, gp8, h⟩ := Option.bind_eq_some_iff.mp h
          refine gw_cv (gw_rN (host := "Genericwood") X hP hS (gc_X8_put l G 27 ⟨by decide, by decide⟩ (((v63_3 * (12 : Int32)) + v63_2) - v63_3) (p6.1 &&& p7.1) p7.2 _ gp8) gk_X8_put gv_402 gv_403 rfl rfl (Nat.le_of_ble_eq_true rfl) hl.1 ⟨rfl, rfl⟩ ⟨Nat.le_of_ble_eq_true rfl, Nat.le_of_ble_eq_true rfl⟩ ⟨Nat.le_of_ble_eq_true rfl, Nat.le_of_ble_eq_true rfl⟩ dX5_refresh_108) hS (fun H locs hP hS => ?_)
          refine lv_aload_n hx hb dX5_refresh_111 rfl (lv_at hl 0 rfl) ?_
          refine va_get (D := G.1) (ci := 8) (v := .ref (G.2.1 28)) (C := RX6) (T := TX6) (N := 7) hx hb hts gx_X6 hown hT.2.1 hP 26 rfl rfl 4 (by decide) (hts _ gv_146) (fun _ h9 => h9) rfl dX5_refresh_112 ?_
          refine lv_iload_n hx hb dX5_refresh_115 rfl (lv_at hl 2 rfl) ?_
          refine lv_bipush (v := 12) hx hb dX5_refresh_116 (by decide) ?_
          refine lv_imul hx hb dX5_refresh_118 ?_
          refine lv_iload_n hx hb dX5_refresh_119 rfl (lv_at hl 1 rfl) ?_
          refine lv_iadd hx hb dX5_refresh_120 ?_
          refine lv_iload_n hx hb dX5_refresh_121 rfl (lv_at hl 2 rfl) ?_
          refine lv_isub hx hb dX5_refresh_122 ?_
          refine lv_aload_n hx hb dX5_refresh_123 rfl (lv_at hl 0 rfl) ?_
          refine lv_iload_n hx hb dX5_refresh_124 rfl (lv_at hl 2 rfl) ?_
          refine lv_iload_n hx hb dX5_refresh_125 rfl (lv_at hl 1 rfl) ?_
          refine lv_iload_n hx hb dX5_refresh_126 rfl (lv_at hl 2 rfl) ?_
          refine lv_isub hx hb dX5_refresh_127 ?_
          obtain ⟨p9, gp9, h⟩ := Option.bind_eq_some_iff.mp h
          refine gw_ci (gw_rU (x := ⟨"Genericwood$Way", "contained", "(II)I"⟩) (owner := "Genericwood$Way") (C := RX6) X hP hS (gc_X5_contained_W l G v63_3 (v63_2 - v63_3) p8 _ gp9) gk_X5_contained ⟨by decide +kernel, by decide +kernel⟩ gv_405 ⟨gv_1795, gv_x14, gv_407⟩ (va_Decl.of (hts _ gv_407) (hts _ gk_X5_contained.1)) (va_recv hT.2.1 hP (ci := 8) (q0 := 26) rfl rfl) rfl rfl (Nat.le_of_ble_eq_true rfl) hl.1 ⟨rfl, rfl⟩ ⟨Nat.le_of_ble_eq_true rfl, Nat.le_of_ble_eq_true rfl⟩ ⟨Nat.le_of_ble_eq_true rfl, Nat.le_of_ble_eq_true rfl⟩ dX5_refresh_128) hS (fun H locs hP hS => ?_)
          obtain ⟨p10, gp10, h⟩ := Option.bind_eq_some_iff.mp h
          refine gw_cv (gw_rN (host := "Genericwood") X hP hS (gc_X8_put l G 28 ⟨by decide, by decide⟩ (((v63_3 * (12 : Int32)) + v63_2) - v63_3) p9.1 p9.2 _ gp10) gk_X8_put gv_402 gv_403 rfl rfl (Nat.le_of_ble_eq_true rfl) hl.1 ⟨rfl, rfl⟩ ⟨Nat.le_of_ble_eq_true rfl, Nat.le_of_ble_eq_true rfl⟩ ⟨Nat.le_of_ble_eq_true rfl, Nat.le_of_ble_eq_true rfl⟩ dX5_refresh_131) hS (fun H locs hP hS => ?_)
          refine lv_iinc (v := (v63_3 + (1 : Int32))) (lv' := [(3, .int (v63_3 + (1 : Int32))), (0, .ref (G.2.1 26)), (2, .int v63_2)]) hx hb dX5_refresh_134 hl (k := 2) rfl rfl (by decide) rfl (fun ls hl => ?_)
          refine lv_goto (tgt := 63) hx hb dX5_refresh_137 (by decide) ?_
          exact ih v63_2 (v63_3 + (1 : Int32)) p10 _ _ _ h hP hS (lv_sub hl [1, 2, 0] rfl) hK
  have L32 : ∀ (n : Nat) (v32_2 : Int32) (σ : gw_S) (H : Heap) (locs : List Loc) (ls : Array Slot), f_X5_refresh_W_L32 n v32_2 σ = some o → gw_P G σ H → va_S (gw_A G s.heap.size) s.heap H locs → lv_has ls 4 [(0, .ref (G.2.1 26)), (2, .int v32_2)] → W p l e { frames := 4, cells := 0, slots := 0, locals := 91 } s m [.ref (G.2.1 26)].toArray below meth c H locs 0 0 (MQ below (gw_QV G s.heap.size o) [.ref (G.2.1 26)].toArray s 0 0 (gw_A G s.heap.size)) (F0 m 32 ls []) := by
    intro n
    induction n with
    | zero =>
      intro v32_2 σ H locs ls h
      exact absurd h (by rw [f_X5_refresh_W_L32.eq_1]; exact fun h => nomatch h)
    | succ n ih =>
      intro v32_2 σ H locs ls h hP hS hl
      rw [f_X5_refresh_W_L32.eq_2] at h
      refine lv_iload_n hx hb dX5_refresh_32 rfl (lv_at hl 1 rfl) ?_
      refine lv_iconst (v := 2) hx hb dX5_refresh_33 (by decide) ?_
      refine lv_aload_n hx hb dX5_refresh_34 rfl (lv_at hl 0 rfl) ?_
      refine va_get (D := G.1) (ci := 8) (v := .ref (G.2.1 4)) (C := RX6) (T := TX6) (N := 7) hx hb hts gx_X6 hown hT.2.1 hP 26 rfl rfl 1 (by decide) (hts _ gv_143) (fun _ h9 => h9) rfl dX5_refresh_35 ?_
      obtain ⟨p3, gp3, h⟩ := Option.bind_eq_some_iff.mp h
      refine gw_ci (gw_rV (C := RX2) X hP hS (gc_X2_size l G  σ _ gp3) gk_X2_size gv_356 ⟨gv_304, gv_305⟩ (va_recv hT.2.1 hP (ci := 5) (q0 := 4) rfl rfl) rfl rfl (Nat.le_of_ble_eq_true rfl) hl.1 ⟨rfl, rfl⟩ ⟨Nat.le_of_ble_eq_true rfl, Nat.le_of_ble_eq_true rfl⟩ ⟨Nat.le_of_ble_eq_true rfl, Nat.le_of_ble_eq_true rfl⟩ dX5_refresh_38) hS (fun H locs hP hS => ?_)
      refine lv_iconst (v := 1) hx hb dX5_refresh_41 (by decide) ?_
      refine lv_isub hx hb dX5_refresh_42 ?_
      refine lv_imul hx hb dX5_refresh_43 ?_
      refine lv_icmp_gt (tgt := 146) hx hb dX5_refresh_44 (by decide) (fun c => ?_) (fun c => ?_)
      · have h := (if_pos c).symm.trans h
        exact gw_rv X hP hS h dX5_refresh_146
      · have h := (if_neg c).symm.trans h
        refine lv_iconst (v := 0) hx hb dX5_refresh_47 (by decide) ?_
        refine lv_iload_n hx hb dX5_refresh_48 rfl (lv_at hl 1 rfl) ?_
        refine lv_aload_n hx hb dX5_refresh_49 rfl (lv_at hl 0 rfl) ?_
        refine va_get (D := G.1) (ci := 8) (v := .ref (G.2.1 4)) (C := RX6) (T := TX6) (N := 7) hx hb hts gx_X6 hown hT.2.1 hP 26 rfl rfl 1 (by decide) (hts _ gv_143) (fun _ h9 => h9) rfl dX5_refresh_50 ?_
        obtain ⟨p4, gp4, h⟩ := Option.bind_eq_some_iff.mp h
        refine gw_ci (gw_rV (C := RX2) X hP hS (gc_X2_size l G  p3.2 _ gp4) gk_X2_size gv_356 ⟨gv_304, gv_305⟩ (va_recv hT.2.1 hP (ci := 5) (q0 := 4) rfl rfl) rfl rfl (Nat.le_of_ble_eq_true rfl) hl.1 ⟨rfl, rfl⟩ ⟨Nat.le_of_ble_eq_true rfl, Nat.le_of_ble_eq_true rfl⟩ ⟨Nat.le_of_ble_eq_true rfl, Nat.le_of_ble_eq_true rfl⟩ dX5_refresh_53) hS (fun H locs hP hS => ?_)
        refine lv_isub hx hb dX5_refresh_56 ?_
        refine lv_iconst (v := 1) hx hb dX5_refresh_57 (by decide) ?_
        refine lv_iadd hx hb dX5_refresh_58 ?_
        refine va_mmax hx hb (hml.trans hl.1.symm) hown (hts _ gv_357) (hts _ gx_mm1) (hts _ gx_mm2) (hts _ gx_mm3) (Nat.le_of_ble_eq_true rfl) (Nat.le_of_ble_eq_true rfl) (Nat.le_of_ble_eq_true rfl) (Nat.le_of_ble_eq_true rfl) dX5_refresh_59 ?_
        refine lv_istore_n (lv' := [(3, .int (if (0 : Int32) < ((v32_2 - p4.1) + (1 : Int32)) then ((v32_2 - p4.1) + (1 : Int32)) else (0 : Int32))), (0, .ref (G.2.1 26)), (2, .int v32_2)]) hx hb dX5_refresh_62 rfl hl (by decide) rfl (fun ls hl => ?_)
        refine L63 64 _ v32_2 (if (0 : Int32) < ((v32_2 - p4.1) + (1 : Int32)) then ((v32_2 - p4.1) + (1 : Int32)) else (0 : Int32)) p4.2 _ _ _ h hP hS (lv_sub hl [1, 2, 0] rfl) (fun w63_2 σ63 H locs ls h hP hS hl => ?_)
        refine lv_iinc (v := (w63_2 + (1 : Int32))) (lv' := [(2, .int (w63_2 + (1 : Int32))), (0, .ref (G.2.1 26))]) hx hb dX5_refresh_140 hl (k := 1) rfl rfl (by decide) rfl (fun ls hl => ?_)
        refine lv_goto (tgt := 32) hx hb dX5_refresh_143 (by decide) ?_
        exact ih (w63_2 + (1 : Int32)) σ63 _ _ _ h hP hS (lv_sub hl [1, 0] rfl)
  unfold f_X5_refresh_W at h
  refine lv_aload_n hx hb dX5_refresh_0 rfl (lv_at hl 0 rfl) ?_
  refine va_get (D := G.1) (ci := 8) (v := .ref (G.2.1 1)) (C := RX6) (T := TX6) (N := 7) hx hb hts gx_X6 hown hT.2.1 hP 26 rfl rfl 0 (by decide) (hts _ gv_136) (fun _ h9 => h9) rfl dX5_refresh_1 ?_
  obtain ⟨p1, gp1, h⟩ := Option.bind_eq_some_iff.mp h
  refine gw_ci (gw_rV (C := RX3) X hP hS (gc_X3_changes l G  σ _ gp1) gk_X3_changes gv_348 ⟨gv_349, gv_350⟩ (va_recv hT.2.1 hP (ci := 6) (q0 := 1) rfl rfl) rfl rfl (Nat.le_of_ble_eq_true rfl) hl.1 ⟨rfl, rfl⟩ ⟨Nat.le_of_ble_eq_true rfl, Nat.le_of_ble_eq_true rfl⟩ ⟨Nat.le_of_ble_eq_true rfl, Nat.le_of_ble_eq_true rfl⟩ dX5_refresh_4) hS (fun H locs hP hS => ?_)
  refine lv_aload_n hx hb dX5_refresh_7 rfl (lv_at hl 0 rfl) ?_
  refine va_get (D := G.1) (ci := 8) (v := .ref (G.2.1 4)) (C := RX6) (T := TX6) (N := 7) hx hb hts gx_X6 hown hT.2.1 hP 26 rfl rfl 1 (by decide) (hts _ gv_143) (fun _ h9 => h9) rfl dX5_refresh_8 ?_
  obtain ⟨p2, gp2, h⟩ := Option.bind_eq_some_iff.mp h
  refine gw_ci (gw_rV (C := RX2) X hP hS (gc_X2_changes l G  p1.2 _ gp2) gk_X2_changes gv_352 ⟨gv_353, gv_354⟩ (va_recv hT.2.1 hP (ci := 5) (q0 := 4) rfl rfl) rfl rfl (Nat.le_of_ble_eq_true rfl) hl.1 ⟨rfl, rfl⟩ ⟨Nat.le_of_ble_eq_true rfl, Nat.le_of_ble_eq_true rfl⟩ ⟨Nat.le_of_ble_eq_true rfl, Nat.le_of_ble_eq_true rfl⟩ dX5_refresh_11) hS (fun H locs hP hS => ?_)
  refine lv_iadd hx hb dX5_refresh_14 ?_
  refine lv_istore_n (lv' := [(1, .int (p1.1 + p2.1)), (0, .ref (G.2.1 26))]) hx hb dX5_refresh_15 rfl hl (by decide) rfl (fun ls hl => ?_)
  refine lv_aload_n hx hb dX5_refresh_16 rfl (lv_at hl 1 rfl) ?_
  refine va_get (D := G.1) (ci := 8) (v := .int (p2.2 26 6)) (C := RX6) (T := TX6) (N := 7) hx hb hts gx_X6 hown hT.2.1 hP 26 rfl rfl 6 (by decide) (hts _ gv_148) (fun _ h9 => h9) rfl dX5_refresh_17 ?_
  refine lv_iload_n hx hb dX5_refresh_20 rfl (lv_at hl 0 rfl) ?_
  refine lv_icmp_ne (tgt := 25) hx hb dX5_refresh_21 (by decide) (fun c => ?_) (fun c => ?_)
  · have h := (if_neg c).symm.trans h
    refine lv_aload_n hx hb dX5_refresh_25 rfl (lv_at hl 1 rfl) ?_
    refine lv_iload_n hx hb dX5_refresh_26 rfl (lv_at hl 0 rfl) ?_
    refine va_put (D := G.1) (ci := 8) (v := .int (p1.1 + p2.1)) (ty := .int) (C := RX6) (T := TX6) (N := 7) hx hb hts gx_X6 tyX6 tyX6_ok nmX6 hown hT.2.1 hP (gw_D hT.1 s.heap.size _) hS 26 rfl rfl 6 (by decide) (hts _ gv_148) (fun _ h9 => h9) rfl gx_pI rfl rfl (Nat.le_of_ble_eq_true rfl) dX5_refresh_27 (fun H locs hP _ hS => ?_)
    have hP : gw_P G (gw_up p2.2 26 6 (p1.1 + p2.1)) H := hP
    refine lv_iconst (v := 0) hx hb dX5_refresh_30 (by decide) ?_
    refine lv_istore_n (lv' := [(2, .int (0 : Int32)), (1, .int (p1.1 + p2.1)), (0, .ref (G.2.1 26))]) hx hb dX5_refresh_31 rfl hl (by decide) rfl (fun ls hl => ?_)
    exact L32 64 (0 : Int32) (gw_up p2.2 26 6 (p1.1 + p2.1)) _ _ _ h hP hS (lv_sub hl [2, 0] rfl)
  · have h := (if_pos c).symm.trans h
    exact gw_rv X hP hS h dX5_refresh_24
def f_X5_alike_W (a0 : Int32) (a1 : Int32) (σ : gw_S) : Option (Int32 × gw_S) := ((f_X5_refresh_W  σ).bind fun p1 => ((f_X8_at 27 ((a0 * (12 : Int32)) + a1) p1).bind fun p2 => (some (p2.1, p2.2))))
set_option maxHeartbeats 4000000 in
set_option maxRecDepth 100000 in
theorem gc_X5_alike_W (l : Launch) (G : gw_G) (a0 : Int32) (a1 : Int32) (σ : gw_S) (o : (Int32 × gw_S)) (h : f_X5_alike_W a0 a1 σ = some o) : gw_M (fun sz => gw_QI G sz o) l yX5_alike cX5_alike 3 (some .int) { frames := 5, cells := 0, slots := 0, locals := 114 } G [.ref (G.2.1 26), .int a0, .int a1] σ := by
  refine gw_en (own := RX5) (lv := [(0, .ref (G.2.1 26)), (1, .int a0), (2, .int a1)]) (by decide +kernel) rfl (Nat.le_of_ble_eq_true rfl) rfl ?_
  intro p e s m below meth c ls X hl hP
  obtain ⟨hx, hb, hml, hown, hts, -, -, hT, hZ, -⟩ := id X
  have hS : va_S (gw_A G s.heap.size) s.heap s.heap [] := va_S.rf
  unfold f_X5_alike_W at h
  refine lv_aload_n hx hb dX5_alike_0 rfl (lv_at hl 0 rfl) ?_
  obtain ⟨p1, gp1, h⟩ := Option.bind_eq_some_iff.mp h
  refine gw_cv (gw_rU (x := ⟨"Genericwood$Way", "refresh", "()V"⟩) (owner := "Genericwood$Way") (C := RX6) X hP hS (gc_X5_refresh_W l G  σ _ gp1) gk_X5_refresh ⟨by decide +kernel, by decide +kernel⟩ gv_344 ⟨gv_1793, gv_x12, gv_346⟩ (va_Decl.of (hts _ gv_346) (hts _ gk_X5_refresh.1)) (va_recv hT.2.1 hP (ci := 8) (q0 := 26) rfl rfl) rfl rfl (Nat.le_of_ble_eq_true rfl) hl.1 ⟨rfl, rfl⟩ ⟨Nat.le_of_ble_eq_true rfl, Nat.le_of_ble_eq_true rfl⟩ ⟨Nat.le_of_ble_eq_true rfl, Nat.le_of_ble_eq_true rfl⟩ dX5_alike_1) hS (fun H locs hP hS => ?_)
  refine lv_aload_n hx hb dX5_alike_4 rfl (lv_at hl 0 rfl) ?_
  refine va_get (D := G.1) (ci := 8) (v := .ref (G.2.1 27)) (C := RX6) (T := TX6) (N := 7) hx hb hts gx_X6 hown hT.2.1 hP 26 rfl rfl 3 (by decide) (hts _ gv_145) (fun _ h9 => h9) rfl dX5_alike_5 ?_
  refine lv_iload_n hx hb dX5_alike_8 rfl (lv_at hl 1 rfl) ?_
  refine lv_bipush (v := 12) hx hb dX5_alike_9 (by decide) ?_
  refine lv_imul hx hb dX5_alike_11 ?_
  refine lv_iload_n hx hb dX5_alike_12 rfl (lv_at hl 2 rfl) ?_
  refine lv_iadd hx hb dX5_alike_13 ?_
  obtain ⟨p2, gp2, h⟩ := Option.bind_eq_some_iff.mp h
  refine gw_ci (gw_rN (host := "Genericwood") X hP hS (gc_X8_at l G 27 ⟨by decide, by decide⟩ ((a0 * (12 : Int32)) + a1) p1 _ gp2) gk_X8_at gv_381 gv_275 rfl rfl (Nat.le_of_ble_eq_true rfl) hl.1 ⟨rfl, rfl⟩ ⟨Nat.le_of_ble_eq_true rfl, Nat.le_of_ble_eq_true rfl⟩ ⟨Nat.le_of_ble_eq_true rfl, Nat.le_of_ble_eq_true rfl⟩ dX5_alike_14) hS (fun H locs hP hS => ?_)
  exact gw_ri X hP hS h dX5_alike_17
def f_X5_inside_W (a0 : Int32) (a1 : Int32) (σ : gw_S) : Option (Int32 × gw_S) := ((f_X5_refresh_W  σ).bind fun p1 => ((f_X8_at 28 ((a0 * (12 : Int32)) + a1) p1).bind fun p2 => (some (p2.1, p2.2))))
set_option maxHeartbeats 4000000 in
set_option maxRecDepth 100000 in
theorem gc_X5_inside_W (l : Launch) (G : gw_G) (a0 : Int32) (a1 : Int32) (σ : gw_S) (o : (Int32 × gw_S)) (h : f_X5_inside_W a0 a1 σ = some o) : gw_M (fun sz => gw_QI G sz o) l yX5_inside cX5_inside 3 (some .int) { frames := 5, cells := 0, slots := 0, locals := 114 } G [.ref (G.2.1 26), .int a0, .int a1] σ := by
  refine gw_en (own := RX5) (lv := [(0, .ref (G.2.1 26)), (1, .int a0), (2, .int a1)]) (by decide +kernel) rfl (Nat.le_of_ble_eq_true rfl) rfl ?_
  intro p e s m below meth c ls X hl hP
  obtain ⟨hx, hb, hml, hown, hts, -, -, hT, hZ, -⟩ := id X
  have hS : va_S (gw_A G s.heap.size) s.heap s.heap [] := va_S.rf
  unfold f_X5_inside_W at h
  refine lv_aload_n hx hb dX5_inside_0 rfl (lv_at hl 0 rfl) ?_
  obtain ⟨p1, gp1, h⟩ := Option.bind_eq_some_iff.mp h
  refine gw_cv (gw_rU (x := ⟨"Genericwood$Way", "refresh", "()V"⟩) (owner := "Genericwood$Way") (C := RX6) X hP hS (gc_X5_refresh_W l G  σ _ gp1) gk_X5_refresh ⟨by decide +kernel, by decide +kernel⟩ gv_344 ⟨gv_1793, gv_x12, gv_346⟩ (va_Decl.of (hts _ gv_346) (hts _ gk_X5_refresh.1)) (va_recv hT.2.1 hP (ci := 8) (q0 := 26) rfl rfl) rfl rfl (Nat.le_of_ble_eq_true rfl) hl.1 ⟨rfl, rfl⟩ ⟨Nat.le_of_ble_eq_true rfl, Nat.le_of_ble_eq_true rfl⟩ ⟨Nat.le_of_ble_eq_true rfl, Nat.le_of_ble_eq_true rfl⟩ dX5_inside_1) hS (fun H locs hP hS => ?_)
  refine lv_aload_n hx hb dX5_inside_4 rfl (lv_at hl 0 rfl) ?_
  refine va_get (D := G.1) (ci := 8) (v := .ref (G.2.1 28)) (C := RX6) (T := TX6) (N := 7) hx hb hts gx_X6 hown hT.2.1 hP 26 rfl rfl 4 (by decide) (hts _ gv_146) (fun _ h9 => h9) rfl dX5_inside_5 ?_
  refine lv_iload_n hx hb dX5_inside_8 rfl (lv_at hl 1 rfl) ?_
  refine lv_bipush (v := 12) hx hb dX5_inside_9 (by decide) ?_
  refine lv_imul hx hb dX5_inside_11 ?_
  refine lv_iload_n hx hb dX5_inside_12 rfl (lv_at hl 2 rfl) ?_
  refine lv_iadd hx hb dX5_inside_13 ?_
  obtain ⟨p2, gp2, h⟩ := Option.bind_eq_some_iff.mp h
  refine gw_ci (gw_rN (host := "Genericwood") X hP hS (gc_X8_at l G 28 ⟨by decide, by decide⟩ ((a0 * (12 : Int32)) + a1) p1 _ gp2) gk_X8_at gv_381 gv_275 rfl rfl (Nat.le_of_ble_eq_true rfl) hl.1 ⟨rfl, rfl⟩ ⟨Nat.le_of_ble_eq_true rfl, Nat.le_of_ble_eq_true rfl⟩ ⟨Nat.le_of_ble_eq_true rfl, Nat.le_of_ble_eq_true rfl⟩ dX5_inside_14) hS (fun H locs hP hS => ?_)
  exact gw_ri X hP hS h dX5_inside_17
def f_X5_judge_W (a0 : Int32) (σ : gw_S) : Option (Int32 × gw_S) := ((f_X5_refresh_W  σ).bind fun p1 => ((f_X5_judged_W 8 a0 (1 : Int32) p1).bind fun p2 => (some (p2.1, p2.2))))
set_option maxHeartbeats 4000000 in
set_option maxRecDepth 100000 in
theorem gc_X5_judge_W (l : Launch) (G : gw_G) (a0 : Int32) (σ : gw_S) (o : (Int32 × gw_S)) (h : f_X5_judge_W a0 σ = some o) : gw_M (fun sz => gw_QI G sz o) l yX5_judge cX5_judge 2 (some .int) { frames := 300, cells := 0, slots := 0, locals := 5000 } G [.ref (G.2.1 26), .int a0] σ := by
  refine gw_en (own := RX5) (lv := [(0, .ref (G.2.1 26)), (1, .int a0)]) (by decide +kernel) rfl (Nat.le_of_ble_eq_true rfl) rfl ?_
  intro p e s m below meth c ls X hl hP
  obtain ⟨hx, hb, hml, hown, hts, -, -, hT, hZ, -⟩ := id X
  have hS : va_S (gw_A G s.heap.size) s.heap s.heap [] := va_S.rf
  unfold f_X5_judge_W at h
  refine lv_aload_n hx hb dX5_judge_0 rfl (lv_at hl 0 rfl) ?_
  obtain ⟨p1, gp1, h⟩ := Option.bind_eq_some_iff.mp h
  refine gw_cv (gw_rU (x := ⟨"Genericwood$Way", "refresh", "()V"⟩) (owner := "Genericwood$Way") (C := RX6) X hP hS (gc_X5_refresh_W l G  σ _ gp1) gk_X5_refresh ⟨by decide +kernel, by decide +kernel⟩ gv_344 ⟨gv_1793, gv_x12, gv_346⟩ (va_Decl.of (hts _ gv_346) (hts _ gk_X5_refresh.1)) (va_recv hT.2.1 hP (ci := 8) (q0 := 26) rfl rfl) rfl rfl (Nat.le_of_ble_eq_true rfl) hl.1 ⟨rfl, rfl⟩ ⟨by show 4 + 1 ≤ 300; omega, by show 8 + (4 + 11) + (91) ≤ 5000; omega⟩ ⟨Nat.le_of_ble_eq_true rfl, Nat.le_of_ble_eq_true rfl⟩ dX5_judge_1) hS (fun H locs hP hS => ?_)
  refine lv_aload_n hx hb dX5_judge_4 rfl (lv_at hl 0 rfl) ?_
  refine lv_iload_n hx hb dX5_judge_5 rfl (lv_at hl 1 rfl) ?_
  refine lv_iconst (v := 1) hx hb dX5_judge_6 (by decide) ?_
  obtain ⟨p2, gp2, h⟩ := Option.bind_eq_some_iff.mp h
  refine gw_ci (gw_rU (x := ⟨"Genericwood$Way", "judged", "(II)I"⟩) (owner := "Genericwood$Way") (C := RX6) X hP hS (gc_X5_judged_W l G 8  a0 (1 : Int32) p1 _ gp2) gk_X5_judged ⟨by decide +kernel, by decide +kernel⟩ gv_435 ⟨gv_1796, gv_x16, gv_437⟩ (va_Decl.of (hts _ gv_437) (hts _ gk_X5_judged.1)) (va_recv hT.2.1 hP (ci := 8) (q0 := 26) rfl rfl) rfl rfl (Nat.le_of_ble_eq_true rfl) hl.1 ⟨rfl, rfl⟩ ⟨by show 30 * 8 + 1 ≤ 300; omega, by show 8 + (5 + 11) + (500 * 8) ≤ 5000; omega⟩ ⟨Nat.le_of_ble_eq_true rfl, Nat.le_of_ble_eq_true rfl⟩ dX5_judge_7) hS (fun H locs hP hS => ?_)
  exact gw_ri X hP hS h dX5_judge_10
