theorem gv_1309 : Cond.code yX11_isCondition cX11_isCondition 2 (some .boolean) ∈ gw_L := gw_tab 1309 (by decide +kernel) (by decide +kernel)
theorem gk_X11_isCondition : gw_K yX11_isCondition cX11_isCondition 2 (some .boolean) 1 := ⟨gv_1309, gv_10, by decide +kernel, by decide +kernel⟩
theorem gv_1308 : Cond.instanceMethod yX11_isCondition ∈ gw_L := gw_tab 1308 (by decide +kernel) (by decide +kernel)
theorem gv_1306 : Cond.methodLink RX11 65 yX11_isCondition ∈ gw_L := gw_tab 1306 (by decide +kernel) (by decide +kernel)
theorem gv_s26 : Cond.selects RX11 yX11_isCondition yX11_isCondition ∈ gw_L := gw_sel 26 (by decide +kernel) (by decide +kernel)
theorem gv_1212 : Cond.code yX11_no cX11_no 3 (some .boolean) ∈ gw_L := gw_tab 1212 (by decide +kernel) (by decide +kernel)
theorem gk_X11_no : gw_K yX11_no cX11_no 3 (some .boolean) 2 := ⟨gv_1212, gv_10, by decide +kernel, by decide +kernel⟩
theorem gv_1211 : Cond.instanceMethod yX11_no ∈ gw_L := gw_tab 1211 (by decide +kernel) (by decide +kernel)
theorem gv_1209 : Cond.methodLink RX11 40 yX11_no ∈ gw_L := gw_tab 1209 (by decide +kernel) (by decide +kernel)
theorem gv_s22 : Cond.selects RX11 yX11_no yX11_no ∈ gw_L := gw_sel 22 (by decide +kernel) (by decide +kernel)
theorem gv_1443 : Cond.code yX11_isSet cX11_isSet 2 (some .boolean) ∈ gw_L := gw_tab 1443 (by decide +kernel) (by decide +kernel)
theorem gk_X11_isSet : gw_K yX11_isSet cX11_isSet 2 (some .boolean) 1 := ⟨gv_1443, gv_10, by decide +kernel, by decide +kernel⟩
theorem gv_1442 : Cond.instanceMethod yX11_isSet ∈ gw_L := gw_tab 1442 (by decide +kernel) (by decide +kernel)
theorem gv_1440 : Cond.methodLink RX11 100 yX11_isSet ∈ gw_L := gw_tab 1440 (by decide +kernel) (by decide +kernel)
theorem gv_s30 : Cond.selects RX11 yX11_isSet yX11_isSet ∈ gw_L := gw_sel 30 (by decide +kernel) (by decide +kernel)
theorem gv_1447 : Cond.code yX11_apart cX11_apart 5 (some .boolean) ∈ gw_L := gw_tab 1447 (by decide +kernel) (by decide +kernel)
theorem gk_X11_apart : gw_K yX11_apart cX11_apart 5 (some .boolean) 1 := ⟨gv_1447, gv_10, by decide +kernel, by decide +kernel⟩
theorem gv_1446 : Cond.instanceMethod yX11_apart ∈ gw_L := gw_tab 1446 (by decide +kernel) (by decide +kernel)
theorem gv_1444 : Cond.methodLink RX11 103 yX11_apart ∈ gw_L := gw_tab 1444 (by decide +kernel) (by decide +kernel)
theorem gv_s31 : Cond.selects RX11 yX11_apart yX11_apart ∈ gw_L := gw_sel 31 (by decide +kernel) (by decide +kernel)
theorem gv_1415 : Cond.methodLink RX11 90 yJ6_bitCount_0f7a4 ∈ gw_L := gw_tab 1415 (by decide +kernel) (by decide +kernel)
theorem gv_1452 : Cond.methodLink RX11 106 Lib.Math.max.name ∈ gw_L := gw_tab 1452 (by decide +kernel) (by decide +kernel)
theorem gv_1464 : Cond.code yX11_filters cX11_filters 5 (some .boolean) ∈ gw_L := gw_tab 1464 (by decide +kernel) (by decide +kernel)
theorem gk_X11_filters : gw_K yX11_filters cX11_filters 5 (some .boolean) 1 := ⟨gv_1464, gv_10, by decide +kernel, by decide +kernel⟩
theorem gv_1463 : Cond.instanceMethod yX11_filters ∈ gw_L := gw_tab 1463 (by decide +kernel) (by decide +kernel)
theorem gv_1461 : Cond.methodLink RX11 112 yX11_filters ∈ gw_L := gw_tab 1461 (by decide +kernel) (by decide +kernel)
theorem gv_s32 : Cond.selects RX11 yX11_filters yX11_filters ∈ gw_L := gw_sel 32 (by decide +kernel) (by decide +kernel)
theorem gv_1480 : Cond.code yX11_endsBelow cX11_endsBelow 2 (some .int) ∈ gw_L := gw_tab 1480 (by decide +kernel) (by decide +kernel)
theorem gk_X11_endsBelow : gw_K yX11_endsBelow cX11_endsBelow 2 (some .int) 1 := ⟨gv_1480, gv_10, by decide +kernel, by decide +kernel⟩
theorem gv_1479 : Cond.instanceMethod yX11_endsBelow ∈ gw_L := gw_tab 1479 (by decide +kernel) (by decide +kernel)
theorem gv_1477 : Cond.methodLink RX11 115 yX11_endsBelow ∈ gw_L := gw_tab 1477 (by decide +kernel) (by decide +kernel)
theorem gv_s33 : Cond.selects RX11 yX11_endsBelow yX11_endsBelow ∈ gw_L := gw_sel 33 (by decide +kernel) (by decide +kernel)
theorem gv_1492 : Cond.code yX11_isWorld cX11_isWorld 2 (some .boolean) ∈ gw_L := gw_tab 1492 (by decide +kernel) (by decide +kernel)
theorem gk_X11_isWorld : gw_K yX11_isWorld cX11_isWorld 2 (some .boolean) 1 := ⟨gv_1492, gv_10, by decide +kernel, by decide +kernel⟩
theorem gv_1491 : Cond.instanceMethod yX11_isWorld ∈ gw_L := gw_tab 1491 (by decide +kernel) (by decide +kernel)
theorem gv_1489 : Cond.methodLink RX11 118 yX11_isWorld ∈ gw_L := gw_tab 1489 (by decide +kernel) (by decide +kernel)
theorem gv_s34 : Cond.selects RX11 yX11_isWorld yX11_isWorld ∈ gw_L := gw_sel 34 (by decide +kernel) (by decide +kernel)
theorem gv_1556 : Cond.code yJx4a65c_isEmpty_aae02 cJx4a65c_isEmpty_aae02 1 (some .boolean) ∈ gw_L := gw_tab 1556 (by decide +kernel) (by decide +kernel)
theorem gk_Jx4a65c_isEmpty_aae02 : gw_K yJx4a65c_isEmpty_aae02 cJx4a65c_isEmpty_aae02 1 (some .boolean) 0 := ⟨gv_1556, gv_13, by decide +kernel, by decide +kernel⟩
theorem gv_1549 : Cond.methodLink RX11 144 ⟨"java/util/List", "isEmpty", "()Z"⟩ ∈ gw_L := gw_tab 1549 (by decide +kernel) (by decide +kernel)
theorem gv_1552 : Cond.selects RJx4a65c ⟨"java/util/List", "isEmpty", "()Z"⟩ yJx4a65c_isEmpty_aae02 ∈ gw_L := gw_tab 1552 (by decide +kernel) (by decide +kernel)
theorem gv_1554 : Cond.instanceMethod yJx4a65c_isEmpty_aae02 ∈ gw_L := gw_tab 1554 (by decide +kernel) (by decide +kernel)
theorem gv_1655 : Cond.code yX11_isFormula cX11_isFormula 2 (some .boolean) ∈ gw_L := gw_tab 1655 (by decide +kernel) (by decide +kernel)
theorem gk_X11_isFormula : gw_K yX11_isFormula cX11_isFormula 2 (some .boolean) 1 := ⟨gv_1655, gv_10, by decide +kernel, by decide +kernel⟩
theorem gv_1654 : Cond.instanceMethod yX11_isFormula ∈ gw_L := gw_tab 1654 (by decide +kernel) (by decide +kernel)
theorem gv_1652 : Cond.methodLink RX11 175 yX11_isFormula ∈ gw_L := gw_tab 1652 (by decide +kernel) (by decide +kernel)
theorem gv_s44 : Cond.selects RX11 yX11_isFormula yX11_isFormula ∈ gw_L := gw_sel 44 (by decide +kernel) (by decide +kernel)
theorem gv_1612 : Cond.code yX11_isTerm cX11_isTerm 2 (some .boolean) ∈ gw_L := gw_tab 1612 (by decide +kernel) (by decide +kernel)
theorem gk_X11_isTerm : gw_K yX11_isTerm cX11_isTerm 2 (some .boolean) 1 := ⟨gv_1612, gv_10, by decide +kernel, by decide +kernel⟩
theorem gv_1611 : Cond.instanceMethod yX11_isTerm ∈ gw_L := gw_tab 1611 (by decide +kernel) (by decide +kernel)
theorem gv_1609 : Cond.methodLink RX11 165 yX11_isTerm ∈ gw_L := gw_tab 1609 (by decide +kernel) (by decide +kernel)
theorem gv_s42 : Cond.selects RX11 yX11_isTerm yX11_isTerm ∈ gw_L := gw_sel 42 (by decide +kernel) (by decide +kernel)
theorem gv_1178 : Cond.fieldLink RX11 22 "GenericwoodModel" "goes" "[I" ∈ gw_L := gw_tab 1178 (by decide +kernel) (by decide +kernel)
theorem gv_1771 : Cond.code yJx4a65c_clear_da8c8 cJx4a65c_clear_da8c8 4 none ∈ gw_L := gw_tab 1771 (by decide +kernel) (by decide +kernel)
theorem gk_Jx4a65c_clear_da8c8 : gw_K yJx4a65c_clear_da8c8 cJx4a65c_clear_da8c8 4 none 0 := ⟨gv_1771, gv_13, by decide +kernel, by decide +kernel⟩
theorem gv_1764 : Cond.methodLink RX11 241 ⟨"java/util/List", "clear", "()V"⟩ ∈ gw_L := gw_tab 1764 (by decide +kernel) (by decide +kernel)
theorem gv_1767 : Cond.selects RJx4a65c ⟨"java/util/List", "clear", "()V"⟩ yJx4a65c_clear_da8c8 ∈ gw_L := gw_tab 1767 (by decide +kernel) (by decide +kernel)
theorem gv_1769 : Cond.instanceMethod yJx4a65c_clear_da8c8 ∈ gw_L := gw_tab 1769 (by decide +kernel) (by decide +kernel)
def f_X11_under_L72 : Nat → Int32 → Int32 → Int32 → Int32 → gw_S → Option (Int32 × gw_S)
  | 0, _, _, _, _, _ => none
  | n + 1, v72_1, v72_2, v72_3, v72_4, σ => ((f_Jx4a65c_size_8abf5_34 σ).bind fun p4 => (if p4.1 ≤ v72_4 then none else none))
def f_X11_under (a0 : Int32) (a1 : Int32) (σ : gw_S) : Option (Int32 × gw_S) := ((f_X11_isCondition a0 σ).bind fun p1 => (if p1.1 = 0 then ((f_X11_no (0 : Int32) (1 : Int32) p1.2).bind fun p2 => (if p2.1 = 0 then (if a0 = a1 then ((f_X11_no (0 : Int32) (2 : Int32) p2.2).bind fun p3 => (if p3.1 = 0 then (f_X11_under_L72 64 a0 a1 (0 : Int32) (0 : Int32) p3.2) else (some ((0 : Int32), p3.2)))) else none) else (some ((0 : Int32), p2.2)))) else ((f_X11_isCondition a1 p1.2).bind fun p5 => (if p5.1 = 0 then ((f_X11_no (0 : Int32) (1 : Int32) p5.2).bind fun p6 => (if p6.1 = 0 then (if a0 = a1 then ((f_X11_no (0 : Int32) (2 : Int32) p6.2).bind fun p7 => (if p7.1 = 0 then (f_X11_under_L72 64 a0 a1 (0 : Int32) (0 : Int32) p7.2) else (some ((0 : Int32), p7.2)))) else none) else (some ((0 : Int32), p6.2)))) else ((f_X11_no (1 : Int32) (1 : Int32) p5.2).bind fun p8 => (if p8.1 = 0 then (if a0 = a1 then ((f_X11_no (0 : Int32) (2 : Int32) p8.2).bind fun p9 => (if p9.1 = 0 then (f_X11_under_L72 64 a0 a1 (0 : Int32) (0 : Int32) p9.2) else (some ((0 : Int32), p9.2)))) else none) else (some ((0 : Int32), p8.2))))))))
set_option maxHeartbeats 4000000 in
set_option maxRecDepth 100000 in
theorem gc_X11_under (l : Launch) (G : gw_G) (a0 : Int32) (a1 : Int32) (σ : gw_S) (o : (Int32 × gw_S)) (h : f_X11_under a0 a1 σ = some o) : gw_M (fun sz => gw_QI G sz o) l yX11_under cX11_under 6 (some .int) { frames := 2, cells := 0, slots := 0, locals := 43 } G [.ref (G.2.1 33), .int a0, .int a1] σ := by
  refine gw_en (own := RX11) (lv := [(0, .ref (G.2.1 33)), (1, .int a0), (2, .int a1)]) (by decide +kernel) rfl (Nat.le_of_ble_eq_true rfl) rfl ?_
  intro p e s m below meth c ls X hl hP
  obtain ⟨hx, hb, hml, hown, hts, -, -, hT, hZ, -⟩ := id X
  have hS : va_S (gw_A G s.heap.size) s.heap s.heap [] := va_S.rf
  have L72 : ∀ (n : Nat) (v72_1 : Int32) (v72_2 : Int32) (v72_3 : Int32) (v72_4 : Int32) (σ : gw_S) (H : Heap) (locs : List Loc) (ls : Array Slot), f_X11_under_L72 n v72_1 v72_2 v72_3 v72_4 σ = some o → gw_P G σ H → va_S (gw_A G s.heap.size) s.heap H locs → lv_has ls 6 [(0, .ref (G.2.1 33)), (1, .int v72_1), (2, .int v72_2), (3, .int v72_3), (4, .int v72_4)] → W p l e { frames := 2, cells := 0, slots := 0, locals := 43 } s m [.ref (G.2.1 33), .int a0, .int a1].toArray below meth c H locs 0 0 (MQ below (gw_QI G s.heap.size o) [.ref (G.2.1 33), .int a0, .int a1].toArray s 0 0 (gw_A G s.heap.size)) (F0 m 72 ls []) := by
    intro n
    induction n with
    | zero =>
      intro v72_1 v72_2 v72_3 v72_4 σ H locs ls h
      exact absurd h (by rw [f_X11_under_L72.eq_1]; exact fun h => nomatch h)
    | succ n ih =>
      intro v72_1 v72_2 v72_3 v72_4 σ H locs ls h hP hS hl
      rw [f_X11_under_L72.eq_2] at h
      refine lv_iload hx hb dX11_under_72 (lv_at hl 4 rfl) ?_
      refine lv_aload_n hx hb dX11_under_74 rfl (lv_at hl 0 rfl) ?_
      refine va_get (D := G.1) (ci := 13) (v := .ref (G.2.1 34)) (C := RX11) (T := TX11) (N := 5) hx hb hts gx_X11 hown hT.2.1 hP 33 rfl rfl 0 (by decide) (hts _ gv_1175) (fun _ h9 => h9) rfl dX11_under_75 ?_
      obtain ⟨p4, gp4, h⟩ := Option.bind_eq_some_iff.mp h
      refine gw_fi (gw_rF (x := ⟨"java/util/List", "size", "()I"⟩) (C := RJx4a65c) X (hT.2.1.1 2 _ rfl).2 hP hS (gc_Jx4a65c_size_8abf5_34 l G σ _ gp4) gk_Jx4a65c_size_8abf5 ⟨by decide +kernel, by decide +kernel⟩ gv_1200 ⟨gv_1204, gv_1206⟩ 0 rfl (va_recv hT.2.1 hP (ci := 2) (q0 := 34) rfl rfl) rfl rfl (Nat.le_of_ble_eq_true rfl) hl.1 ⟨rfl, rfl⟩ ⟨Nat.le_of_ble_eq_true rfl, Nat.le_of_ble_eq_true rfl⟩ ⟨Nat.le_of_ble_eq_true rfl, Nat.le_of_ble_eq_true rfl⟩ dX11_under_78) hS (fun H locs hP hS => ?_)
      refine lv_icmp_ge (tgt := 151) hx hb dX11_under_83 (by decide) (fun c => ?_) (fun c => ?_)
      · have h := (if_pos c).symm.trans h
        refine lv_aload_n hx hb dX11_under_151 rfl (lv_at hl 0 rfl) ?_
        refine va_get (D := G.1) (ci := 13) (v := .ref (G.2.1 34)) (C := RX11) (T := TX11) (N := 5) hx hb hts gx_X11 hown hT.2.1 hP 33 rfl rfl 0 (by decide) (hts _ gv_1175) (fun _ h9 => h9) rfl dX11_under_152 ?_
        exact absurd h (fun h => nomatch h)
      · have h := (if_neg c).symm.trans h
        refine lv_aload_n hx hb dX11_under_86 rfl (lv_at hl 0 rfl) ?_
        refine lv_iload_n hx hb dX11_under_87 rfl (lv_at hl 2 rfl) ?_
        refine lv_iload hx hb dX11_under_88 (lv_at hl 4 rfl) ?_
        exact absurd h (fun h => nomatch h)
  unfold f_X11_under at h
  refine lv_aload_n hx hb dX11_under_0 rfl (lv_at hl 0 rfl) ?_
  refine lv_aload_n hx hb dX11_under_1 rfl (lv_at hl 0 rfl) ?_
  refine lv_iload_n hx hb dX11_under_2 rfl (lv_at hl 1 rfl) ?_
  obtain ⟨p1, gp1, h⟩ := Option.bind_eq_some_iff.mp h
  refine gw_cz (gw_rV (C := RX11) X hP hS (gc_X11_isCondition l G a0 σ _ gp1) gk_X11_isCondition gv_1306 ⟨gv_1308, gv_s26⟩ (va_recv hT.2.1 hP (ci := 13) (q0 := 33) rfl rfl) rfl rfl (Nat.le_of_ble_eq_true rfl) hl.1 ⟨rfl, rfl⟩ ⟨Nat.le_of_ble_eq_true rfl, Nat.le_of_ble_eq_true rfl⟩ ⟨Nat.le_of_ble_eq_true rfl, Nat.le_of_ble_eq_true rfl⟩ dX11_under_3) hS (fun H locs hb_p1 hP hS => ?_)
  refine lv_if_eq (tgt := 21) hx hb dX11_under_6 (by decide) (fun c => ?_) (fun c => ?_)
  · have h := (if_pos c).symm.trans h
    refine lv_iconst (v := 0) hx hb dX11_under_21 (by decide) ?_
    refine lv_iconst (v := 1) hx hb dX11_under_22 (by decide) ?_
    obtain ⟨p2, gp2, h⟩ := Option.bind_eq_some_iff.mp h
    refine gw_cz (gw_rV (C := RX11) X hP hS (gc_X11_no l G (0 : Int32) (1 : Int32) p1.2 _ gp2) gk_X11_no gv_1209 ⟨gv_1211, gv_s22⟩ (va_recv hT.2.1 hP (ci := 13) (q0 := 33) rfl rfl) rfl rfl (Nat.le_of_ble_eq_true rfl) hl.1 ⟨rfl, rfl⟩ ⟨Nat.le_of_ble_eq_true rfl, Nat.le_of_ble_eq_true rfl⟩ ⟨Nat.le_of_ble_eq_true rfl, Nat.le_of_ble_eq_true rfl⟩ dX11_under_23) hS (fun H locs hb_p2 hP hS => ?_)
    refine lv_if_ne (tgt := 65) hx hb dX11_under_26 (by decide) (fun c => ?_) (fun c => ?_)
    · have h := (if_neg c).symm.trans h
      refine lv_iconst (v := 0) hx hb dX11_under_65 (by decide) ?_
      exact gw_ri X hP hS h dX11_under_66
    · have h := (if_pos c).symm.trans h
      refine lv_aload_n hx hb dX11_under_29 rfl (lv_at hl 0 rfl) ?_
      refine lv_iload_n hx hb dX11_under_30 rfl (lv_at hl 1 rfl) ?_
      refine lv_iload_n hx hb dX11_under_31 rfl (lv_at hl 2 rfl) ?_
      refine lv_icmp_eq (tgt := 57) hx hb dX11_under_32 (by decide) (fun c => ?_) (fun c => ?_)
      · have h := (if_pos c).symm.trans h
        refine lv_iconst (v := 0) hx hb dX11_under_57 (by decide) ?_
        refine lv_iconst (v := 2) hx hb dX11_under_58 (by decide) ?_
        obtain ⟨p3, gp3, h⟩ := Option.bind_eq_some_iff.mp h
        refine gw_cz (gw_rV (C := RX11) X hP hS (gc_X11_no l G (0 : Int32) (2 : Int32) p2.2 _ gp3) gk_X11_no gv_1209 ⟨gv_1211, gv_s22⟩ (va_recv hT.2.1 hP (ci := 13) (q0 := 33) rfl rfl) rfl rfl (Nat.le_of_ble_eq_true rfl) hl.1 ⟨rfl, rfl⟩ ⟨Nat.le_of_ble_eq_true rfl, Nat.le_of_ble_eq_true rfl⟩ ⟨Nat.le_of_ble_eq_true rfl, Nat.le_of_ble_eq_true rfl⟩ dX11_under_59) hS (fun H locs hb_p3 hP hS => ?_)
        refine lv_if_eq (tgt := 67) hx hb dX11_under_62 (by decide) (fun c => ?_) (fun c => ?_)
        · have h := (if_pos c).symm.trans h
          refine lv_iconst (v := 0) hx hb dX11_under_67 (by decide) ?_
          refine lv_istore_n (lv' := [(3, .int (0 : Int32)), (0, .ref (G.2.1 33)), (1, .int a0), (2, .int a1)]) hx hb dX11_under_68 rfl hl (by decide) rfl (fun ls hl => ?_)
          refine lv_iconst (v := 0) hx hb dX11_under_69 (by decide) ?_
          refine lv_istore (lv' := [(4, .int (0 : Int32)), (3, .int (0 : Int32)), (0, .ref (G.2.1 33)), (1, .int a0), (2, .int a1)]) hx hb dX11_under_70 hl (by decide) rfl (fun ls hl => ?_)
          exact L72 64 a0 a1 (0 : Int32) (0 : Int32) p3.2 _ _ _ h hP hS (lv_sub hl [2, 3, 4, 1, 0] rfl)
        · have h := (if_neg c).symm.trans h
          refine lv_iconst (v := 0) hx hb dX11_under_65 (by decide) ?_
          exact gw_ri X hP hS h dX11_under_66
      · have h := (if_neg c).symm.trans h
        refine lv_aload_n hx hb dX11_under_35 rfl (lv_at hl 0 rfl) ?_
        refine lv_iload_n hx hb dX11_under_36 rfl (lv_at hl 1 rfl) ?_
        refine lv_iload_n hx hb dX11_under_37 rfl (lv_at hl 2 rfl) ?_
        exact absurd h (fun h => nomatch h)
  · have h := (if_neg c).symm.trans h
    refine lv_aload_n hx hb dX11_under_9 rfl (lv_at hl 0 rfl) ?_
    refine lv_iload_n hx hb dX11_under_10 rfl (lv_at hl 2 rfl) ?_
    obtain ⟨p5, gp5, h⟩ := Option.bind_eq_some_iff.mp h
    refine gw_cz (gw_rV (C := RX11) X hP hS (gc_X11_isCondition l G a1 p1.2 _ gp5) gk_X11_isCondition gv_1306 ⟨gv_1308, gv_s26⟩ (va_recv hT.2.1 hP (ci := 13) (q0 := 33) rfl rfl) rfl rfl (Nat.le_of_ble_eq_true rfl) hl.1 ⟨rfl, rfl⟩ ⟨Nat.le_of_ble_eq_true rfl, Nat.le_of_ble_eq_true rfl⟩ ⟨Nat.le_of_ble_eq_true rfl, Nat.le_of_ble_eq_true rfl⟩ dX11_under_11) hS (fun H locs hb_p5 hP hS => ?_)
    refine lv_if_eq (tgt := 21) hx hb dX11_under_14 (by decide) (fun c => ?_) (fun c => ?_)
    · have h := (if_pos c).symm.trans h
      refine lv_iconst (v := 0) hx hb dX11_under_21 (by decide) ?_
      refine lv_iconst (v := 1) hx hb dX11_under_22 (by decide) ?_
      obtain ⟨p6, gp6, h⟩ := Option.bind_eq_some_iff.mp h
      refine gw_cz (gw_rV (C := RX11) X hP hS (gc_X11_no l G (0 : Int32) (1 : Int32) p5.2 _ gp6) gk_X11_no gv_1209 ⟨gv_1211, gv_s22⟩ (va_recv hT.2.1 hP (ci := 13) (q0 := 33) rfl rfl) rfl rfl (Nat.le_of_ble_eq_true rfl) hl.1 ⟨rfl, rfl⟩ ⟨Nat.le_of_ble_eq_true rfl, Nat.le_of_ble_eq_true rfl⟩ ⟨Nat.le_of_ble_eq_true rfl, Nat.le_of_ble_eq_true rfl⟩ dX11_under_23) hS (fun H locs hb_p6 hP hS => ?_)
      refine lv_if_ne (tgt := 65) hx hb dX11_under_26 (by decide) (fun c => ?_) (fun c => ?_)
      · have h := (if_neg c).symm.trans h
        refine lv_iconst (v := 0) hx hb dX11_under_65 (by decide) ?_
        exact gw_ri X hP hS h dX11_under_66
      · have h := (if_pos c).symm.trans h
        refine lv_aload_n hx hb dX11_under_29 rfl (lv_at hl 0 rfl) ?_
        refine lv_iload_n hx hb dX11_under_30 rfl (lv_at hl 1 rfl) ?_
        refine lv_iload_n hx hb dX11_under_31 rfl (lv_at hl 2 rfl) ?_
        refine lv_icmp_eq (tgt := 57) hx hb dX11_under_32 (by decide) (fun c => ?_) (fun c => ?_)
        · have h := (if_pos c).symm.trans h
          refine lv_iconst (v := 0) hx hb dX11_under_57 (by decide) ?_
          refine lv_iconst (v := 2) hx hb dX11_under_58 (by decide) ?_
          obtain ⟨p7, gp7, h⟩ := Option.bind_eq_some_iff.mp h
          refine gw_cz (gw_rV (C := RX11) X hP hS (gc_X11_no l G (0 : Int32) (2 : Int32) p6.2 _ gp7) gk_X11_no gv_1209 ⟨gv_1211, gv_s22⟩ (va_recv hT.2.1 hP (ci := 13) (q0 := 33) rfl rfl) rfl rfl (Nat.le_of_ble_eq_true rfl) hl.1 ⟨rfl, rfl⟩ ⟨Nat.le_of_ble_eq_true rfl, Nat.le_of_ble_eq_true rfl⟩ ⟨Nat.le_of_ble_eq_true rfl, Nat.le_of_ble_eq_true rfl⟩ dX11_under_59) hS (fun H locs hb_p7 hP hS => ?_)
          refine lv_if_eq (tgt := 67) hx hb dX11_under_62 (by decide) (fun c => ?_) (fun c => ?_)
          · have h := (if_pos c).symm.trans h
            refine lv_iconst (v := 0) hx hb dX11_under_67 (by decide) ?_
            refine lv_istore_n (lv' := [(3, .int (0 : Int32)), (0, .ref (G.2.1 33)), (1, .int a0), (2, .int a1)]) hx hb dX11_under_68 rfl hl (by decide) rfl (fun ls hl => ?_)
            refine lv_iconst (v := 0) hx hb dX11_under_69 (by decide) ?_
            refine lv_istore (lv' := [(4, .int (0 : Int32)), (3, .int (0 : Int32)), (0, .ref (G.2.1 33)), (1, .int a0), (2, .int a1)]) hx hb dX11_under_70 hl (by decide) rfl (fun ls hl => ?_)
            exact L72 64 a0 a1 (0 : Int32) (0 : Int32) p7.2 _ _ _ h hP hS (lv_sub hl [2, 3, 4, 1, 0] rfl)
          · have h := (if_neg c).symm.trans h
            refine lv_iconst (v := 0) hx hb dX11_under_65 (by decide) ?_
            exact gw_ri X hP hS h dX11_under_66
        · have h := (if_neg c).symm.trans h
          refine lv_aload_n hx hb dX11_under_35 rfl (lv_at hl 0 rfl) ?_
          refine lv_iload_n hx hb dX11_under_36 rfl (lv_at hl 1 rfl) ?_
          refine lv_iload_n hx hb dX11_under_37 rfl (lv_at hl 2 rfl) ?_
          exact absurd h (fun h => nomatch h)
    · have h := (if_neg c).symm.trans h
      refine lv_iconst (v := 1) hx hb dX11_under_17 (by decide) ?_
      refine lv_goto (tgt := 22) hx hb dX11_under_18 (by decide) ?_
      refine lv_iconst (v := 1) hx hb dX11_under_22 (by decide) ?_
      obtain ⟨p8, gp8, h⟩ := Option.bind_eq_some_iff.mp h
      refine gw_cz (gw_rV (C := RX11) X hP hS (gc_X11_no l G (1 : Int32) (1 : Int32) p5.2 _ gp8) gk_X11_no gv_1209 ⟨gv_1211, gv_s22⟩ (va_recv hT.2.1 hP (ci := 13) (q0 := 33) rfl rfl) rfl rfl (Nat.le_of_ble_eq_true rfl) hl.1 ⟨rfl, rfl⟩ ⟨Nat.le_of_ble_eq_true rfl, Nat.le_of_ble_eq_true rfl⟩ ⟨Nat.le_of_ble_eq_true rfl, Nat.le_of_ble_eq_true rfl⟩ dX11_under_23) hS (fun H locs hb_p8 hP hS => ?_)
      refine lv_if_ne (tgt := 65) hx hb dX11_under_26 (by decide) (fun c => ?_) (fun c => ?_)
      · have h := (if_neg c).symm.trans h
        refine lv_iconst (v := 0) hx hb dX11_under_65 (by decide) ?_
        exact gw_ri X hP hS h dX11_under_66
      · have h := (if_pos c).symm.trans h
        refine lv_aload_n hx hb dX11_under_29 rfl (lv_at hl 0 rfl) ?_
        refine lv_iload_n hx hb dX11_under_30 rfl (lv_at hl 1 rfl) ?_
        refine lv_iload_n hx hb dX11_under_31 rfl (lv_at hl 2 rfl) ?_
        refine lv_icmp_eq (tgt := 57) hx hb dX11_under_32 (by decide) (fun c => ?_) (fun c => ?_)
        · have h := (if_pos c).symm.trans h
          refine lv_iconst (v := 0) hx hb dX11_under_57 (by decide) ?_
          refine lv_iconst (v := 2) hx hb dX11_under_58 (by decide) ?_
          obtain ⟨p9, gp9, h⟩ := Option.bind_eq_some_iff.mp h
          refine gw_cz (gw_rV (C := RX11) X hP hS (gc_X11_no l G (0 : Int32) (2 : Int32) p8.2 _ gp9) gk_X11_no gv_1209 ⟨gv_1211, gv_s22⟩ (va_recv hT.2.1 hP (ci := 13) (q0 := 33) rfl rfl) rfl rfl (Nat.le_of_ble_eq_true rfl) hl.1 ⟨rfl, rfl⟩ ⟨Nat.le_of_ble_eq_true rfl, Nat.le_of_ble_eq_true rfl⟩ ⟨Nat.le_of_ble_eq_true rfl, Nat.le_of_ble_eq_true rfl⟩ dX11_under_59) hS (fun H locs hb_p9 hP hS => ?_)
          refine lv_if_eq (tgt := 67) hx hb dX11_under_62 (by decide) (fun c => ?_) (fun c => ?_)
          · have h := (if_pos c).symm.trans h
            refine lv_iconst (v := 0) hx hb dX11_under_67 (by decide) ?_
            refine lv_istore_n (lv' := [(3, .int (0 : Int32)), (0, .ref (G.2.1 33)), (1, .int a0), (2, .int a1)]) hx hb dX11_under_68 rfl hl (by decide) rfl (fun ls hl => ?_)
            refine lv_iconst (v := 0) hx hb dX11_under_69 (by decide) ?_
            refine lv_istore (lv' := [(4, .int (0 : Int32)), (3, .int (0 : Int32)), (0, .ref (G.2.1 33)), (1, .int a0), (2, .int a1)]) hx hb dX11_under_70 hl (by decide) rfl (fun ls hl => ?_)
            exact L72 64 a0 a1 (0 : Int32) (0 : Int32) p9.2 _ _ _ h hP hS (lv_sub hl [2, 3, 4, 1, 0] rfl)
          · have h := (if_neg c).symm.trans h
            refine lv_iconst (v := 0) hx hb dX11_under_65 (by decide) ?_
            exact gw_ri X hP hS h dX11_under_66
        · have h := (if_neg c).symm.trans h
          refine lv_aload_n hx hb dX11_under_35 rfl (lv_at hl 0 rfl) ?_
          refine lv_iload_n hx hb dX11_under_36 rfl (lv_at hl 1 rfl) ?_
          refine lv_iload_n hx hb dX11_under_37 rfl (lv_at hl 2 rfl) ?_
          exact absurd h (fun h => nomatch h)
def f_X11_isBelow (a0 : Int32) (a1 : Int32) (σ : gw_S) : Option (Int32 × gw_S) := ((f_X11_isCondition a0 σ).bind fun p1 => (if p1.1 = 0 then ((f_X11_no (0 : Int32) (1 : Int32) p1.2).bind fun p2 => (if p2.1 = 0 then none else (some ((0 : Int32), p2.2)))) else ((f_X11_isCondition a1 p1.2).bind fun p3 => (if p3.1 = 0 then ((f_X11_no (0 : Int32) (1 : Int32) p3.2).bind fun p4 => (if p4.1 = 0 then none else (some ((0 : Int32), p4.2)))) else ((f_X11_no (1 : Int32) (1 : Int32) p3.2).bind fun p5 => (if p5.1 = 0 then none else (some ((0 : Int32), p5.2))))))))
set_option maxHeartbeats 4000000 in
set_option maxRecDepth 100000 in
theorem gc_X11_isBelow (l : Launch) (G : gw_G) (a0 : Int32) (a1 : Int32) (σ : gw_S) (o : (Int32 × gw_S)) (h : f_X11_isBelow a0 a1 σ = some o) : gw_M (fun sz => gw_QZ G sz o) l yX11_isBelow cX11_isBelow 3 (some .boolean) { frames := 2, cells := 0, slots := 0, locals := 43 } G [.ref (G.2.1 33), .int a0, .int a1] σ := by
  refine gw_en (own := RX11) (lv := [(0, .ref (G.2.1 33)), (1, .int a0), (2, .int a1)]) (by decide +kernel) rfl (Nat.le_of_ble_eq_true rfl) rfl ?_
  intro p e s m below meth c ls X hl hP
  obtain ⟨hx, hb, hml, hown, hts, -, -, hT, hZ, -⟩ := id X
  have hS : va_S (gw_A G s.heap.size) s.heap s.heap [] := va_S.rf
  unfold f_X11_isBelow at h
  refine lv_aload_n hx hb dX11_isBelow_0 rfl (lv_at hl 0 rfl) ?_
  refine lv_aload_n hx hb dX11_isBelow_1 rfl (lv_at hl 0 rfl) ?_
  refine lv_iload_n hx hb dX11_isBelow_2 rfl (lv_at hl 1 rfl) ?_
  obtain ⟨p1, gp1, h⟩ := Option.bind_eq_some_iff.mp h
  refine gw_cz (gw_rV (C := RX11) X hP hS (gc_X11_isCondition l G a0 σ _ gp1) gk_X11_isCondition gv_1306 ⟨gv_1308, gv_s26⟩ (va_recv hT.2.1 hP (ci := 13) (q0 := 33) rfl rfl) rfl rfl (Nat.le_of_ble_eq_true rfl) hl.1 ⟨rfl, rfl⟩ ⟨Nat.le_of_ble_eq_true rfl, Nat.le_of_ble_eq_true rfl⟩ ⟨Nat.le_of_ble_eq_true rfl, Nat.le_of_ble_eq_true rfl⟩ dX11_isBelow_3) hS (fun H locs hb_p1 hP hS => ?_)
  refine lv_if_eq (tgt := 21) hx hb dX11_isBelow_6 (by decide) (fun c => ?_) (fun c => ?_)
  · have h := (if_pos c).symm.trans h
    refine lv_iconst (v := 0) hx hb dX11_isBelow_21 (by decide) ?_
    refine lv_iconst (v := 1) hx hb dX11_isBelow_22 (by decide) ?_
    obtain ⟨p2, gp2, h⟩ := Option.bind_eq_some_iff.mp h
    refine gw_cz (gw_rV (C := RX11) X hP hS (gc_X11_no l G (0 : Int32) (1 : Int32) p1.2 _ gp2) gk_X11_no gv_1209 ⟨gv_1211, gv_s22⟩ (va_recv hT.2.1 hP (ci := 13) (q0 := 33) rfl rfl) rfl rfl (Nat.le_of_ble_eq_true rfl) hl.1 ⟨rfl, rfl⟩ ⟨Nat.le_of_ble_eq_true rfl, Nat.le_of_ble_eq_true rfl⟩ ⟨Nat.le_of_ble_eq_true rfl, Nat.le_of_ble_eq_true rfl⟩ dX11_isBelow_23) hS (fun H locs hb_p2 hP hS => ?_)
    refine lv_if_ne (tgt := 42) hx hb dX11_isBelow_26 (by decide) (fun c => ?_) (fun c => ?_)
    · have h := (if_neg c).symm.trans h
      refine lv_iconst (v := 0) hx hb dX11_isBelow_42 (by decide) ?_
      exact gw_rz X hP hS rfl h dX11_isBelow_43
    · have h := (if_pos c).symm.trans h
      refine lv_aload_n hx hb dX11_isBelow_29 rfl (lv_at hl 0 rfl) ?_
      refine lv_iload_n hx hb dX11_isBelow_30 rfl (lv_at hl 1 rfl) ?_
      refine lv_iload_n hx hb dX11_isBelow_31 rfl (lv_at hl 2 rfl) ?_
      exact absurd h (fun h => nomatch h)
  · have h := (if_neg c).symm.trans h
    refine lv_aload_n hx hb dX11_isBelow_9 rfl (lv_at hl 0 rfl) ?_
    refine lv_iload_n hx hb dX11_isBelow_10 rfl (lv_at hl 2 rfl) ?_
    obtain ⟨p3, gp3, h⟩ := Option.bind_eq_some_iff.mp h
    refine gw_cz (gw_rV (C := RX11) X hP hS (gc_X11_isCondition l G a1 p1.2 _ gp3) gk_X11_isCondition gv_1306 ⟨gv_1308, gv_s26⟩ (va_recv hT.2.1 hP (ci := 13) (q0 := 33) rfl rfl) rfl rfl (Nat.le_of_ble_eq_true rfl) hl.1 ⟨rfl, rfl⟩ ⟨Nat.le_of_ble_eq_true rfl, Nat.le_of_ble_eq_true rfl⟩ ⟨Nat.le_of_ble_eq_true rfl, Nat.le_of_ble_eq_true rfl⟩ dX11_isBelow_11) hS (fun H locs hb_p3 hP hS => ?_)
    refine lv_if_eq (tgt := 21) hx hb dX11_isBelow_14 (by decide) (fun c => ?_) (fun c => ?_)
    · have h := (if_pos c).symm.trans h
      refine lv_iconst (v := 0) hx hb dX11_isBelow_21 (by decide) ?_
      refine lv_iconst (v := 1) hx hb dX11_isBelow_22 (by decide) ?_
      obtain ⟨p4, gp4, h⟩ := Option.bind_eq_some_iff.mp h
      refine gw_cz (gw_rV (C := RX11) X hP hS (gc_X11_no l G (0 : Int32) (1 : Int32) p3.2 _ gp4) gk_X11_no gv_1209 ⟨gv_1211, gv_s22⟩ (va_recv hT.2.1 hP (ci := 13) (q0 := 33) rfl rfl) rfl rfl (Nat.le_of_ble_eq_true rfl) hl.1 ⟨rfl, rfl⟩ ⟨Nat.le_of_ble_eq_true rfl, Nat.le_of_ble_eq_true rfl⟩ ⟨Nat.le_of_ble_eq_true rfl, Nat.le_of_ble_eq_true rfl⟩ dX11_isBelow_23) hS (fun H locs hb_p4 hP hS => ?_)
      refine lv_if_ne (tgt := 42) hx hb dX11_isBelow_26 (by decide) (fun c => ?_) (fun c => ?_)
      · have h := (if_neg c).symm.trans h
        refine lv_iconst (v := 0) hx hb dX11_isBelow_42 (by decide) ?_
        exact gw_rz X hP hS rfl h dX11_isBelow_43
      · have h := (if_pos c).symm.trans h
        refine lv_aload_n hx hb dX11_isBelow_29 rfl (lv_at hl 0 rfl) ?_
        refine lv_iload_n hx hb dX11_isBelow_30 rfl (lv_at hl 1 rfl) ?_
        refine lv_iload_n hx hb dX11_isBelow_31 rfl (lv_at hl 2 rfl) ?_
        exact absurd h (fun h => nomatch h)
    · have h := (if_neg c).symm.trans h
      refine lv_iconst (v := 1) hx hb dX11_isBelow_17 (by decide) ?_
      refine lv_goto (tgt := 22) hx hb dX11_isBelow_18 (by decide) ?_
      refine lv_iconst (v := 1) hx hb dX11_isBelow_22 (by decide) ?_
      obtain ⟨p5, gp5, h⟩ := Option.bind_eq_some_iff.mp h
      refine gw_cz (gw_rV (C := RX11) X hP hS (gc_X11_no l G (1 : Int32) (1 : Int32) p3.2 _ gp5) gk_X11_no gv_1209 ⟨gv_1211, gv_s22⟩ (va_recv hT.2.1 hP (ci := 13) (q0 := 33) rfl rfl) rfl rfl (Nat.le_of_ble_eq_true rfl) hl.1 ⟨rfl, rfl⟩ ⟨Nat.le_of_ble_eq_true rfl, Nat.le_of_ble_eq_true rfl⟩ ⟨Nat.le_of_ble_eq_true rfl, Nat.le_of_ble_eq_true rfl⟩ dX11_isBelow_23) hS (fun H locs hb_p5 hP hS => ?_)
      refine lv_if_ne (tgt := 42) hx hb dX11_isBelow_26 (by decide) (fun c => ?_) (fun c => ?_)
      · have h := (if_neg c).symm.trans h
        refine lv_iconst (v := 0) hx hb dX11_isBelow_42 (by decide) ?_
        exact gw_rz X hP hS rfl h dX11_isBelow_43
      · have h := (if_pos c).symm.trans h
        refine lv_aload_n hx hb dX11_isBelow_29 rfl (lv_at hl 0 rfl) ?_
        refine lv_iload_n hx hb dX11_isBelow_30 rfl (lv_at hl 1 rfl) ?_
        refine lv_iload_n hx hb dX11_isBelow_31 rfl (lv_at hl 2 rfl) ?_
        exact absurd h (fun h => nomatch h)
def f_X11_fit (a0 : Int32) (a1 : Int32) (σ : gw_S) : Option (Int32 × gw_S) := ((f_X11_isCondition a0 σ).bind fun p1 => (if p1.1 = 0 then ((f_X11_no (0 : Int32) (1 : Int32) p1.2).bind fun p2 => (if p2.1 = 0 then none else (some ((0 : Int32), p2.2)))) else ((f_X11_isCondition a1 p1.2).bind fun p3 => (if p3.1 = 0 then ((f_X11_no (0 : Int32) (1 : Int32) p3.2).bind fun p4 => (if p4.1 = 0 then none else (some ((0 : Int32), p4.2)))) else ((f_X11_no (1 : Int32) (1 : Int32) p3.2).bind fun p5 => (if p5.1 = 0 then none else (some ((0 : Int32), p5.2))))))))
set_option maxHeartbeats 4000000 in
set_option maxRecDepth 100000 in
theorem gc_X11_fit (l : Launch) (G : gw_G) (a0 : Int32) (a1 : Int32) (σ : gw_S) (o : (Int32 × gw_S)) (h : f_X11_fit a0 a1 σ = some o) : gw_M (fun sz => gw_QZ G sz o) l yX11_fit cX11_fit 3 (some .boolean) { frames := 2, cells := 0, slots := 0, locals := 43 } G [.ref (G.2.1 33), .int a0, .int a1] σ := by
  refine gw_en (own := RX11) (lv := [(0, .ref (G.2.1 33)), (1, .int a0), (2, .int a1)]) (by decide +kernel) rfl (Nat.le_of_ble_eq_true rfl) rfl ?_
  intro p e s m below meth c ls X hl hP
  obtain ⟨hx, hb, hml, hown, hts, -, -, hT, hZ, -⟩ := id X
  have hS : va_S (gw_A G s.heap.size) s.heap s.heap [] := va_S.rf
  unfold f_X11_fit at h
  refine lv_aload_n hx hb dX11_fit_0 rfl (lv_at hl 0 rfl) ?_
  refine lv_aload_n hx hb dX11_fit_1 rfl (lv_at hl 0 rfl) ?_
  refine lv_iload_n hx hb dX11_fit_2 rfl (lv_at hl 1 rfl) ?_
  obtain ⟨p1, gp1, h⟩ := Option.bind_eq_some_iff.mp h
  refine gw_cz (gw_rV (C := RX11) X hP hS (gc_X11_isCondition l G a0 σ _ gp1) gk_X11_isCondition gv_1306 ⟨gv_1308, gv_s26⟩ (va_recv hT.2.1 hP (ci := 13) (q0 := 33) rfl rfl) rfl rfl (Nat.le_of_ble_eq_true rfl) hl.1 ⟨rfl, rfl⟩ ⟨Nat.le_of_ble_eq_true rfl, Nat.le_of_ble_eq_true rfl⟩ ⟨Nat.le_of_ble_eq_true rfl, Nat.le_of_ble_eq_true rfl⟩ dX11_fit_3) hS (fun H locs hb_p1 hP hS => ?_)
  refine lv_if_eq (tgt := 21) hx hb dX11_fit_6 (by decide) (fun c => ?_) (fun c => ?_)
  · have h := (if_pos c).symm.trans h
    refine lv_iconst (v := 0) hx hb dX11_fit_21 (by decide) ?_
    refine lv_iconst (v := 1) hx hb dX11_fit_22 (by decide) ?_
    obtain ⟨p2, gp2, h⟩ := Option.bind_eq_some_iff.mp h
    refine gw_cz (gw_rV (C := RX11) X hP hS (gc_X11_no l G (0 : Int32) (1 : Int32) p1.2 _ gp2) gk_X11_no gv_1209 ⟨gv_1211, gv_s22⟩ (va_recv hT.2.1 hP (ci := 13) (q0 := 33) rfl rfl) rfl rfl (Nat.le_of_ble_eq_true rfl) hl.1 ⟨rfl, rfl⟩ ⟨Nat.le_of_ble_eq_true rfl, Nat.le_of_ble_eq_true rfl⟩ ⟨Nat.le_of_ble_eq_true rfl, Nat.le_of_ble_eq_true rfl⟩ dX11_fit_23) hS (fun H locs hb_p2 hP hS => ?_)
    refine lv_if_ne (tgt := 42) hx hb dX11_fit_26 (by decide) (fun c => ?_) (fun c => ?_)
    · have h := (if_neg c).symm.trans h
      refine lv_iconst (v := 0) hx hb dX11_fit_42 (by decide) ?_
      exact gw_rz X hP hS rfl h dX11_fit_43
    · have h := (if_pos c).symm.trans h
      refine lv_aload_n hx hb dX11_fit_29 rfl (lv_at hl 0 rfl) ?_
      refine lv_iload_n hx hb dX11_fit_30 rfl (lv_at hl 1 rfl) ?_
      refine lv_iload_n hx hb dX11_fit_31 rfl (lv_at hl 2 rfl) ?_
      exact absurd h (fun h => nomatch h)
  · have h := (if_neg c).symm.trans h
    refine lv_aload_n hx hb dX11_fit_9 rfl (lv_at hl 0 rfl) ?_
    refine lv_iload_n hx hb dX11_fit_10 rfl (lv_at hl 2 rfl) ?_
    obtain ⟨p3, gp3, h⟩ := Option.bind_eq_some_iff.mp h
    refine gw_cz (gw_rV (C := RX11) X hP hS (gc_X11_isCondition l G a1 p1.2 _ gp3) gk_X11_isCondition gv_1306 ⟨gv_1308, gv_s26⟩ (va_recv hT.2.1 hP (ci := 13) (q0 := 33) rfl rfl) rfl rfl (Nat.le_of_ble_eq_true rfl) hl.1 ⟨rfl, rfl⟩ ⟨Nat.le_of_ble_eq_true rfl, Nat.le_of_ble_eq_true rfl⟩ ⟨Nat.le_of_ble_eq_true rfl, Nat.le_of_ble_eq_true rfl⟩ dX11_fit_11) hS (fun H locs hb_p3 hP hS => ?_)
    refine lv_if_eq (tgt := 21) hx hb dX11_fit_14 (by decide) (fun c => ?_) (fun c => ?_)
    · have h := (if_pos c).symm.trans h
      refine lv_iconst (v := 0) hx hb dX11_fit_21 (by decide) ?_
      refine lv_iconst (v := 1) hx hb dX11_fit_22 (by decide) ?_
      obtain ⟨p4, gp4, h⟩ := Option.bind_eq_some_iff.mp h
      refine gw_cz (gw_rV (C := RX11) X hP hS (gc_X11_no l G (0 : Int32) (1 : Int32) p3.2 _ gp4) gk_X11_no gv_1209 ⟨gv_1211, gv_s22⟩ (va_recv hT.2.1 hP (ci := 13) (q0 := 33) rfl rfl) rfl rfl (Nat.le_of_ble_eq_true rfl) hl.1 ⟨rfl, rfl⟩ ⟨Nat.le_of_ble_eq_true rfl, Nat.le_of_ble_eq_true rfl⟩ ⟨Nat.le_of_ble_eq_true rfl, Nat.le_of_ble_eq_true rfl⟩ dX11_fit_23) hS (fun H locs hb_p4 hP hS => ?_)
      refine lv_if_ne (tgt := 42) hx hb dX11_fit_26 (by decide) (fun c => ?_) (fun c => ?_)
      · have h := (if_neg c).symm.trans h
        refine lv_iconst (v := 0) hx hb dX11_fit_42 (by decide) ?_
        exact gw_rz X hP hS rfl h dX11_fit_43
      · have h := (if_pos c).symm.trans h
        refine lv_aload_n hx hb dX11_fit_29 rfl (lv_at hl 0 rfl) ?_
        refine lv_iload_n hx hb dX11_fit_30 rfl (lv_at hl 1 rfl) ?_
        refine lv_iload_n hx hb dX11_fit_31 rfl (lv_at hl 2 rfl) ?_
        exact absurd h (fun h => nomatch h)
    · have h := (if_neg c).symm.trans h
      refine lv_iconst (v := 1) hx hb dX11_fit_17 (by decide) ?_
      refine lv_goto (tgt := 22) hx hb dX11_fit_18 (by decide) ?_
      refine lv_iconst (v := 1) hx hb dX11_fit_22 (by decide) ?_
      obtain ⟨p5, gp5, h⟩ := Option.bind_eq_some_iff.mp h
      refine gw_cz (gw_rV (C := RX11) X hP hS (gc_X11_no l G (1 : Int32) (1 : Int32) p3.2 _ gp5) gk_X11_no gv_1209 ⟨gv_1211, gv_s22⟩ (va_recv hT.2.1 hP (ci := 13) (q0 := 33) rfl rfl) rfl rfl (Nat.le_of_ble_eq_true rfl) hl.1 ⟨rfl, rfl⟩ ⟨Nat.le_of_ble_eq_true rfl, Nat.le_of_ble_eq_true rfl⟩ ⟨Nat.le_of_ble_eq_true rfl, Nat.le_of_ble_eq_true rfl⟩ dX11_fit_23) hS (fun H locs hb_p5 hP hS => ?_)
      refine lv_if_ne (tgt := 42) hx hb dX11_fit_26 (by decide) (fun c => ?_) (fun c => ?_)
      · have h := (if_neg c).symm.trans h
        refine lv_iconst (v := 0) hx hb dX11_fit_42 (by decide) ?_
        exact gw_rz X hP hS rfl h dX11_fit_43
      · have h := (if_pos c).symm.trans h
        refine lv_aload_n hx hb dX11_fit_29 rfl (lv_at hl 0 rfl) ?_
        refine lv_iload_n hx hb dX11_fit_30 rfl (lv_at hl 1 rfl) ?_
        refine lv_iload_n hx hb dX11_fit_31 rfl (lv_at hl 2 rfl) ?_
        exact absurd h (fun h => nomatch h)
def f_X11_isAntichain (a0 : Int32) (σ : gw_S) : Option (Int32 × gw_S) := ((f_X11_isSet a0 σ).bind fun p1 => ((f_X11_no p1.1 (1 : Int32) p1.2).bind fun p2 => (if p2.1 = 0 then ((f_X11_apart a0 p2.2).bind fun p3 => (if p3.1 = 0 then (some ((0 : Int32), p3.2)) else (some ((1 : Int32), p3.2)))) else (some ((0 : Int32), p2.2)))))
set_option maxHeartbeats 4000000 in
set_option maxRecDepth 100000 in
theorem gc_X11_isAntichain (l : Launch) (G : gw_G) (a0 : Int32) (σ : gw_S) (o : (Int32 × gw_S)) (h : f_X11_isAntichain a0 σ = some o) : gw_M (fun sz => gw_QZ G sz o) l yX11_isAntichain cX11_isAntichain 2 (some .boolean) { frames := 2, cells := 0, slots := 0, locals := 45 } G [.ref (G.2.1 33), .int a0] σ := by
  refine gw_en (own := RX11) (lv := [(0, .ref (G.2.1 33)), (1, .int a0)]) (by decide +kernel) rfl (Nat.le_of_ble_eq_true rfl) rfl ?_
  intro p e s m below meth c ls X hl hP
  obtain ⟨hx, hb, hml, hown, hts, -, -, hT, hZ, -⟩ := id X
  have hS : va_S (gw_A G s.heap.size) s.heap s.heap [] := va_S.rf
  unfold f_X11_isAntichain at h
  refine lv_aload_n hx hb dX11_isAntichain_0 rfl (lv_at hl 0 rfl) ?_
  refine lv_aload_n hx hb dX11_isAntichain_1 rfl (lv_at hl 0 rfl) ?_
  refine lv_iload_n hx hb dX11_isAntichain_2 rfl (lv_at hl 1 rfl) ?_
  obtain ⟨p1, gp1, h⟩ := Option.bind_eq_some_iff.mp h
  refine gw_cz (gw_rV (C := RX11) X hP hS (gc_X11_isSet l G a0 σ _ gp1) gk_X11_isSet gv_1440 ⟨gv_1442, gv_s30⟩ (va_recv hT.2.1 hP (ci := 13) (q0 := 33) rfl rfl) rfl rfl (Nat.le_of_ble_eq_true rfl) hl.1 ⟨rfl, rfl⟩ ⟨Nat.le_of_ble_eq_true rfl, Nat.le_of_ble_eq_true rfl⟩ ⟨Nat.le_of_ble_eq_true rfl, Nat.le_of_ble_eq_true rfl⟩ dX11_isAntichain_3) hS (fun H locs hb_p1 hP hS => ?_)
  refine lv_iconst (v := 1) hx hb dX11_isAntichain_6 (by decide) ?_
  obtain ⟨p2, gp2, h⟩ := Option.bind_eq_some_iff.mp h
  refine gw_cz (gw_rV (C := RX11) X hP hS (gc_X11_no l G p1.1 (1 : Int32) p1.2 _ gp2) gk_X11_no gv_1209 ⟨gv_1211, gv_s22⟩ (va_recv hT.2.1 hP (ci := 13) (q0 := 33) rfl rfl) rfl rfl (Nat.le_of_ble_eq_true rfl) hl.1 ⟨rfl, rfl⟩ ⟨Nat.le_of_ble_eq_true rfl, Nat.le_of_ble_eq_true rfl⟩ ⟨Nat.le_of_ble_eq_true rfl, Nat.le_of_ble_eq_true rfl⟩ dX11_isAntichain_7) hS (fun H locs hb_p2 hP hS => ?_)
  refine lv_if_ne (tgt := 25) hx hb dX11_isAntichain_10 (by decide) (fun c => ?_) (fun c => ?_)
  · have h := (if_neg c).symm.trans h
    refine lv_iconst (v := 0) hx hb dX11_isAntichain_25 (by decide) ?_
    exact gw_rz X hP hS rfl h dX11_isAntichain_26
  · have h := (if_pos c).symm.trans h
    refine lv_aload_n hx hb dX11_isAntichain_13 rfl (lv_at hl 0 rfl) ?_
    refine lv_iload_n hx hb dX11_isAntichain_14 rfl (lv_at hl 1 rfl) ?_
    obtain ⟨p3, gp3, h⟩ := Option.bind_eq_some_iff.mp h
    refine gw_cz (gw_rV (C := RX11) X hP hS (gc_X11_apart l G a0 p2.2 _ gp3) gk_X11_apart gv_1444 ⟨gv_1446, gv_s31⟩ (va_recv hT.2.1 hP (ci := 13) (q0 := 33) rfl rfl) rfl rfl (Nat.le_of_ble_eq_true rfl) hl.1 ⟨rfl, rfl⟩ ⟨Nat.le_of_ble_eq_true rfl, Nat.le_of_ble_eq_true rfl⟩ ⟨Nat.le_of_ble_eq_true rfl, Nat.le_of_ble_eq_true rfl⟩ dX11_isAntichain_15) hS (fun H locs hb_p3 hP hS => ?_)
    refine lv_if_eq (tgt := 25) hx hb dX11_isAntichain_18 (by decide) (fun c => ?_) (fun c => ?_)
    · have h := (if_pos c).symm.trans h
      refine lv_iconst (v := 0) hx hb dX11_isAntichain_25 (by decide) ?_
      exact gw_rz X hP hS rfl h dX11_isAntichain_26
    · have h := (if_neg c).symm.trans h
      refine lv_iconst (v := 1) hx hb dX11_isAntichain_21 (by decide) ?_
      refine lv_goto (tgt := 26) hx hb dX11_isAntichain_22 (by decide) ?_
      exact gw_rz X hP hS rfl h dX11_isAntichain_26
def f_X11_widest_L4 : Nat → Int32 → Int32 → gw_S → Option (Int32 × gw_S)
  | 0, _, _, _ => none
  | n + 1, v4_1, v4_2, σ => ((f_Jx4a65c_size_8abf5_34 σ).bind fun p1 => (if ((1 : Int32) <<< (p1.1 &&& 31)) ≤ v4_2 then (some (v4_1, p1.2)) else ((f_X11_apart v4_2 p1.2).bind fun p2 => (if p2.1 = 0 then (f_X11_widest_L4 n v4_1 (v4_2 + (1 : Int32)) p2.2) else ((f_J6_bitCount_0f7a4 v4_2 p2.2).bind fun p3 => (f_X11_widest_L4 n (if v4_1 < p3.1 then p3.1 else v4_1) (v4_2 + (1 : Int32)) p3.2))))))
def f_X11_widest (σ : gw_S) : Option (Int32 × gw_S) := (f_X11_widest_L4 64 (0 : Int32) (0 : Int32) σ)
set_option maxHeartbeats 4000000 in
set_option maxRecDepth 100000 in
theorem gc_X11_widest (l : Launch) (G : gw_G) (σ : gw_S) (o : (Int32 × gw_S)) (h : f_X11_widest σ = some o) : gw_M (fun sz => gw_QI G sz o) l yX11_widest cX11_widest 3 (some .int) { frames := 2, cells := 0, slots := 0, locals := 45 } G [.ref (G.2.1 33)] σ := by
  refine gw_en (own := RX11) (lv := [(0, .ref (G.2.1 33))]) (by decide +kernel) rfl (Nat.le_of_ble_eq_true rfl) rfl ?_
  intro p e s m below meth c ls X hl hP
  obtain ⟨hx, hb, hml, hown, hts, -, -, hT, hZ, -⟩ := id X
  have hS : va_S (gw_A G s.heap.size) s.heap s.heap [] := va_S.rf
  have L4 : ∀ (n : Nat) (v4_1 : Int32) (v4_2 : Int32) (σ : gw_S) (H : Heap) (locs : List Loc) (ls : Array Slot), f_X11_widest_L4 n v4_1 v4_2 σ = some o → gw_P G σ H → va_S (gw_A G s.heap.size) s.heap H locs → lv_has ls 3 [(0, .ref (G.2.1 33)), (1, .int v4_1), (2, .int v4_2)] → W p l e { frames := 2, cells := 0, slots := 0, locals := 45 } s m [.ref (G.2.1 33)].toArray below meth c H locs 0 0 (MQ below (gw_QI G s.heap.size o) [.ref (G.2.1 33)].toArray s 0 0 (gw_A G s.heap.size)) (F0 m 4 ls []) := by
    intro n
    induction n with
    | zero =>
      intro v4_1 v4_2 σ H locs ls h
      exact absurd h (by rw [f_X11_widest_L4.eq_1]; exact fun h => nomatch h)
    | succ n ih =>
      intro v4_1 v4_2 σ H locs ls h hP hS hl
      rw [f_X11_widest_L4.eq_2] at h
      refine lv_iload_n hx hb dX11_widest_4 rfl (lv_at hl 2 rfl) ?_
      refine lv_iconst (v := 1) hx hb dX11_widest_5 (by decide) ?_
      refine lv_aload_n hx hb dX11_widest_6 rfl (lv_at hl 0 rfl) ?_
      refine va_get (D := G.1) (ci := 13) (v := .ref (G.2.1 34)) (C := RX11) (T := TX11) (N := 5) hx hb hts gx_X11 hown hT.2.1 hP 33 rfl rfl 0 (by decide) (hts _ gv_1175) (fun _ h9 => h9) rfl dX11_widest_7 ?_
      obtain ⟨p1, gp1, h⟩ := Option.bind_eq_some_iff.mp h
      refine gw_fi (gw_rF (x := ⟨"java/util/List", "size", "()I"⟩) (C := RJx4a65c) X (hT.2.1.1 2 _ rfl).2 hP hS (gc_Jx4a65c_size_8abf5_34 l G σ _ gp1) gk_Jx4a65c_size_8abf5 ⟨by decide +kernel, by decide +kernel⟩ gv_1200 ⟨gv_1204, gv_1206⟩ 0 rfl (va_recv hT.2.1 hP (ci := 2) (q0 := 34) rfl rfl) rfl rfl (Nat.le_of_ble_eq_true rfl) hl.1 ⟨rfl, rfl⟩ ⟨Nat.le_of_ble_eq_true rfl, Nat.le_of_ble_eq_true rfl⟩ ⟨Nat.le_of_ble_eq_true rfl, Nat.le_of_ble_eq_true rfl⟩ dX11_widest_10) hS (fun H locs hP hS => ?_)
      refine lv_ishl hx hb dX11_widest_15 ?_
      refine lv_icmp_ge (tgt := 46) hx hb dX11_widest_16 (by decide) (fun c => ?_) (fun c => ?_)
      · have h := (if_pos c).symm.trans h
        refine lv_iload_n hx hb dX11_widest_46 rfl (lv_at hl 1 rfl) ?_
        exact gw_ri X hP hS h dX11_widest_47
      · have h := (if_neg c).symm.trans h
        refine lv_aload_n hx hb dX11_widest_19 rfl (lv_at hl 0 rfl) ?_
        refine lv_iload_n hx hb dX11_widest_20 rfl (lv_at hl 2 rfl) ?_
        obtain ⟨p2, gp2, h⟩ := Option.bind_eq_some_iff.mp h
        refine gw_cz (gw_rV (C := RX11) X hP hS (gc_X11_apart l G v4_2 p1.2 _ gp2) gk_X11_apart gv_1444 ⟨gv_1446, gv_s31⟩ (va_recv hT.2.1 hP (ci := 13) (q0 := 33) rfl rfl) rfl rfl (Nat.le_of_ble_eq_true rfl) hl.1 ⟨rfl, rfl⟩ ⟨Nat.le_of_ble_eq_true rfl, Nat.le_of_ble_eq_true rfl⟩ ⟨Nat.le_of_ble_eq_true rfl, Nat.le_of_ble_eq_true rfl⟩ dX11_widest_21) hS (fun H locs hb_p2 hP hS => ?_)
        refine lv_if_eq (tgt := 38) hx hb dX11_widest_24 (by decide) (fun c => ?_) (fun c => ?_)
        · have h := (if_pos c).symm.trans h
          refine lv_iload_n hx hb dX11_widest_38 rfl (lv_at hl 1 rfl) ?_
          refine lv_istore_n (lv' := [(1, .int v4_1), (0, .ref (G.2.1 33)), (2, .int v4_2)]) hx hb dX11_widest_39 rfl hl (by decide) rfl (fun ls hl => ?_)
          refine lv_iinc (v := (v4_2 + (1 : Int32))) (lv' := [(2, .int (v4_2 + (1 : Int32))), (1, .int v4_1), (0, .ref (G.2.1 33))]) hx hb dX11_widest_40 hl (k := 2) rfl rfl (by decide) rfl (fun ls hl => ?_)
          refine lv_goto (tgt := 4) hx hb dX11_widest_43 (by decide) ?_
          exact ih v4_1 (v4_2 + (1 : Int32)) p2.2 _ _ _ h hP hS (lv_sub hl [2, 1, 0] rfl)
        · have h := (if_neg c).symm.trans h
          refine lv_iload_n hx hb dX11_widest_27 rfl (lv_at hl 1 rfl) ?_
          refine lv_iload_n hx hb dX11_widest_28 rfl (lv_at hl 2 rfl) ?_
          obtain ⟨p3, gp3, h⟩ := Option.bind_eq_some_iff.mp h
          refine gw_ci (gw_rS X hP hS (gc_J6_bitCount_0f7a4 l G v4_2 p2.2 _ gp3) gk_J6_bitCount_0f7a4 gv_1415 gv_249 rfl rfl (Nat.le_of_ble_eq_true rfl) hl.1 ⟨rfl, rfl⟩ ⟨Nat.le_of_ble_eq_true rfl, Nat.le_of_ble_eq_true rfl⟩ ⟨Nat.le_of_ble_eq_true rfl, Nat.le_of_ble_eq_true rfl⟩ dX11_widest_29) hS (fun H locs hP hS => ?_)
          refine va_mmax hx hb (hml.trans hl.1.symm) hown (hts _ gv_1452) (hts _ gx_mm1) (hts _ gx_mm2) (hts _ gx_mm3) (Nat.le_of_ble_eq_true rfl) (Nat.le_of_ble_eq_true rfl) (Nat.le_of_ble_eq_true rfl) (Nat.le_of_ble_eq_true rfl) dX11_widest_32 ?_
          refine lv_goto (tgt := 39) hx hb dX11_widest_35 (by decide) ?_
          refine lv_istore_n (lv' := [(1, .int (if v4_1 < p3.1 then p3.1 else v4_1)), (0, .ref (G.2.1 33)), (2, .int v4_2)]) hx hb dX11_widest_39 rfl hl (by decide) rfl (fun ls hl => ?_)
          refine lv_iinc (v := (v4_2 + (1 : Int32))) (lv' := [(2, .int (v4_2 + (1 : Int32))), (1, .int (if v4_1 < p3.1 then p3.1 else v4_1)), (0, .ref (G.2.1 33))]) hx hb dX11_widest_40 hl (k := 2) rfl rfl (by decide) rfl (fun ls hl => ?_)
          refine lv_goto (tgt := 4) hx hb dX11_widest_43 (by decide) ?_
          exact ih (if v4_1 < p3.1 then p3.1 else v4_1) (v4_2 + (1 : Int32)) p3.2 _ _ _ h hP hS (lv_sub hl [2, 1, 0] rfl)
  unfold f_X11_widest at h
  refine lv_iconst (v := 0) hx hb dX11_widest_0 (by decide) ?_
  refine lv_istore_n (lv' := [(1, .int (0 : Int32)), (0, .ref (G.2.1 33))]) hx hb dX11_widest_1 rfl hl (by decide) rfl (fun ls hl => ?_)
  refine lv_iconst (v := 0) hx hb dX11_widest_2 (by decide) ?_
  refine lv_istore_n (lv' := [(2, .int (0 : Int32)), (1, .int (0 : Int32)), (0, .ref (G.2.1 33))]) hx hb dX11_widest_3 rfl hl (by decide) rfl (fun ls hl => ?_)
  exact L4 64 (0 : Int32) (0 : Int32) σ _ _ _ h hP hS (lv_sub hl [2, 1, 0] rfl)
def f_X11_filters_L28 : Nat → (Int32 → Int32 → Int32 → gw_S → Option (Int32 × gw_S)) → Int32 → Int32 → Int32 → Int32 → gw_S → Option (Int32 × gw_S)
  | 0, _, _, _, _, _, _ => none
  | n + 1, K, v28_1, v28_2, v28_3, v28_4, σ => ((f_Jx4a65c_size_8abf5_34 σ).bind fun p2 => (if p2.1 ≤ v28_4 then (K v28_1 v28_2 v28_3 p2.2) else ((f_X11_has v28_1 v28_3 p2.2).bind fun p3 => (if p3.1 = 0 then ((f_X11_has v28_1 v28_3 p3.2).bind fun p4 => (if p4.1 = 0 then (f_X11_filters_L28 n K v28_1 ((v28_2 &&& (1 : Int32)) &&& (1 : Int32)) v28_3 (v28_4 + (1 : Int32)) p4.2) else ((f_X11_has v28_1 v28_4 p4.2).bind fun p5 => (if p5.1 = 0 then (f_X11_filters_L28 n K v28_1 ((v28_2 &&& (1 : Int32)) &&& (1 : Int32)) v28_3 (v28_4 + (1 : Int32)) p5.2) else none)))) else none))))
def f_X11_filters_L12 : Nat → Int32 → Int32 → Int32 → gw_S → Option (Int32 × gw_S)
  | 0, _, _, _, _ => none
  | n + 1, v12_1, v12_2, v12_3, σ => ((f_Jx4a65c_size_8abf5_34 σ).bind fun p1 => (if p1.1 ≤ v12_3 then (some (v12_2, p1.2)) else (f_X11_filters_L28 64 (fun w28_1 w28_2 w28_3 σ28 => (f_X11_filters_L12 n w28_1 w28_2 (w28_3 + (1 : Int32)) σ28)) v12_1 v12_2 v12_3 (0 : Int32) p1.2)))
def f_X11_filters (a0 : Int32) (σ : gw_S) : Option (Int32 × gw_S) := (if a0 = 0 then (f_X11_filters_L12 64 a0 (0 : Int32) (0 : Int32) σ) else (f_X11_filters_L12 64 a0 (1 : Int32) (0 : Int32) σ))
set_option maxHeartbeats 4000000 in
set_option maxRecDepth 100000 in
theorem gc_X11_filters (l : Launch) (G : gw_G) (a0 : Int32) (σ : gw_S) (o : (Int32 × gw_S)) (h : f_X11_filters a0 σ = some o) : gw_M (fun sz => gw_QZ G sz o) l yX11_filters cX11_filters 5 (some .boolean) { frames := 1, cells := 0, slots := 0, locals := 21 } G [.ref (G.2.1 33), .int a0] σ := by
  refine gw_en (own := RX11) (lv := [(0, .ref (G.2.1 33)), (1, .int a0)]) (by decide +kernel) rfl (Nat.le_of_ble_eq_true rfl) rfl ?_
  intro p e s m below meth c ls X hl hP
  obtain ⟨hx, hb, hml, hown, hts, -, -, hT, hZ, -⟩ := id X
  have hS : va_S (gw_A G s.heap.size) s.heap s.heap [] := va_S.rf
  have L28 : ∀ (n : Nat) (K : Int32 → Int32 → Int32 → gw_S → Option (Int32 × gw_S)) (v28_1 : Int32) (v28_2 : Int32) (v28_3 : Int32) (v28_4 : Int32) (σ : gw_S) (H : Heap) (locs : List Loc) (ls : Array Slot), f_X11_filters_L28 n K v28_1 v28_2 v28_3 v28_4 σ = some o → gw_P G σ H → va_S (gw_A G s.heap.size) s.heap H locs → lv_has ls 5 [(0, .ref (G.2.1 33)), (1, .int v28_1), (2, .int v28_2), (3, .int v28_3), (4, .int v28_4)] → gw_b v28_2 → (∀ (w1 : Int32) (w2 : Int32) (w3 : Int32) (σ : gw_S) (H : Heap) (locs : List Loc) (ls : Array Slot), K w1 w2 w3 σ = some o → gw_P G σ H → va_S (gw_A G s.heap.size) s.heap H locs → lv_has ls 5 [(0, .ref (G.2.1 33)), (1, .int w1), (2, .int w2), (3, .int w3)] → gw_b w2 → W p l e { frames := 1, cells := 0, slots := 0, locals := 21 } s m [.ref (G.2.1 33), .int a0].toArray below meth c H locs 0 0 (MQ below (gw_QZ G s.heap.size o) [.ref (G.2.1 33), .int a0].toArray s 0 0 (gw_A G s.heap.size)) (F0 m 147 ls [])) → W p l e { frames := 1, cells := 0, slots := 0, locals := 21 } s m [.ref (G.2.1 33), .int a0].toArray below meth c H locs 0 0 (MQ below (gw_QZ G s.heap.size o) [.ref (G.2.1 33), .int a0].toArray s 0 0 (gw_A G s.heap.size)) (F0 m 28 ls []) := by
    intro n K
    induction n with
    | zero =>
      intro v28_1 v28_2 v28_3 v28_4 σ H locs ls h
      exact absurd h (by rw [f_X11_filters_L28.eq_1]; exact fun h => nomatch h)
    | succ n ih =>
      intro v28_1 v28_2 v28_3 v28_4 σ H locs ls h hP hS hl hb_v28_2 hK
      rw [f_X11_filters_L28.eq_2] at h
      refine lv_iload hx hb dX11_filters_28 (lv_at hl 4 rfl) ?_
      refine lv_aload_n hx hb dX11_filters_30 rfl (lv_at hl 0 rfl) ?_
      refine va_get (D := G.1) (ci := 13) (v := .ref (G.2.1 34)) (C := RX11) (T := TX11) (N := 5) hx hb hts gx_X11 hown hT.2.1 hP 33 rfl rfl 0 (by decide) (hts _ gv_1175) (fun _ h9 => h9) rfl dX11_filters_31 ?_
      obtain ⟨p2, gp2, h⟩ := Option.bind_eq_some_iff.mp h
      refine gw_fi (gw_rF (x := ⟨"java/util/List", "size", "()I"⟩) (C := RJx4a65c) X (hT.2.1.1 2 _ rfl).2 hP hS (gc_Jx4a65c_size_8abf5_34 l G σ _ gp2) gk_Jx4a65c_size_8abf5 ⟨by decide +kernel, by decide +kernel⟩ gv_1200 ⟨gv_1204, gv_1206⟩ 0 rfl (va_recv hT.2.1 hP (ci := 2) (q0 := 34) rfl rfl) rfl rfl (Nat.le_of_ble_eq_true rfl) hl.1 ⟨rfl, rfl⟩ ⟨Nat.le_of_ble_eq_true rfl, Nat.le_of_ble_eq_true rfl⟩ ⟨Nat.le_of_ble_eq_true rfl, Nat.le_of_ble_eq_true rfl⟩ dX11_filters_34) hS (fun H locs hP hS => ?_)
      refine lv_icmp_ge (tgt := 147) hx hb dX11_filters_39 (by decide) (fun c => ?_) (fun c => ?_)
      · have h := (if_pos c).symm.trans h
        exact hK v28_1 v28_2 v28_3 p2.2 _ _ _ h hP hS (lv_sub hl [0, 1, 2, 3] rfl) hb_v28_2
      · have h := (if_neg c).symm.trans h
        refine lv_iload_n hx hb dX11_filters_42 rfl (lv_at hl 2 rfl) ?_
        refine lv_iload_n hx hb dX11_filters_43 rfl (lv_at hl 1 rfl) ?_
        refine lv_iload_n hx hb dX11_filters_44 rfl (lv_at hl 3 rfl) ?_
        obtain ⟨p3, gp3, h⟩ := Option.bind_eq_some_iff.mp h
        refine gw_cz (gw_rS X hP hS (gc_X11_has l G v28_1 v28_3 p2.2 _ gp3) gk_X11_has gv_1341 gv_1342 rfl rfl (Nat.le_of_ble_eq_true rfl) hl.1 ⟨rfl, rfl⟩ ⟨Nat.le_of_ble_eq_true rfl, Nat.le_of_ble_eq_true rfl⟩ ⟨Nat.le_of_ble_eq_true rfl, Nat.le_of_ble_eq_true rfl⟩ dX11_filters_45) hS (fun H locs hb_p3 hP hS => ?_)
        refine lv_if_eq (tgt := 70) hx hb dX11_filters_48 (by decide) (fun c => ?_) (fun c => ?_)
        · have h := (if_pos c).symm.trans h
          refine lv_iconst (v := 1) hx hb dX11_filters_70 (by decide) ?_
          refine lv_goto (tgt := 75) hx hb dX11_filters_71 (by decide) ?_
          refine lv_iand hx hb dX11_filters_75 ?_
          refine lv_istore_n (lv' := [(2, .int (v28_2 &&& (1 : Int32))), (0, .ref (G.2.1 33)), (1, .int v28_1), (3, .int v28_3), (4, .int v28_4)]) hx hb dX11_filters_76 rfl hl (by decide) rfl (fun ls hl => ?_)
          refine lv_iload_n hx hb dX11_filters_77 rfl (lv_at hl 0 rfl) ?_
          refine lv_iload_n hx hb dX11_filters_78 rfl (lv_at hl 2 rfl) ?_
          refine lv_iload_n hx hb dX11_filters_79 rfl (lv_at hl 3 rfl) ?_
          obtain ⟨p4, gp4, h⟩ := Option.bind_eq_some_iff.mp h
          refine gw_cz (gw_rS X hP hS (gc_X11_has l G v28_1 v28_3 p3.2 _ gp4) gk_X11_has gv_1341 gv_1342 rfl rfl (Nat.le_of_ble_eq_true rfl) hl.1 ⟨rfl, rfl⟩ ⟨Nat.le_of_ble_eq_true rfl, Nat.le_of_ble_eq_true rfl⟩ ⟨Nat.le_of_ble_eq_true rfl, Nat.le_of_ble_eq_true rfl⟩ dX11_filters_80) hS (fun H locs hb_p4 hP hS => ?_)
          refine lv_if_eq (tgt := 134) hx hb dX11_filters_83 (by decide) (fun c => ?_) (fun c => ?_)
          · have h := (if_pos c).symm.trans h
            refine lv_iconst (v := 1) hx hb dX11_filters_134 (by decide) ?_
            refine lv_goto (tgt := 139) hx hb dX11_filters_135 (by decide) ?_
            refine lv_iand hx hb dX11_filters_139 ?_
            refine lv_istore_n (lv' := [(2, .int ((v28_2 &&& (1 : Int32)) &&& (1 : Int32))), (0, .ref (G.2.1 33)), (1, .int v28_1), (3, .int v28_3), (4, .int v28_4)]) hx hb dX11_filters_140 rfl hl (by decide) rfl (fun ls hl => ?_)
            refine lv_iinc (v := (v28_4 + (1 : Int32))) (lv' := [(4, .int (v28_4 + (1 : Int32))), (2, .int ((v28_2 &&& (1 : Int32)) &&& (1 : Int32))), (0, .ref (G.2.1 33)), (1, .int v28_1), (3, .int v28_3)]) hx hb dX11_filters_141 hl (k := 4) rfl rfl (by decide) rfl (fun ls hl => ?_)
            refine lv_goto (tgt := 28) hx hb dX11_filters_144 (by decide) ?_
            exact ih v28_1 ((v28_2 &&& (1 : Int32)) &&& (1 : Int32)) v28_3 (v28_4 + (1 : Int32)) p4.2 _ _ _ h hP hS (lv_sub hl [2, 3, 1, 4, 0] rfl) (gw_band (gw_band hb_v28_2 rfl) rfl) hK
          · have h := (if_neg c).symm.trans h
            refine lv_iload_n hx hb dX11_filters_86 rfl (lv_at hl 2 rfl) ?_
            refine lv_iload hx hb dX11_filters_87 (lv_at hl 4 rfl) ?_
            obtain ⟨p5, gp5, h⟩ := Option.bind_eq_some_iff.mp h
            refine gw_cz (gw_rS X hP hS (gc_X11_has l G v28_1 v28_4 p4.2 _ gp5) gk_X11_has gv_1341 gv_1342 rfl rfl (Nat.le_of_ble_eq_true rfl) hl.1 ⟨rfl, rfl⟩ ⟨Nat.le_of_ble_eq_true rfl, Nat.le_of_ble_eq_true rfl⟩ ⟨Nat.le_of_ble_eq_true rfl, Nat.le_of_ble_eq_true rfl⟩ dX11_filters_89) hS (fun H locs hb_p5 hP hS => ?_)
            refine lv_if_eq (tgt := 134) hx hb dX11_filters_92 (by decide) (fun c => ?_) (fun c => ?_)
            · have h := (if_pos c).symm.trans h
              refine lv_iconst (v := 1) hx hb dX11_filters_134 (by decide) ?_
              refine lv_goto (tgt := 139) hx hb dX11_filters_135 (by decide) ?_
              refine lv_iand hx hb dX11_filters_139 ?_
              refine lv_istore_n (lv' := [(2, .int ((v28_2 &&& (1 : Int32)) &&& (1 : Int32))), (0, .ref (G.2.1 33)), (1, .int v28_1), (3, .int v28_3), (4, .int v28_4)]) hx hb dX11_filters_140 rfl hl (by decide) rfl (fun ls hl => ?_)
              refine lv_iinc (v := (v28_4 + (1 : Int32))) (lv' := [(4, .int (v28_4 + (1 : Int32))), (2, .int ((v28_2 &&& (1 : Int32)) &&& (1 : Int32))), (0, .ref (G.2.1 33)), (1, .int v28_1), (3, .int v28_3)]) hx hb dX11_filters_141 hl (k := 4) rfl rfl (by decide) rfl (fun ls hl => ?_)
              refine lv_goto (tgt := 28) hx hb dX11_filters_144 (by decide) ?_
              exact ih v28_1 ((v28_2 &&& (1 : Int32)) &&& (1 : Int32)) v28_3 (v28_4 + (1 : Int32)) p5.2 _ _ _ h hP hS (lv_sub hl [2, 3, 1, 4, 0] rfl) (gw_band (gw_band hb_v28_2 rfl) rfl) hK
            · have h := (if_neg c).symm.trans h
              refine lv_aload_n hx hb dX11_filters_95 rfl (lv_at hl 1 rfl) ?_
              refine va_get (D := G.1) (ci := 13) (v := .ref (G.2.1 34)) (C := RX11) (T := TX11) (N := 5) hx hb hts gx_X11 hown hT.2.1 hP 33 rfl rfl 0 (by decide) (hts _ gv_1175) (fun _ h9 => h9) rfl dX11_filters_96 ?_
              refine lv_iload_n hx hb dX11_filters_99 rfl (lv_at hl 3 rfl) ?_
              exact absurd h (fun h => nomatch h)
        · have h := (if_neg c).symm.trans h
          refine lv_aload_n hx hb dX11_filters_51 rfl (lv_at hl 0 rfl) ?_
          refine lv_iload_n hx hb dX11_filters_52 rfl (lv_at hl 3 rfl) ?_
          refine lv_iload hx hb dX11_filters_53 (lv_at hl 4 rfl) ?_
          exact absurd h (fun h => nomatch h)
  have L12 : ∀ (n : Nat) (v12_1 : Int32) (v12_2 : Int32) (v12_3 : Int32) (σ : gw_S) (H : Heap) (locs : List Loc) (ls : Array Slot), f_X11_filters_L12 n v12_1 v12_2 v12_3 σ = some o → gw_P G σ H → va_S (gw_A G s.heap.size) s.heap H locs → lv_has ls 5 [(0, .ref (G.2.1 33)), (1, .int v12_1), (2, .int v12_2), (3, .int v12_3)] → gw_b v12_2 → W p l e { frames := 1, cells := 0, slots := 0, locals := 21 } s m [.ref (G.2.1 33), .int a0].toArray below meth c H locs 0 0 (MQ below (gw_QZ G s.heap.size o) [.ref (G.2.1 33), .int a0].toArray s 0 0 (gw_A G s.heap.size)) (F0 m 12 ls []) := by
    intro n
    induction n with
    | zero =>
      intro v12_1 v12_2 v12_3 σ H locs ls h
      exact absurd h (by rw [f_X11_filters_L12.eq_1]; exact fun h => nomatch h)
    | succ n ih =>
      intro v12_1 v12_2 v12_3 σ H locs ls h hP hS hl hb_v12_2
      rw [f_X11_filters_L12.eq_2] at h
      refine lv_iload_n hx hb dX11_filters_12 rfl (lv_at hl 3 rfl) ?_
      refine lv_aload_n hx hb dX11_filters_13 rfl (lv_at hl 0 rfl) ?_
      refine va_get (D := G.1) (ci := 13) (v := .ref (G.2.1 34)) (C := RX11) (T := TX11) (N := 5) hx hb hts gx_X11 hown hT.2.1 hP 33 rfl rfl 0 (by decide) (hts _ gv_1175) (fun _ h9 => h9) rfl dX11_filters_14 ?_
      obtain ⟨p1, gp1, h⟩ := Option.bind_eq_some_iff.mp h
      refine gw_fi (gw_rF (x := ⟨"java/util/List", "size", "()I"⟩) (C := RJx4a65c) X (hT.2.1.1 2 _ rfl).2 hP hS (gc_Jx4a65c_size_8abf5_34 l G σ _ gp1) gk_Jx4a65c_size_8abf5 ⟨by decide +kernel, by decide +kernel⟩ gv_1200 ⟨gv_1204, gv_1206⟩ 0 rfl (va_recv hT.2.1 hP (ci := 2) (q0 := 34) rfl rfl) rfl rfl (Nat.le_of_ble_eq_true rfl) hl.1 ⟨rfl, rfl⟩ ⟨Nat.le_of_ble_eq_true rfl, Nat.le_of_ble_eq_true rfl⟩ ⟨Nat.le_of_ble_eq_true rfl, Nat.le_of_ble_eq_true rfl⟩ dX11_filters_17) hS (fun H locs hP hS => ?_)
      refine lv_icmp_ge (tgt := 153) hx hb dX11_filters_22 (by decide) (fun c => ?_) (fun c => ?_)
      · have h := (if_pos c).symm.trans h
        refine lv_iload_n hx hb dX11_filters_153 rfl (lv_at hl 2 rfl) ?_
        exact gw_rz X hP hS hb_v12_2 h dX11_filters_154
      · have h := (if_neg c).symm.trans h
        refine lv_iconst (v := 0) hx hb dX11_filters_25 (by decide) ?_
        refine lv_istore (lv' := [(4, .int (0 : Int32)), (0, .ref (G.2.1 33)), (1, .int v12_1), (2, .int v12_2), (3, .int v12_3)]) hx hb dX11_filters_26 hl (by decide) rfl (fun ls hl => ?_)
        refine L28 64 _ v12_1 v12_2 v12_3 (0 : Int32) p1.2 _ _ _ h hP hS (lv_sub hl [1, 2, 3, 4, 0] rfl) hb_v12_2 (fun w28_1 w28_2 w28_3 σ28 H locs ls h hP hS hl hb_w28_2 => ?_)
        refine lv_iinc (v := (w28_3 + (1 : Int32))) (lv' := [(3, .int (w28_3 + (1 : Int32))), (0, .ref (G.2.1 33)), (1, .int w28_1), (2, .int w28_2)]) hx hb dX11_filters_147 hl (k := 3) rfl rfl (by decide) rfl (fun ls hl => ?_)
        refine lv_goto (tgt := 12) hx hb dX11_filters_150 (by decide) ?_
        exact ih w28_1 w28_2 (w28_3 + (1 : Int32)) σ28 _ _ _ h hP hS (lv_sub hl [1, 2, 3, 0] rfl) hb_w28_2
  unfold f_X11_filters at h
  refine lv_iload_n hx hb dX11_filters_0 rfl (lv_at hl 1 rfl) ?_
  refine lv_if_eq (tgt := 8) hx hb dX11_filters_1 (by decide) (fun c => ?_) (fun c => ?_)
  · have h := (if_pos c).symm.trans h
    refine lv_iconst (v := 0) hx hb dX11_filters_8 (by decide) ?_
    refine lv_istore_n (lv' := [(2, .int (0 : Int32)), (0, .ref (G.2.1 33)), (1, .int a0)]) hx hb dX11_filters_9 rfl hl (by decide) rfl (fun ls hl => ?_)
    refine lv_iconst (v := 0) hx hb dX11_filters_10 (by decide) ?_
    refine lv_istore_n (lv' := [(3, .int (0 : Int32)), (2, .int (0 : Int32)), (0, .ref (G.2.1 33)), (1, .int a0)]) hx hb dX11_filters_11 rfl hl (by decide) rfl (fun ls hl => ?_)
    exact L12 64 a0 (0 : Int32) (0 : Int32) σ _ _ _ h hP hS (lv_sub hl [2, 3, 1, 0] rfl) rfl
  · have h := (if_neg c).symm.trans h
    refine lv_iconst (v := 1) hx hb dX11_filters_4 (by decide) ?_
    refine lv_goto (tgt := 9) hx hb dX11_filters_5 (by decide) ?_
    refine lv_istore_n (lv' := [(2, .int (1 : Int32)), (0, .ref (G.2.1 33)), (1, .int a0)]) hx hb dX11_filters_9 rfl hl (by decide) rfl (fun ls hl => ?_)
    refine lv_iconst (v := 0) hx hb dX11_filters_10 (by decide) ?_
    refine lv_istore_n (lv' := [(3, .int (0 : Int32)), (2, .int (1 : Int32)), (0, .ref (G.2.1 33)), (1, .int a0)]) hx hb dX11_filters_11 rfl hl (by decide) rfl (fun ls hl => ?_)
    exact L12 64 a0 (1 : Int32) (0 : Int32) σ _ _ _ h hP hS (lv_sub hl [2, 3, 1, 0] rfl) rfl
def f_X11_isFilter (a0 : Int32) (σ : gw_S) : Option (Int32 × gw_S) := ((f_X11_isSet a0 σ).bind fun p1 => ((f_X11_no p1.1 (1 : Int32) p1.2).bind fun p2 => (if p2.1 = 0 then ((f_X11_filters a0 p2.2).bind fun p3 => (if p3.1 = 0 then (some ((0 : Int32), p3.2)) else (some ((1 : Int32), p3.2)))) else (some ((0 : Int32), p2.2)))))
set_option maxHeartbeats 4000000 in
set_option maxRecDepth 100000 in
theorem gc_X11_isFilter (l : Launch) (G : gw_G) (a0 : Int32) (σ : gw_S) (o : (Int32 × gw_S)) (h : f_X11_isFilter a0 σ = some o) : gw_M (fun sz => gw_QZ G sz o) l yX11_isFilter cX11_isFilter 2 (some .boolean) { frames := 2, cells := 0, slots := 0, locals := 45 } G [.ref (G.2.1 33), .int a0] σ := by
  refine gw_en (own := RX11) (lv := [(0, .ref (G.2.1 33)), (1, .int a0)]) (by decide +kernel) rfl (Nat.le_of_ble_eq_true rfl) rfl ?_
  intro p e s m below meth c ls X hl hP
  obtain ⟨hx, hb, hml, hown, hts, -, -, hT, hZ, -⟩ := id X
  have hS : va_S (gw_A G s.heap.size) s.heap s.heap [] := va_S.rf
  unfold f_X11_isFilter at h
  refine lv_aload_n hx hb dX11_isFilter_0 rfl (lv_at hl 0 rfl) ?_
  refine lv_aload_n hx hb dX11_isFilter_1 rfl (lv_at hl 0 rfl) ?_
  refine lv_iload_n hx hb dX11_isFilter_2 rfl (lv_at hl 1 rfl) ?_
  obtain ⟨p1, gp1, h⟩ := Option.bind_eq_some_iff.mp h
  refine gw_cz (gw_rV (C := RX11) X hP hS (gc_X11_isSet l G a0 σ _ gp1) gk_X11_isSet gv_1440 ⟨gv_1442, gv_s30⟩ (va_recv hT.2.1 hP (ci := 13) (q0 := 33) rfl rfl) rfl rfl (Nat.le_of_ble_eq_true rfl) hl.1 ⟨rfl, rfl⟩ ⟨Nat.le_of_ble_eq_true rfl, Nat.le_of_ble_eq_true rfl⟩ ⟨Nat.le_of_ble_eq_true rfl, Nat.le_of_ble_eq_true rfl⟩ dX11_isFilter_3) hS (fun H locs hb_p1 hP hS => ?_)
  refine lv_iconst (v := 1) hx hb dX11_isFilter_6 (by decide) ?_
  obtain ⟨p2, gp2, h⟩ := Option.bind_eq_some_iff.mp h
  refine gw_cz (gw_rV (C := RX11) X hP hS (gc_X11_no l G p1.1 (1 : Int32) p1.2 _ gp2) gk_X11_no gv_1209 ⟨gv_1211, gv_s22⟩ (va_recv hT.2.1 hP (ci := 13) (q0 := 33) rfl rfl) rfl rfl (Nat.le_of_ble_eq_true rfl) hl.1 ⟨rfl, rfl⟩ ⟨Nat.le_of_ble_eq_true rfl, Nat.le_of_ble_eq_true rfl⟩ ⟨Nat.le_of_ble_eq_true rfl, Nat.le_of_ble_eq_true rfl⟩ dX11_isFilter_7) hS (fun H locs hb_p2 hP hS => ?_)
  refine lv_if_ne (tgt := 25) hx hb dX11_isFilter_10 (by decide) (fun c => ?_) (fun c => ?_)
  · have h := (if_neg c).symm.trans h
    refine lv_iconst (v := 0) hx hb dX11_isFilter_25 (by decide) ?_
    exact gw_rz X hP hS rfl h dX11_isFilter_26
  · have h := (if_pos c).symm.trans h
    refine lv_aload_n hx hb dX11_isFilter_13 rfl (lv_at hl 0 rfl) ?_
    refine lv_iload_n hx hb dX11_isFilter_14 rfl (lv_at hl 1 rfl) ?_
    obtain ⟨p3, gp3, h⟩ := Option.bind_eq_some_iff.mp h
    refine gw_cz (gw_rV (C := RX11) X hP hS (gc_X11_filters l G a0 p2.2 _ gp3) gk_X11_filters gv_1461 ⟨gv_1463, gv_s32⟩ (va_recv hT.2.1 hP (ci := 13) (q0 := 33) rfl rfl) rfl rfl (Nat.le_of_ble_eq_true rfl) hl.1 ⟨rfl, rfl⟩ ⟨Nat.le_of_ble_eq_true rfl, Nat.le_of_ble_eq_true rfl⟩ ⟨Nat.le_of_ble_eq_true rfl, Nat.le_of_ble_eq_true rfl⟩ dX11_isFilter_15) hS (fun H locs hb_p3 hP hS => ?_)
    refine lv_if_eq (tgt := 25) hx hb dX11_isFilter_18 (by decide) (fun c => ?_) (fun c => ?_)
    · have h := (if_pos c).symm.trans h
      refine lv_iconst (v := 0) hx hb dX11_isFilter_25 (by decide) ?_
      exact gw_rz X hP hS rfl h dX11_isFilter_26
    · have h := (if_neg c).symm.trans h
      refine lv_iconst (v := 1) hx hb dX11_isFilter_21 (by decide) ?_
      refine lv_goto (tgt := 26) hx hb dX11_isFilter_22 (by decide) ?_
      exact gw_rz X hP hS rfl h dX11_isFilter_26
def f_X11_filters__L4 : Nat → Int32 → Int32 → gw_S → Option (Int32 × gw_S)
  | 0, _, _, _ => none
  | n + 1, v4_1, v4_2, σ => ((f_Jx4a65c_size_8abf5_34 σ).bind fun p1 => (if ((1 : Int32) <<< (p1.1 &&& 31)) ≤ v4_2 then (some (v4_1, p1.2)) else ((f_X11_filters v4_2 p1.2).bind fun p2 => (if p2.1 = 0 then (f_X11_filters__L4 n (v4_1 + (0 : Int32)) (v4_2 + (1 : Int32)) p2.2) else (f_X11_filters__L4 n (v4_1 + (1 : Int32)) (v4_2 + (1 : Int32)) p2.2)))))
def f_X11_filters_ (σ : gw_S) : Option (Int32 × gw_S) := (f_X11_filters__L4 64 (0 : Int32) (1 : Int32) σ)
set_option maxHeartbeats 4000000 in
set_option maxRecDepth 100000 in
theorem gc_X11_filters_ (l : Launch) (G : gw_G) (σ : gw_S) (o : (Int32 × gw_S)) (h : f_X11_filters_ σ = some o) : gw_M (fun sz => gw_QI G sz o) l yX11_filters_ cX11_filters_ 3 (some .int) { frames := 2, cells := 0, slots := 0, locals := 45 } G [.ref (G.2.1 33)] σ := by
  refine gw_en (own := RX11) (lv := [(0, .ref (G.2.1 33))]) (by decide +kernel) rfl (Nat.le_of_ble_eq_true rfl) rfl ?_
  intro p e s m below meth c ls X hl hP
  obtain ⟨hx, hb, hml, hown, hts, -, -, hT, hZ, -⟩ := id X
  have hS : va_S (gw_A G s.heap.size) s.heap s.heap [] := va_S.rf
  have L4 : ∀ (n : Nat) (v4_1 : Int32) (v4_2 : Int32) (σ : gw_S) (H : Heap) (locs : List Loc) (ls : Array Slot), f_X11_filters__L4 n v4_1 v4_2 σ = some o → gw_P G σ H → va_S (gw_A G s.heap.size) s.heap H locs → lv_has ls 3 [(0, .ref (G.2.1 33)), (1, .int v4_1), (2, .int v4_2)] → W p l e { frames := 2, cells := 0, slots := 0, locals := 45 } s m [.ref (G.2.1 33)].toArray below meth c H locs 0 0 (MQ below (gw_QI G s.heap.size o) [.ref (G.2.1 33)].toArray s 0 0 (gw_A G s.heap.size)) (F0 m 4 ls []) := by
    intro n
    induction n with
    | zero =>
      intro v4_1 v4_2 σ H locs ls h
      exact absurd h (by rw [f_X11_filters__L4.eq_1]; exact fun h => nomatch h)
    | succ n ih =>
      intro v4_1 v4_2 σ H locs ls h hP hS hl
      rw [f_X11_filters__L4.eq_2] at h
      refine lv_iload_n hx hb dX11_filters__4 rfl (lv_at hl 2 rfl) ?_
      refine lv_iconst (v := 1) hx hb dX11_filters__5 (by decide) ?_
      refine lv_aload_n hx hb dX11_filters__6 rfl (lv_at hl 0 rfl) ?_
      refine va_get (D := G.1) (ci := 13) (v := .ref (G.2.1 34)) (C := RX11) (T := TX11) (N := 5) hx hb hts gx_X11 hown hT.2.1 hP 33 rfl rfl 0 (by decide) (hts _ gv_1175) (fun _ h9 => h9) rfl dX11_filters__7 ?_
      obtain ⟨p1, gp1, h⟩ := Option.bind_eq_some_iff.mp h
      refine gw_fi (gw_rF (x := ⟨"java/util/List", "size", "()I"⟩) (C := RJx4a65c) X (hT.2.1.1 2 _ rfl).2 hP hS (gc_Jx4a65c_size_8abf5_34 l G σ _ gp1) gk_Jx4a65c_size_8abf5 ⟨by decide +kernel, by decide +kernel⟩ gv_1200 ⟨gv_1204, gv_1206⟩ 0 rfl (va_recv hT.2.1 hP (ci := 2) (q0 := 34) rfl rfl) rfl rfl (Nat.le_of_ble_eq_true rfl) hl.1 ⟨rfl, rfl⟩ ⟨Nat.le_of_ble_eq_true rfl, Nat.le_of_ble_eq_true rfl⟩ ⟨Nat.le_of_ble_eq_true rfl, Nat.le_of_ble_eq_true rfl⟩ dX11_filters__10) hS (fun H locs hP hS => ?_)
      refine lv_ishl hx hb dX11_filters__15 ?_
      refine lv_icmp_ge (tgt := 41) hx hb dX11_filters__16 (by decide) (fun c => ?_) (fun c => ?_)
      · have h := (if_pos c).symm.trans h
        refine lv_iload_n hx hb dX11_filters__41 rfl (lv_at hl 1 rfl) ?_
        exact gw_ri X hP hS h dX11_filters__42
      · have h := (if_neg c).symm.trans h
        refine lv_iload_n hx hb dX11_filters__19 rfl (lv_at hl 1 rfl) ?_
        refine lv_aload_n hx hb dX11_filters__20 rfl (lv_at hl 0 rfl) ?_
        refine lv_iload_n hx hb dX11_filters__21 rfl (lv_at hl 2 rfl) ?_
        obtain ⟨p2, gp2, h⟩ := Option.bind_eq_some_iff.mp h
        refine gw_cz (gw_rV (C := RX11) X hP hS (gc_X11_filters l G v4_2 p1.2 _ gp2) gk_X11_filters gv_1461 ⟨gv_1463, gv_s32⟩ (va_recv hT.2.1 hP (ci := 13) (q0 := 33) rfl rfl) rfl rfl (Nat.le_of_ble_eq_true rfl) hl.1 ⟨rfl, rfl⟩ ⟨Nat.le_of_ble_eq_true rfl, Nat.le_of_ble_eq_true rfl⟩ ⟨Nat.le_of_ble_eq_true rfl, Nat.le_of_ble_eq_true rfl⟩ dX11_filters__22) hS (fun H locs hb_p2 hP hS => ?_)
        refine lv_if_eq (tgt := 32) hx hb dX11_filters__25 (by decide) (fun c => ?_) (fun c => ?_)
        · have h := (if_pos c).symm.trans h
          refine lv_iconst (v := 0) hx hb dX11_filters__32 (by decide) ?_
          refine lv_iadd hx hb dX11_filters__33 ?_
          refine lv_istore_n (lv' := [(1, .int (v4_1 + (0 : Int32))), (0, .ref (G.2.1 33)), (2, .int v4_2)]) hx hb dX11_filters__34 rfl hl (by decide) rfl (fun ls hl => ?_)
          refine lv_iinc (v := (v4_2 + (1 : Int32))) (lv' := [(2, .int (v4_2 + (1 : Int32))), (1, .int (v4_1 + (0 : Int32))), (0, .ref (G.2.1 33))]) hx hb dX11_filters__35 hl (k := 2) rfl rfl (by decide) rfl (fun ls hl => ?_)
          refine lv_goto (tgt := 4) hx hb dX11_filters__38 (by decide) ?_
          exact ih (v4_1 + (0 : Int32)) (v4_2 + (1 : Int32)) p2.2 _ _ _ h hP hS (lv_sub hl [2, 1, 0] rfl)
        · have h := (if_neg c).symm.trans h
          refine lv_iconst (v := 1) hx hb dX11_filters__28 (by decide) ?_
          refine lv_goto (tgt := 33) hx hb dX11_filters__29 (by decide) ?_
          refine lv_iadd hx hb dX11_filters__33 ?_
          refine lv_istore_n (lv' := [(1, .int (v4_1 + (1 : Int32))), (0, .ref (G.2.1 33)), (2, .int v4_2)]) hx hb dX11_filters__34 rfl hl (by decide) rfl (fun ls hl => ?_)
          refine lv_iinc (v := (v4_2 + (1 : Int32))) (lv' := [(2, .int (v4_2 + (1 : Int32))), (1, .int (v4_1 + (1 : Int32))), (0, .ref (G.2.1 33))]) hx hb dX11_filters__35 hl (k := 2) rfl rfl (by decide) rfl (fun ls hl => ?_)
          refine lv_goto (tgt := 4) hx hb dX11_filters__38 (by decide) ?_
          exact ih (v4_1 + (1 : Int32)) (v4_2 + (1 : Int32)) p2.2 _ _ _ h hP hS (lv_sub hl [2, 1, 0] rfl)
  unfold f_X11_filters_ at h
  refine lv_iconst (v := 0) hx hb dX11_filters__0 (by decide) ?_
  refine lv_istore_n (lv' := [(1, .int (0 : Int32)), (0, .ref (G.2.1 33))]) hx hb dX11_filters__1 rfl hl (by decide) rfl (fun ls hl => ?_)
  refine lv_iconst (v := 1) hx hb dX11_filters__2 (by decide) ?_
  refine lv_istore_n (lv' := [(2, .int (1 : Int32)), (1, .int (0 : Int32)), (0, .ref (G.2.1 33))]) hx hb dX11_filters__3 rfl hl (by decide) rfl (fun ls hl => ?_)
  exact L4 64 (0 : Int32) (1 : Int32) σ _ _ _ h hP hS (lv_sub hl [2, 1, 0] rfl)
def f_X11_isSeparative_L19 : Nat → (Int32 → Int32 → gw_S → Option (Int32 × gw_S)) → Int32 → Int32 → Int32 → gw_S → Option (Int32 × gw_S)
  | 0, _, _, _, _, _ => none
  | n + 1, K, v19_1, v19_2, v19_3, σ => ((f_Jx4a65c_size_8abf5_34 σ).bind fun p2 => (if p2.1 ≤ v19_3 then (K v19_1 v19_2 p2.2) else none))
def f_X11_isSeparative_L4 : Nat → Int32 → Int32 → gw_S → Option (Int32 × gw_S)
  | 0, _, _, _ => none
  | n + 1, v4_1, v4_2, σ => ((f_Jx4a65c_size_8abf5_34 σ).bind fun p1 => (if p1.1 ≤ v4_2 then (some (v4_1, p1.2)) else (f_X11_isSeparative_L19 64 (fun w19_1 w19_2 σ19 => (f_X11_isSeparative_L4 n w19_1 (w19_2 + (1 : Int32)) σ19)) v4_1 v4_2 (0 : Int32) p1.2)))
def f_X11_isSeparative (σ : gw_S) : Option (Int32 × gw_S) := (f_X11_isSeparative_L4 64 (1 : Int32) (0 : Int32) σ)
set_option maxHeartbeats 4000000 in
set_option maxRecDepth 100000 in
theorem gc_X11_isSeparative (l : Launch) (G : gw_G) (σ : gw_S) (o : (Int32 × gw_S)) (h : f_X11_isSeparative σ = some o) : gw_M (fun sz => gw_QZ G sz o) l yX11_isSeparative cX11_isSeparative 6 (some .boolean) { frames := 1, cells := 0, slots := 0, locals := 20 } G [.ref (G.2.1 33)] σ := by
  refine gw_en (own := RX11) (lv := [(0, .ref (G.2.1 33))]) (by decide +kernel) rfl (Nat.le_of_ble_eq_true rfl) rfl ?_
  intro p e s m below meth c ls X hl hP
  obtain ⟨hx, hb, hml, hown, hts, -, -, hT, hZ, -⟩ := id X
  have hS : va_S (gw_A G s.heap.size) s.heap s.heap [] := va_S.rf
  have L19 : ∀ (n : Nat) (K : Int32 → Int32 → gw_S → Option (Int32 × gw_S)) (v19_1 : Int32) (v19_2 : Int32) (v19_3 : Int32) (σ : gw_S) (H : Heap) (locs : List Loc) (ls : Array Slot), f_X11_isSeparative_L19 n K v19_1 v19_2 v19_3 σ = some o → gw_P G σ H → va_S (gw_A G s.heap.size) s.heap H locs → lv_has ls 6 [(0, .ref (G.2.1 33)), (1, .int v19_1), (2, .int v19_2), (3, .int v19_3)] → gw_b v19_1 → (∀ (w1 : Int32) (w2 : Int32) (σ : gw_S) (H : Heap) (locs : List Loc) (ls : Array Slot), K w1 w2 σ = some o → gw_P G σ H → va_S (gw_A G s.heap.size) s.heap H locs → lv_has ls 6 [(0, .ref (G.2.1 33)), (1, .int w1), (2, .int w2)] → gw_b w1 → W p l e { frames := 1, cells := 0, slots := 0, locals := 20 } s m [.ref (G.2.1 33)].toArray below meth c H locs 0 0 (MQ below (gw_QZ G s.heap.size o) [.ref (G.2.1 33)].toArray s 0 0 (gw_A G s.heap.size)) (F0 m 104 ls [])) → W p l e { frames := 1, cells := 0, slots := 0, locals := 20 } s m [.ref (G.2.1 33)].toArray below meth c H locs 0 0 (MQ below (gw_QZ G s.heap.size o) [.ref (G.2.1 33)].toArray s 0 0 (gw_A G s.heap.size)) (F0 m 19 ls []) := by
    intro n K
    induction n with
    | zero =>
      intro v19_1 v19_2 v19_3 σ H locs ls h
      exact absurd h (by rw [f_X11_isSeparative_L19.eq_1]; exact fun h => nomatch h)
    | succ n ih =>
      intro v19_1 v19_2 v19_3 σ H locs ls h hP hS hl hb_v19_1 hK
      rw [f_X11_isSeparative_L19.eq_2] at h
      refine lv_iload_n hx hb dX11_isSeparative_19 rfl (lv_at hl 3 rfl) ?_
      refine lv_aload_n hx hb dX11_isSeparative_20 rfl (lv_at hl 0 rfl) ?_
      refine va_get (D := G.1) (ci := 13) (v := .ref (G.2.1 34)) (C := RX11) (T := TX11) (N := 5) hx hb hts gx_X11 hown hT.2.1 hP 33 rfl rfl 0 (by decide) (hts _ gv_1175) (fun _ h9 => h9) rfl dX11_isSeparative_21 ?_
      obtain ⟨p2, gp2, h⟩ := Option.bind_eq_some_iff.mp h
      refine gw_fi (gw_rF (x := ⟨"java/util/List", "size", "()I"⟩) (C := RJx4a65c) X (hT.2.1.1 2 _ rfl).2 hP hS (gc_Jx4a65c_size_8abf5_34 l G σ _ gp2) gk_Jx4a65c_size_8abf5 ⟨by decide +kernel, by decide +kernel⟩ gv_1200 ⟨gv_1204, gv_1206⟩ 0 rfl (va_recv hT.2.1 hP (ci := 2) (q0 := 34) rfl rfl) rfl rfl (Nat.le_of_ble_eq_true rfl) hl.1 ⟨rfl, rfl⟩ ⟨Nat.le_of_ble_eq_true rfl, Nat.le_of_ble_eq_true rfl⟩ ⟨Nat.le_of_ble_eq_true rfl, Nat.le_of_ble_eq_true rfl⟩ dX11_isSeparative_24) hS (fun H locs hP hS => ?_)
      refine lv_icmp_ge (tgt := 104) hx hb dX11_isSeparative_29 (by decide) (fun c => ?_) (fun c => ?_)
      · have h := (if_pos c).symm.trans h
        exact hK v19_1 v19_2 p2.2 _ _ _ h hP hS (lv_sub hl [0, 1, 2] rfl) hb_v19_1
      · have h := (if_neg c).symm.trans h
        refine lv_aload_n hx hb dX11_isSeparative_32 rfl (lv_at hl 0 rfl) ?_
        refine lv_iload_n hx hb dX11_isSeparative_33 rfl (lv_at hl 2 rfl) ?_
        refine lv_iload_n hx hb dX11_isSeparative_34 rfl (lv_at hl 3 rfl) ?_
        exact absurd h (fun h => nomatch h)
  have L4 : ∀ (n : Nat) (v4_1 : Int32) (v4_2 : Int32) (σ : gw_S) (H : Heap) (locs : List Loc) (ls : Array Slot), f_X11_isSeparative_L4 n v4_1 v4_2 σ = some o → gw_P G σ H → va_S (gw_A G s.heap.size) s.heap H locs → lv_has ls 6 [(0, .ref (G.2.1 33)), (1, .int v4_1), (2, .int v4_2)] → gw_b v4_1 → W p l e { frames := 1, cells := 0, slots := 0, locals := 20 } s m [.ref (G.2.1 33)].toArray below meth c H locs 0 0 (MQ below (gw_QZ G s.heap.size o) [.ref (G.2.1 33)].toArray s 0 0 (gw_A G s.heap.size)) (F0 m 4 ls []) := by
    intro n
    induction n with
    | zero =>
      intro v4_1 v4_2 σ H locs ls h
      exact absurd h (by rw [f_X11_isSeparative_L4.eq_1]; exact fun h => nomatch h)
    | succ n ih =>
      intro v4_1 v4_2 σ H locs ls h hP hS hl hb_v4_1
      rw [f_X11_isSeparative_L4.eq_2] at h
      refine lv_iload_n hx hb dX11_isSeparative_4 rfl (lv_at hl 2 rfl) ?_
      refine lv_aload_n hx hb dX11_isSeparative_5 rfl (lv_at hl 0 rfl) ?_
      refine va_get (D := G.1) (ci := 13) (v := .ref (G.2.1 34)) (C := RX11) (T := TX11) (N := 5) hx hb hts gx_X11 hown hT.2.1 hP 33 rfl rfl 0 (by decide) (hts _ gv_1175) (fun _ h9 => h9) rfl dX11_isSeparative_6 ?_
      obtain ⟨p1, gp1, h⟩ := Option.bind_eq_some_iff.mp h
      refine gw_fi (gw_rF (x := ⟨"java/util/List", "size", "()I"⟩) (C := RJx4a65c) X (hT.2.1.1 2 _ rfl).2 hP hS (gc_Jx4a65c_size_8abf5_34 l G σ _ gp1) gk_Jx4a65c_size_8abf5 ⟨by decide +kernel, by decide +kernel⟩ gv_1200 ⟨gv_1204, gv_1206⟩ 0 rfl (va_recv hT.2.1 hP (ci := 2) (q0 := 34) rfl rfl) rfl rfl (Nat.le_of_ble_eq_true rfl) hl.1 ⟨rfl, rfl⟩ ⟨Nat.le_of_ble_eq_true rfl, Nat.le_of_ble_eq_true rfl⟩ ⟨Nat.le_of_ble_eq_true rfl, Nat.le_of_ble_eq_true rfl⟩ dX11_isSeparative_9) hS (fun H locs hP hS => ?_)
      refine lv_icmp_ge (tgt := 110) hx hb dX11_isSeparative_14 (by decide) (fun c => ?_) (fun c => ?_)
      · have h := (if_pos c).symm.trans h
        refine lv_iload_n hx hb dX11_isSeparative_110 rfl (lv_at hl 1 rfl) ?_
        exact gw_rz X hP hS hb_v4_1 h dX11_isSeparative_111
      · have h := (if_neg c).symm.trans h
        refine lv_iconst (v := 0) hx hb dX11_isSeparative_17 (by decide) ?_
        refine lv_istore_n (lv' := [(3, .int (0 : Int32)), (0, .ref (G.2.1 33)), (1, .int v4_1), (2, .int v4_2)]) hx hb dX11_isSeparative_18 rfl hl (by decide) rfl (fun ls hl => ?_)
        refine L19 64 _ v4_1 v4_2 (0 : Int32) p1.2 _ _ _ h hP hS (lv_sub hl [1, 2, 3, 0] rfl) hb_v4_1 (fun w19_1 w19_2 σ19 H locs ls h hP hS hl hb_w19_1 => ?_)
        refine lv_iinc (v := (w19_2 + (1 : Int32))) (lv' := [(2, .int (w19_2 + (1 : Int32))), (0, .ref (G.2.1 33)), (1, .int w19_1)]) hx hb dX11_isSeparative_104 hl (k := 2) rfl rfl (by decide) rfl (fun ls hl => ?_)
        refine lv_goto (tgt := 4) hx hb dX11_isSeparative_107 (by decide) ?_
        exact ih w19_1 (w19_2 + (1 : Int32)) σ19 _ _ _ h hP hS (lv_sub hl [1, 2, 0] rfl) hb_w19_1
  unfold f_X11_isSeparative at h
  refine lv_iconst (v := 1) hx hb dX11_isSeparative_0 (by decide) ?_
  refine lv_istore_n (lv' := [(1, .int (1 : Int32)), (0, .ref (G.2.1 33))]) hx hb dX11_isSeparative_1 rfl hl (by decide) rfl (fun ls hl => ?_)
  refine lv_iconst (v := 0) hx hb dX11_isSeparative_2 (by decide) ?_
  refine lv_istore_n (lv' := [(2, .int (0 : Int32)), (1, .int (1 : Int32)), (0, .ref (G.2.1 33))]) hx hb dX11_isSeparative_3 rfl hl (by decide) rfl (fun ls hl => ?_)
  exact L4 64 (1 : Int32) (0 : Int32) σ _ _ _ h hP hS (lv_sub hl [2, 1, 0] rfl) rfl
def f_X11_endsBelow (a0 : Int32) (σ : gw_S) : Option (Int32 × gw_S) := none
set_option maxHeartbeats 4000000 in
set_option maxRecDepth 100000 in
theorem gc_X11_endsBelow (l : Launch) (G : gw_G) (a0 : Int32) (σ : gw_S) (o : (Int32 × gw_S)) (h : f_X11_endsBelow a0 σ = some o) : gw_M (fun sz => gw_QI G sz o) l yX11_endsBelow cX11_endsBelow 2 (some .int) { frames := 0, cells := 0, slots := 0, locals := 0 } G [.ref (G.2.1 33), .int a0] σ := by
  refine gw_en (own := RX11) (lv := [(0, .ref (G.2.1 33)), (1, .int a0)]) (by decide +kernel) rfl (Nat.le_of_ble_eq_true rfl) rfl ?_
  intro p e s m below meth c ls X hl hP
  obtain ⟨hx, hb, hml, hown, hts, -, -, hT, hZ, -⟩ := id X
  have hS : va_S (gw_A G s.heap.size) s.heap s.heap [] := va_S.rf
  unfold f_X11_endsBelow at h
  refine lv_aload_n hx hb dX11_endsBelow_0 rfl (lv_at hl 0 rfl) ?_
  refine va_get (D := G.1) (ci := 13) (v := .ref (G.2.1 34)) (C := RX11) (T := TX11) (N := 5) hx hb hts gx_X11 hown hT.2.1 hP 33 rfl rfl 0 (by decide) (hts _ gv_1175) (fun _ h9 => h9) rfl dX11_endsBelow_1 ?_
  refine lv_iload_n hx hb dX11_endsBelow_4 rfl (lv_at hl 1 rfl) ?_
  exact absurd h (fun h => nomatch h)
def f_X11_cut (a0 : Int32) (σ : gw_S) : Option (Int32 × gw_S) := ((f_X11_isCondition a0 σ).bind fun p1 => ((f_X11_no p1.1 (1 : Int32) p1.2).bind fun p2 => (if p2.1 = 0 then ((f_X11_endsBelow a0 p2.2).bind fun p3 => (some (p3.1, p3.2))) else (some ((0 : Int32), p2.2)))))
set_option maxHeartbeats 4000000 in
set_option maxRecDepth 100000 in
theorem gc_X11_cut (l : Launch) (G : gw_G) (a0 : Int32) (σ : gw_S) (o : (Int32 × gw_S)) (h : f_X11_cut a0 σ = some o) : gw_M (fun sz => gw_QI G sz o) l yX11_cut cX11_cut 2 (some .int) { frames := 2, cells := 0, slots := 0, locals := 43 } G [.ref (G.2.1 33), .int a0] σ := by
  refine gw_en (own := RX11) (lv := [(0, .ref (G.2.1 33)), (1, .int a0)]) (by decide +kernel) rfl (Nat.le_of_ble_eq_true rfl) rfl ?_
  intro p e s m below meth c ls X hl hP
  obtain ⟨hx, hb, hml, hown, hts, -, -, hT, hZ, -⟩ := id X
  have hS : va_S (gw_A G s.heap.size) s.heap s.heap [] := va_S.rf
  unfold f_X11_cut at h
  refine lv_aload_n hx hb dX11_cut_0 rfl (lv_at hl 0 rfl) ?_
  refine lv_aload_n hx hb dX11_cut_1 rfl (lv_at hl 0 rfl) ?_
  refine lv_iload_n hx hb dX11_cut_2 rfl (lv_at hl 1 rfl) ?_
  obtain ⟨p1, gp1, h⟩ := Option.bind_eq_some_iff.mp h
  refine gw_cz (gw_rV (C := RX11) X hP hS (gc_X11_isCondition l G a0 σ _ gp1) gk_X11_isCondition gv_1306 ⟨gv_1308, gv_s26⟩ (va_recv hT.2.1 hP (ci := 13) (q0 := 33) rfl rfl) rfl rfl (Nat.le_of_ble_eq_true rfl) hl.1 ⟨rfl, rfl⟩ ⟨Nat.le_of_ble_eq_true rfl, Nat.le_of_ble_eq_true rfl⟩ ⟨Nat.le_of_ble_eq_true rfl, Nat.le_of_ble_eq_true rfl⟩ dX11_cut_3) hS (fun H locs hb_p1 hP hS => ?_)
  refine lv_iconst (v := 1) hx hb dX11_cut_6 (by decide) ?_
  obtain ⟨p2, gp2, h⟩ := Option.bind_eq_some_iff.mp h
  refine gw_cz (gw_rV (C := RX11) X hP hS (gc_X11_no l G p1.1 (1 : Int32) p1.2 _ gp2) gk_X11_no gv_1209 ⟨gv_1211, gv_s22⟩ (va_recv hT.2.1 hP (ci := 13) (q0 := 33) rfl rfl) rfl rfl (Nat.le_of_ble_eq_true rfl) hl.1 ⟨rfl, rfl⟩ ⟨Nat.le_of_ble_eq_true rfl, Nat.le_of_ble_eq_true rfl⟩ ⟨Nat.le_of_ble_eq_true rfl, Nat.le_of_ble_eq_true rfl⟩ dX11_cut_7) hS (fun H locs hb_p2 hP hS => ?_)
  refine lv_if_eq (tgt := 17) hx hb dX11_cut_10 (by decide) (fun c => ?_) (fun c => ?_)
  · have h := (if_pos c).symm.trans h
    refine lv_aload_n hx hb dX11_cut_17 rfl (lv_at hl 0 rfl) ?_
    refine lv_iload_n hx hb dX11_cut_18 rfl (lv_at hl 1 rfl) ?_
    obtain ⟨p3, gp3, h⟩ := Option.bind_eq_some_iff.mp h
    refine gw_ci (gw_rV (C := RX11) X hP hS (gc_X11_endsBelow l G a0 p2.2 _ gp3) gk_X11_endsBelow gv_1477 ⟨gv_1479, gv_s33⟩ (va_recv hT.2.1 hP (ci := 13) (q0 := 33) rfl rfl) rfl rfl (Nat.le_of_ble_eq_true rfl) hl.1 ⟨rfl, rfl⟩ ⟨Nat.le_of_ble_eq_true rfl, Nat.le_of_ble_eq_true rfl⟩ ⟨Nat.le_of_ble_eq_true rfl, Nat.le_of_ble_eq_true rfl⟩ dX11_cut_19) hS (fun H locs hP hS => ?_)
    exact gw_ri X hP hS h dX11_cut_22
  · have h := (if_neg c).symm.trans h
    refine lv_iconst (v := 0) hx hb dX11_cut_13 (by decide) ?_
    refine lv_goto (tgt := 22) hx hb dX11_cut_14 (by decide) ?_
    exact gw_ri X hP hS h dX11_cut_22
def f_X11_closure_L67 : Nat → Int32 → Int32 → Int32 → gw_S → Option (Int32 × gw_S)
  | 0, _, _, _, _ => none
  | n + 1, v67_2, v67_3, v67_4, σ => ((f_Jx4a65c_size_8abf5_34 σ).bind fun p4 => (if p4.1 ≤ v67_4 then (some (v67_3, p4.2)) else ((f_X11_endsBelow v67_4 p4.2).bind fun p5 => (if (p5.1 &&& (v67_2 ^^^ (-1 : Int32))) = 0 then (f_X11_closure_L67 n v67_2 (v67_3 ||| ((1 : Int32) <<< (v67_4 &&& 31))) (v67_4 + (1 : Int32)) p5.2) else (f_X11_closure_L67 n v67_2 (v67_3 ||| (0 : Int32)) (v67_4 + (1 : Int32)) p5.2)))))
def f_X11_closure_L22 : Nat → Int32 → Int32 → Int32 → Int32 → gw_S → Option (Int32 × gw_S)
  | 0, _, _, _, _, _ => none
  | n + 1, v22_1, v22_2, v22_3, v22_4, σ => ((f_Jx4a65c_size_8abf5_34 σ).bind fun p3 => (if p3.1 ≤ v22_4 then (f_X11_closure_L67 64 v22_2 v22_3 (0 : Int32) p3.2) else ((f_X11_has v22_1 v22_4 p3.2).bind fun p6 => (if p6.1 = 0 then (f_X11_closure_L22 n v22_1 (v22_2 ||| (0 : Int32)) v22_3 (v22_4 + (1 : Int32)) p6.2) else ((f_X11_endsBelow v22_4 p6.2).bind fun p7 => (f_X11_closure_L22 n v22_1 (v22_2 ||| p7.1) v22_3 (v22_4 + (1 : Int32)) p7.2))))))
def f_X11_closure (a0 : Int32) (σ : gw_S) : Option (Int32 × gw_S) := ((f_X11_isSet a0 σ).bind fun p1 => ((f_X11_no p1.1 (1 : Int32) p1.2).bind fun p2 => (if p2.1 = 0 then (f_X11_closure_L22 64 a0 (0 : Int32) (0 : Int32) (0 : Int32) p2.2) else (some ((0 : Int32), p2.2)))))
set_option maxHeartbeats 4000000 in
set_option maxRecDepth 100000 in
theorem gc_X11_closure (l : Launch) (G : gw_G) (a0 : Int32) (σ : gw_S) (o : (Int32 × gw_S)) (h : f_X11_closure a0 σ = some o) : gw_M (fun sz => gw_QI G sz o) l yX11_closure cX11_closure 5 (some .int) { frames := 2, cells := 0, slots := 0, locals := 43 } G [.ref (G.2.1 33), .int a0] σ := by
  refine gw_en (own := RX11) (lv := [(0, .ref (G.2.1 33)), (1, .int a0)]) (by decide +kernel) rfl (Nat.le_of_ble_eq_true rfl) rfl ?_
  intro p e s m below meth c ls X hl hP
  obtain ⟨hx, hb, hml, hown, hts, -, -, hT, hZ, -⟩ := id X
  have hS : va_S (gw_A G s.heap.size) s.heap s.heap [] := va_S.rf
  have L67 : ∀ (n : Nat) (v67_2 : Int32) (v67_3 : Int32) (v67_4 : Int32) (σ : gw_S) (H : Heap) (locs : List Loc) (ls : Array Slot), f_X11_closure_L67 n v67_2 v67_3 v67_4 σ = some o → gw_P G σ H → va_S (gw_A G s.heap.size) s.heap H locs → lv_has ls 5 [(0, .ref (G.2.1 33)), (2, .int v67_2), (3, .int v67_3), (4, .int v67_4)] → W p l e { frames := 2, cells := 0, slots := 0, locals := 43 } s m [.ref (G.2.1 33), .int a0].toArray below meth c H locs 0 0 (MQ below (gw_QI G s.heap.size o) [.ref (G.2.1 33), .int a0].toArray s 0 0 (gw_A G s.heap.size)) (F0 m 67 ls []) := by
    intro n
    induction n with
    | zero =>
      intro v67_2 v67_3 v67_4 σ H locs ls h
      exact absurd h (by rw [f_X11_closure_L67.eq_1]; exact fun h => nomatch h)
    | succ n ih =>
      intro v67_2 v67_3 v67_4 σ H locs ls h hP hS hl
      rw [f_X11_closure_L67.eq_2] at h
      refine lv_iload hx hb dX11_closure_67 (lv_at hl 3 rfl) ?_
      refine lv_aload_n hx hb dX11_closure_69 rfl (lv_at hl 0 rfl) ?_
      refine va_get (D := G.1) (ci := 13) (v := .ref (G.2.1 34)) (C := RX11) (T := TX11) (N := 5) hx hb hts gx_X11 hown hT.2.1 hP 33 rfl rfl 0 (by decide) (hts _ gv_1175) (fun _ h9 => h9) rfl dX11_closure_70 ?_
      obtain ⟨p4, gp4, h⟩ := Option.bind_eq_some_iff.mp h
      refine gw_fi (gw_rF (x := ⟨"java/util/List", "size", "()I"⟩) (C := RJx4a65c) X (hT.2.1.1 2 _ rfl).2 hP hS (gc_Jx4a65c_size_8abf5_34 l G σ _ gp4) gk_Jx4a65c_size_8abf5 ⟨by decide +kernel, by decide +kernel⟩ gv_1200 ⟨gv_1204, gv_1206⟩ 0 rfl (va_recv hT.2.1 hP (ci := 2) (q0 := 34) rfl rfl) rfl rfl (Nat.le_of_ble_eq_true rfl) hl.1 ⟨rfl, rfl⟩ ⟨Nat.le_of_ble_eq_true rfl, Nat.le_of_ble_eq_true rfl⟩ ⟨Nat.le_of_ble_eq_true rfl, Nat.le_of_ble_eq_true rfl⟩ dX11_closure_73) hS (fun H locs hP hS => ?_)
      refine lv_icmp_ge (tgt := 111) hx hb dX11_closure_78 (by decide) (fun c => ?_) (fun c => ?_)
      · have h := (if_pos c).symm.trans h
        refine lv_iload_n hx hb dX11_closure_111 rfl (lv_at hl 2 rfl) ?_
        exact gw_ri X hP hS h dX11_closure_112
      · have h := (if_neg c).symm.trans h
        refine lv_iload_n hx hb dX11_closure_81 rfl (lv_at hl 2 rfl) ?_
        refine lv_aload_n hx hb dX11_closure_82 rfl (lv_at hl 0 rfl) ?_
        refine lv_iload hx hb dX11_closure_83 (lv_at hl 3 rfl) ?_
        obtain ⟨p5, gp5, h⟩ := Option.bind_eq_some_iff.mp h
        refine gw_ci (gw_rV (C := RX11) X hP hS (gc_X11_endsBelow l G v67_4 p4.2 _ gp5) gk_X11_endsBelow gv_1477 ⟨gv_1479, gv_s33⟩ (va_recv hT.2.1 hP (ci := 13) (q0 := 33) rfl rfl) rfl rfl (Nat.le_of_ble_eq_true rfl) hl.1 ⟨rfl, rfl⟩ ⟨Nat.le_of_ble_eq_true rfl, Nat.le_of_ble_eq_true rfl⟩ ⟨Nat.le_of_ble_eq_true rfl, Nat.le_of_ble_eq_true rfl⟩ dX11_closure_85) hS (fun H locs hP hS => ?_)
        refine lv_iload_n hx hb dX11_closure_88 rfl (lv_at hl 1 rfl) ?_
        refine lv_iconst (v := -1) hx hb dX11_closure_89 (by decide) ?_
        refine lv_ixor hx hb dX11_closure_90 ?_
        refine lv_iand hx hb dX11_closure_91 ?_
        refine lv_if_ne (tgt := 102) hx hb dX11_closure_92 (by decide) (fun c => ?_) (fun c => ?_)
        · have h := (if_neg c).symm.trans h
          refine lv_iconst (v := 0) hx hb dX11_closure_102 (by decide) ?_
          refine lv_ior hx hb dX11_closure_103 ?_
          refine lv_istore_n (lv' := [(3, .int (v67_3 ||| (0 : Int32))), (0, .ref (G.2.1 33)), (2, .int v67_2), (4, .int v67_4)]) hx hb dX11_closure_104 rfl hl (by decide) rfl (fun ls hl => ?_)
          refine lv_iinc (v := (v67_4 + (1 : Int32))) (lv' := [(4, .int (v67_4 + (1 : Int32))), (3, .int (v67_3 ||| (0 : Int32))), (0, .ref (G.2.1 33)), (2, .int v67_2)]) hx hb dX11_closure_105 hl (k := 3) rfl rfl (by decide) rfl (fun ls hl => ?_)
          refine lv_goto (tgt := 67) hx hb dX11_closure_108 (by decide) ?_
          exact ih v67_2 (v67_3 ||| (0 : Int32)) (v67_4 + (1 : Int32)) p5.2 _ _ _ h hP hS (lv_sub hl [2, 3, 1, 0] rfl)
        · have h := (if_pos c).symm.trans h
          refine lv_iconst (v := 1) hx hb dX11_closure_95 (by decide) ?_
          refine lv_iload hx hb dX11_closure_96 (lv_at hl 3 rfl) ?_
          refine lv_ishl hx hb dX11_closure_98 ?_
          refine lv_goto (tgt := 103) hx hb dX11_closure_99 (by decide) ?_
          refine lv_ior hx hb dX11_closure_103 ?_
          refine lv_istore_n (lv' := [(3, .int (v67_3 ||| ((1 : Int32) <<< (v67_4 &&& 31)))), (0, .ref (G.2.1 33)), (2, .int v67_2), (4, .int v67_4)]) hx hb dX11_closure_104 rfl hl (by decide) rfl (fun ls hl => ?_)
          refine lv_iinc (v := (v67_4 + (1 : Int32))) (lv' := [(4, .int (v67_4 + (1 : Int32))), (3, .int (v67_3 ||| ((1 : Int32) <<< (v67_4 &&& 31)))), (0, .ref (G.2.1 33)), (2, .int v67_2)]) hx hb dX11_closure_105 hl (k := 3) rfl rfl (by decide) rfl (fun ls hl => ?_)
          refine lv_goto (tgt := 67) hx hb dX11_closure_108 (by decide) ?_
          exact ih v67_2 (v67_3 ||| ((1 : Int32) <<< (v67_4 &&& 31))) (v67_4 + (1 : Int32)) p5.2 _ _ _ h hP hS (lv_sub hl [2, 3, 1, 0] rfl)
  have L22 : ∀ (n : Nat) (v22_1 : Int32) (v22_2 : Int32) (v22_3 : Int32) (v22_4 : Int32) (σ : gw_S) (H : Heap) (locs : List Loc) (ls : Array Slot), f_X11_closure_L22 n v22_1 v22_2 v22_3 v22_4 σ = some o → gw_P G σ H → va_S (gw_A G s.heap.size) s.heap H locs → lv_has ls 5 [(0, .ref (G.2.1 33)), (1, .int v22_1), (2, .int v22_2), (3, .int v22_3), (4, .int v22_4)] → W p l e { frames := 2, cells := 0, slots := 0, locals := 43 } s m [.ref (G.2.1 33), .int a0].toArray below meth c H locs 0 0 (MQ below (gw_QI G s.heap.size o) [.ref (G.2.1 33), .int a0].toArray s 0 0 (gw_A G s.heap.size)) (F0 m 22 ls []) := by
    intro n
    induction n with
    | zero =>
      intro v22_1 v22_2 v22_3 v22_4 σ H locs ls h
      exact absurd h (by rw [f_X11_closure_L22.eq_1]; exact fun h => nomatch h)
    | succ n ih =>
      intro v22_1 v22_2 v22_3 v22_4 σ H locs ls h hP hS hl
      rw [f_X11_closure_L22.eq_2] at h
      refine lv_iload hx hb dX11_closure_22 (lv_at hl 4 rfl) ?_
      refine lv_aload_n hx hb dX11_closure_24 rfl (lv_at hl 0 rfl) ?_
      refine va_get (D := G.1) (ci := 13) (v := .ref (G.2.1 34)) (C := RX11) (T := TX11) (N := 5) hx hb hts gx_X11 hown hT.2.1 hP 33 rfl rfl 0 (by decide) (hts _ gv_1175) (fun _ h9 => h9) rfl dX11_closure_25 ?_
      obtain ⟨p3, gp3, h⟩ := Option.bind_eq_some_iff.mp h
      refine gw_fi (gw_rF (x := ⟨"java/util/List", "size", "()I"⟩) (C := RJx4a65c) X (hT.2.1.1 2 _ rfl).2 hP hS (gc_Jx4a65c_size_8abf5_34 l G σ _ gp3) gk_Jx4a65c_size_8abf5 ⟨by decide +kernel, by decide +kernel⟩ gv_1200 ⟨gv_1204, gv_1206⟩ 0 rfl (va_recv hT.2.1 hP (ci := 2) (q0 := 34) rfl rfl) rfl rfl (Nat.le_of_ble_eq_true rfl) hl.1 ⟨rfl, rfl⟩ ⟨Nat.le_of_ble_eq_true rfl, Nat.le_of_ble_eq_true rfl⟩ ⟨Nat.le_of_ble_eq_true rfl, Nat.le_of_ble_eq_true rfl⟩ dX11_closure_28) hS (fun H locs hP hS => ?_)
      refine lv_icmp_ge (tgt := 64) hx hb dX11_closure_33 (by decide) (fun c => ?_) (fun c => ?_)
      · have h := (if_pos c).symm.trans h
        refine lv_iconst (v := 0) hx hb dX11_closure_64 (by decide) ?_
        refine lv_istore (lv' := [(4, .int (0 : Int32)), (0, .ref (G.2.1 33)), (1, .int v22_1), (2, .int v22_2), (3, .int v22_3)]) hx hb dX11_closure_65 hl (by decide) rfl (fun ls hl => ?_)
        exact L67 64 v22_2 v22_3 (0 : Int32) p3.2 _ _ _ h hP hS (lv_sub hl [1, 3, 4, 0] rfl)
      · have h := (if_neg c).symm.trans h
        refine lv_iload_n hx hb dX11_closure_36 rfl (lv_at hl 2 rfl) ?_
        refine lv_iload_n hx hb dX11_closure_37 rfl (lv_at hl 1 rfl) ?_
        refine lv_iload hx hb dX11_closure_38 (lv_at hl 4 rfl) ?_
        obtain ⟨p6, gp6, h⟩ := Option.bind_eq_some_iff.mp h
        refine gw_cz (gw_rS X hP hS (gc_X11_has l G v22_1 v22_4 p3.2 _ gp6) gk_X11_has gv_1341 gv_1342 rfl rfl (Nat.le_of_ble_eq_true rfl) hl.1 ⟨rfl, rfl⟩ ⟨Nat.le_of_ble_eq_true rfl, Nat.le_of_ble_eq_true rfl⟩ ⟨Nat.le_of_ble_eq_true rfl, Nat.le_of_ble_eq_true rfl⟩ dX11_closure_40) hS (fun H locs hb_p6 hP hS => ?_)
        refine lv_if_eq (tgt := 55) hx hb dX11_closure_43 (by decide) (fun c => ?_) (fun c => ?_)
        · have h := (if_pos c).symm.trans h
          refine lv_iconst (v := 0) hx hb dX11_closure_55 (by decide) ?_
          refine lv_ior hx hb dX11_closure_56 ?_
          refine lv_istore_n (lv' := [(2, .int (v22_2 ||| (0 : Int32))), (0, .ref (G.2.1 33)), (1, .int v22_1), (3, .int v22_3), (4, .int v22_4)]) hx hb dX11_closure_57 rfl hl (by decide) rfl (fun ls hl => ?_)
          refine lv_iinc (v := (v22_4 + (1 : Int32))) (lv' := [(4, .int (v22_4 + (1 : Int32))), (2, .int (v22_2 ||| (0 : Int32))), (0, .ref (G.2.1 33)), (1, .int v22_1), (3, .int v22_3)]) hx hb dX11_closure_58 hl (k := 4) rfl rfl (by decide) rfl (fun ls hl => ?_)
          refine lv_goto (tgt := 22) hx hb dX11_closure_61 (by decide) ?_
          exact ih v22_1 (v22_2 ||| (0 : Int32)) v22_3 (v22_4 + (1 : Int32)) p6.2 _ _ _ h hP hS (lv_sub hl [2, 3, 1, 4, 0] rfl)
        · have h := (if_neg c).symm.trans h
          refine lv_aload_n hx hb dX11_closure_46 rfl (lv_at hl 0 rfl) ?_
          refine lv_iload hx hb dX11_closure_47 (lv_at hl 4 rfl) ?_
          obtain ⟨p7, gp7, h⟩ := Option.bind_eq_some_iff.mp h
          refine gw_ci (gw_rV (C := RX11) X hP hS (gc_X11_endsBelow l G v22_4 p6.2 _ gp7) gk_X11_endsBelow gv_1477 ⟨gv_1479, gv_s33⟩ (va_recv hT.2.1 hP (ci := 13) (q0 := 33) rfl rfl) rfl rfl (Nat.le_of_ble_eq_true rfl) hl.1 ⟨rfl, rfl⟩ ⟨Nat.le_of_ble_eq_true rfl, Nat.le_of_ble_eq_true rfl⟩ ⟨Nat.le_of_ble_eq_true rfl, Nat.le_of_ble_eq_true rfl⟩ dX11_closure_49) hS (fun H locs hP hS => ?_)
          refine lv_goto (tgt := 56) hx hb dX11_closure_52 (by decide) ?_
          refine lv_ior hx hb dX11_closure_56 ?_
          refine lv_istore_n (lv' := [(2, .int (v22_2 ||| p7.1)), (0, .ref (G.2.1 33)), (1, .int v22_1), (3, .int v22_3), (4, .int v22_4)]) hx hb dX11_closure_57 rfl hl (by decide) rfl (fun ls hl => ?_)
          refine lv_iinc (v := (v22_4 + (1 : Int32))) (lv' := [(4, .int (v22_4 + (1 : Int32))), (2, .int (v22_2 ||| p7.1)), (0, .ref (G.2.1 33)), (1, .int v22_1), (3, .int v22_3)]) hx hb dX11_closure_58 hl (k := 4) rfl rfl (by decide) rfl (fun ls hl => ?_)
          refine lv_goto (tgt := 22) hx hb dX11_closure_61 (by decide) ?_
          exact ih v22_1 (v22_2 ||| p7.1) v22_3 (v22_4 + (1 : Int32)) p7.2 _ _ _ h hP hS (lv_sub hl [2, 3, 1, 4, 0] rfl)
  unfold f_X11_closure at h
  refine lv_aload_n hx hb dX11_closure_0 rfl (lv_at hl 0 rfl) ?_
  refine lv_aload_n hx hb dX11_closure_1 rfl (lv_at hl 0 rfl) ?_
  refine lv_iload_n hx hb dX11_closure_2 rfl (lv_at hl 1 rfl) ?_
  obtain ⟨p1, gp1, h⟩ := Option.bind_eq_some_iff.mp h
  refine gw_cz (gw_rV (C := RX11) X hP hS (gc_X11_isSet l G a0 σ _ gp1) gk_X11_isSet gv_1440 ⟨gv_1442, gv_s30⟩ (va_recv hT.2.1 hP (ci := 13) (q0 := 33) rfl rfl) rfl rfl (Nat.le_of_ble_eq_true rfl) hl.1 ⟨rfl, rfl⟩ ⟨Nat.le_of_ble_eq_true rfl, Nat.le_of_ble_eq_true rfl⟩ ⟨Nat.le_of_ble_eq_true rfl, Nat.le_of_ble_eq_true rfl⟩ dX11_closure_3) hS (fun H locs hb_p1 hP hS => ?_)
  refine lv_iconst (v := 1) hx hb dX11_closure_6 (by decide) ?_
  obtain ⟨p2, gp2, h⟩ := Option.bind_eq_some_iff.mp h
  refine gw_cz (gw_rV (C := RX11) X hP hS (gc_X11_no l G p1.1 (1 : Int32) p1.2 _ gp2) gk_X11_no gv_1209 ⟨gv_1211, gv_s22⟩ (va_recv hT.2.1 hP (ci := 13) (q0 := 33) rfl rfl) rfl rfl (Nat.le_of_ble_eq_true rfl) hl.1 ⟨rfl, rfl⟩ ⟨Nat.le_of_ble_eq_true rfl, Nat.le_of_ble_eq_true rfl⟩ ⟨Nat.le_of_ble_eq_true rfl, Nat.le_of_ble_eq_true rfl⟩ dX11_closure_7) hS (fun H locs hb_p2 hP hS => ?_)
  refine lv_if_eq (tgt := 15) hx hb dX11_closure_10 (by decide) (fun c => ?_) (fun c => ?_)
  · have h := (if_pos c).symm.trans h
    refine lv_iconst (v := 0) hx hb dX11_closure_15 (by decide) ?_
    refine lv_istore_n (lv' := [(2, .int (0 : Int32)), (0, .ref (G.2.1 33)), (1, .int a0)]) hx hb dX11_closure_16 rfl hl (by decide) rfl (fun ls hl => ?_)
    refine lv_iconst (v := 0) hx hb dX11_closure_17 (by decide) ?_
    refine lv_istore_n (lv' := [(3, .int (0 : Int32)), (2, .int (0 : Int32)), (0, .ref (G.2.1 33)), (1, .int a0)]) hx hb dX11_closure_18 rfl hl (by decide) rfl (fun ls hl => ?_)
    refine lv_iconst (v := 0) hx hb dX11_closure_19 (by decide) ?_
    refine lv_istore (lv' := [(4, .int (0 : Int32)), (3, .int (0 : Int32)), (2, .int (0 : Int32)), (0, .ref (G.2.1 33)), (1, .int a0)]) hx hb dX11_closure_20 hl (by decide) rfl (fun ls hl => ?_)
    exact L22 64 a0 (0 : Int32) (0 : Int32) (0 : Int32) p2.2 _ _ _ h hP hS (lv_sub hl [3, 4, 2, 1, 0] rfl)
  · have h := (if_neg c).symm.trans h
    refine lv_iconst (v := 0) hx hb dX11_closure_13 (by decide) ?_
    exact gw_ri X hP hS h dX11_closure_14
def f_X11_isWorld (a0 : Int32) (σ : gw_S) : Option (Int32 × gw_S) := ((f_X11_isCondition a0 σ).bind fun p1 => (if p1.1 = 0 then (some ((0 : Int32), p1.2)) else ((f_X11_ends  p1.2).bind fun p2 => ((f_X11_has p2.1 a0 p2.2).bind fun p3 => (if p3.1 = 0 then (some ((0 : Int32), p3.2)) else (some ((1 : Int32), p3.2)))))))
set_option maxHeartbeats 4000000 in
set_option maxRecDepth 100000 in
theorem gc_X11_isWorld (l : Launch) (G : gw_G) (a0 : Int32) (σ : gw_S) (o : (Int32 × gw_S)) (h : f_X11_isWorld a0 σ = some o) : gw_M (fun sz => gw_QZ G sz o) l yX11_isWorld cX11_isWorld 2 (some .boolean) { frames := 2, cells := 0, slots := 0, locals := 43 } G [.ref (G.2.1 33), .int a0] σ := by
  refine gw_en (own := RX11) (lv := [(0, .ref (G.2.1 33)), (1, .int a0)]) (by decide +kernel) rfl (Nat.le_of_ble_eq_true rfl) rfl ?_
  intro p e s m below meth c ls X hl hP
  obtain ⟨hx, hb, hml, hown, hts, -, -, hT, hZ, -⟩ := id X
  have hS : va_S (gw_A G s.heap.size) s.heap s.heap [] := va_S.rf
  unfold f_X11_isWorld at h
  refine lv_aload_n hx hb dX11_isWorld_0 rfl (lv_at hl 0 rfl) ?_
  refine lv_iload_n hx hb dX11_isWorld_1 rfl (lv_at hl 1 rfl) ?_
  obtain ⟨p1, gp1, h⟩ := Option.bind_eq_some_iff.mp h
  refine gw_cz (gw_rV (C := RX11) X hP hS (gc_X11_isCondition l G a0 σ _ gp1) gk_X11_isCondition gv_1306 ⟨gv_1308, gv_s26⟩ (va_recv hT.2.1 hP (ci := 13) (q0 := 33) rfl rfl) rfl rfl (Nat.le_of_ble_eq_true rfl) hl.1 ⟨rfl, rfl⟩ ⟨Nat.le_of_ble_eq_true rfl, Nat.le_of_ble_eq_true rfl⟩ ⟨Nat.le_of_ble_eq_true rfl, Nat.le_of_ble_eq_true rfl⟩ dX11_isWorld_2) hS (fun H locs hb_p1 hP hS => ?_)
  refine lv_if_eq (tgt := 23) hx hb dX11_isWorld_5 (by decide) (fun c => ?_) (fun c => ?_)
  · have h := (if_pos c).symm.trans h
    refine lv_iconst (v := 0) hx hb dX11_isWorld_23 (by decide) ?_
    exact gw_rz X hP hS rfl h dX11_isWorld_24
  · have h := (if_neg c).symm.trans h
    refine lv_aload_n hx hb dX11_isWorld_8 rfl (lv_at hl 0 rfl) ?_
    obtain ⟨p2, gp2, h⟩ := Option.bind_eq_some_iff.mp h
    refine gw_ci (gw_rV (C := RX11) X hP hS (gc_X11_ends l G  p1.2 _ gp2) gk_X11_ends gv_1432 ⟨gv_1434, gv_s29⟩ (va_recv hT.2.1 hP (ci := 13) (q0 := 33) rfl rfl) rfl rfl (Nat.le_of_ble_eq_true rfl) hl.1 ⟨rfl, rfl⟩ ⟨Nat.le_of_ble_eq_true rfl, Nat.le_of_ble_eq_true rfl⟩ ⟨Nat.le_of_ble_eq_true rfl, Nat.le_of_ble_eq_true rfl⟩ dX11_isWorld_9) hS (fun H locs hP hS => ?_)
    refine lv_iload_n hx hb dX11_isWorld_12 rfl (lv_at hl 1 rfl) ?_
    obtain ⟨p3, gp3, h⟩ := Option.bind_eq_some_iff.mp h
    refine gw_cz (gw_rS X hP hS (gc_X11_has l G p2.1 a0 p2.2 _ gp3) gk_X11_has gv_1341 gv_1342 rfl rfl (Nat.le_of_ble_eq_true rfl) hl.1 ⟨rfl, rfl⟩ ⟨Nat.le_of_ble_eq_true rfl, Nat.le_of_ble_eq_true rfl⟩ ⟨Nat.le_of_ble_eq_true rfl, Nat.le_of_ble_eq_true rfl⟩ dX11_isWorld_13) hS (fun H locs hb_p3 hP hS => ?_)
    refine lv_if_eq (tgt := 23) hx hb dX11_isWorld_16 (by decide) (fun c => ?_) (fun c => ?_)
    · have h := (if_pos c).symm.trans h
      refine lv_iconst (v := 0) hx hb dX11_isWorld_23 (by decide) ?_
      exact gw_rz X hP hS rfl h dX11_isWorld_24
    · have h := (if_neg c).symm.trans h
      refine lv_iconst (v := 1) hx hb dX11_isWorld_19 (by decide) ?_
      refine lv_goto (tgt := 24) hx hb dX11_isWorld_20 (by decide) ?_
      exact gw_rz X hP hS rfl h dX11_isWorld_24
def f_X11_filterOf_L19 : Nat → Int32 → Int32 → Int32 → gw_S → Option (Int32 × gw_S)
  | 0, _, _, _, _ => none
  | n + 1, v19_1, v19_2, v19_3, σ => ((f_Jx4a65c_size_8abf5_34 σ).bind fun p3 => (if p3.1 ≤ v19_3 then (some (v19_2, p3.2)) else none))
def f_X11_filterOf (a0 : Int32) (σ : gw_S) : Option (Int32 × gw_S) := ((f_X11_isWorld a0 σ).bind fun p1 => ((f_X11_no p1.1 (1 : Int32) p1.2).bind fun p2 => (if p2.1 = 0 then (f_X11_filterOf_L19 64 a0 (0 : Int32) (0 : Int32) p2.2) else (some ((0 : Int32), p2.2)))))
set_option maxHeartbeats 4000000 in
set_option maxRecDepth 100000 in
theorem gc_X11_filterOf (l : Launch) (G : gw_G) (a0 : Int32) (σ : gw_S) (o : (Int32 × gw_S)) (h : f_X11_filterOf a0 σ = some o) : gw_M (fun sz => gw_QI G sz o) l yX11_filterOf cX11_filterOf 4 (some .int) { frames := 3, cells := 0, slots := 0, locals := 64 } G [.ref (G.2.1 33), .int a0] σ := by
  refine gw_en (own := RX11) (lv := [(0, .ref (G.2.1 33)), (1, .int a0)]) (by decide +kernel) rfl (Nat.le_of_ble_eq_true rfl) rfl ?_
  intro p e s m below meth c ls X hl hP
  obtain ⟨hx, hb, hml, hown, hts, -, -, hT, hZ, -⟩ := id X
  have hS : va_S (gw_A G s.heap.size) s.heap s.heap [] := va_S.rf
  have L19 : ∀ (n : Nat) (v19_1 : Int32) (v19_2 : Int32) (v19_3 : Int32) (σ : gw_S) (H : Heap) (locs : List Loc) (ls : Array Slot), f_X11_filterOf_L19 n v19_1 v19_2 v19_3 σ = some o → gw_P G σ H → va_S (gw_A G s.heap.size) s.heap H locs → lv_has ls 4 [(0, .ref (G.2.1 33)), (1, .int v19_1), (2, .int v19_2), (3, .int v19_3)] → W p l e { frames := 3, cells := 0, slots := 0, locals := 64 } s m [.ref (G.2.1 33), .int a0].toArray below meth c H locs 0 0 (MQ below (gw_QI G s.heap.size o) [.ref (G.2.1 33), .int a0].toArray s 0 0 (gw_A G s.heap.size)) (F0 m 19 ls []) := by
    intro n
    induction n with
    | zero =>
      intro v19_1 v19_2 v19_3 σ H locs ls h
      exact absurd h (by rw [f_X11_filterOf_L19.eq_1]; exact fun h => nomatch h)
    | succ n ih =>
      intro v19_1 v19_2 v19_3 σ H locs ls h hP hS hl
      rw [f_X11_filterOf_L19.eq_2] at h
      refine lv_iload_n hx hb dX11_filterOf_19 rfl (lv_at hl 3 rfl) ?_
      refine lv_aload_n hx hb dX11_filterOf_20 rfl (lv_at hl 0 rfl) ?_
      refine va_get (D := G.1) (ci := 13) (v := .ref (G.2.1 34)) (C := RX11) (T := TX11) (N := 5) hx hb hts gx_X11 hown hT.2.1 hP 33 rfl rfl 0 (by decide) (hts _ gv_1175) (fun _ h9 => h9) rfl dX11_filterOf_21 ?_
      obtain ⟨p3, gp3, h⟩ := Option.bind_eq_some_iff.mp h
      refine gw_fi (gw_rF (x := ⟨"java/util/List", "size", "()I"⟩) (C := RJx4a65c) X (hT.2.1.1 2 _ rfl).2 hP hS (gc_Jx4a65c_size_8abf5_34 l G σ _ gp3) gk_Jx4a65c_size_8abf5 ⟨by decide +kernel, by decide +kernel⟩ gv_1200 ⟨gv_1204, gv_1206⟩ 0 rfl (va_recv hT.2.1 hP (ci := 2) (q0 := 34) rfl rfl) rfl rfl (Nat.le_of_ble_eq_true rfl) hl.1 ⟨rfl, rfl⟩ ⟨Nat.le_of_ble_eq_true rfl, Nat.le_of_ble_eq_true rfl⟩ ⟨Nat.le_of_ble_eq_true rfl, Nat.le_of_ble_eq_true rfl⟩ dX11_filterOf_24) hS (fun H locs hP hS => ?_)
      refine lv_icmp_ge (tgt := 57) hx hb dX11_filterOf_29 (by decide) (fun c => ?_) (fun c => ?_)
      · have h := (if_pos c).symm.trans h
        refine lv_iload_n hx hb dX11_filterOf_57 rfl (lv_at hl 2 rfl) ?_
        exact gw_ri X hP hS h dX11_filterOf_58
      · have h := (if_neg c).symm.trans h
        refine lv_iload_n hx hb dX11_filterOf_32 rfl (lv_at hl 2 rfl) ?_
        refine lv_aload_n hx hb dX11_filterOf_33 rfl (lv_at hl 0 rfl) ?_
        refine lv_iload_n hx hb dX11_filterOf_34 rfl (lv_at hl 1 rfl) ?_
        refine lv_iload_n hx hb dX11_filterOf_35 rfl (lv_at hl 3 rfl) ?_
        exact absurd h (fun h => nomatch h)
  unfold f_X11_filterOf at h
  refine lv_aload_n hx hb dX11_filterOf_0 rfl (lv_at hl 0 rfl) ?_
  refine lv_aload_n hx hb dX11_filterOf_1 rfl (lv_at hl 0 rfl) ?_
  refine lv_iload_n hx hb dX11_filterOf_2 rfl (lv_at hl 1 rfl) ?_
  obtain ⟨p1, gp1, h⟩ := Option.bind_eq_some_iff.mp h
  refine gw_cz (gw_rV (C := RX11) X hP hS (gc_X11_isWorld l G a0 σ _ gp1) gk_X11_isWorld gv_1489 ⟨gv_1491, gv_s34⟩ (va_recv hT.2.1 hP (ci := 13) (q0 := 33) rfl rfl) rfl rfl (Nat.le_of_ble_eq_true rfl) hl.1 ⟨rfl, rfl⟩ ⟨Nat.le_of_ble_eq_true rfl, Nat.le_of_ble_eq_true rfl⟩ ⟨Nat.le_of_ble_eq_true rfl, Nat.le_of_ble_eq_true rfl⟩ dX11_filterOf_3) hS (fun H locs hb_p1 hP hS => ?_)
  refine lv_iconst (v := 1) hx hb dX11_filterOf_6 (by decide) ?_
  obtain ⟨p2, gp2, h⟩ := Option.bind_eq_some_iff.mp h
  refine gw_cz (gw_rV (C := RX11) X hP hS (gc_X11_no l G p1.1 (1 : Int32) p1.2 _ gp2) gk_X11_no gv_1209 ⟨gv_1211, gv_s22⟩ (va_recv hT.2.1 hP (ci := 13) (q0 := 33) rfl rfl) rfl rfl (Nat.le_of_ble_eq_true rfl) hl.1 ⟨rfl, rfl⟩ ⟨Nat.le_of_ble_eq_true rfl, Nat.le_of_ble_eq_true rfl⟩ ⟨Nat.le_of_ble_eq_true rfl, Nat.le_of_ble_eq_true rfl⟩ dX11_filterOf_7) hS (fun H locs hb_p2 hP hS => ?_)
  refine lv_if_eq (tgt := 15) hx hb dX11_filterOf_10 (by decide) (fun c => ?_) (fun c => ?_)
  · have h := (if_pos c).symm.trans h
    refine lv_iconst (v := 0) hx hb dX11_filterOf_15 (by decide) ?_
    refine lv_istore_n (lv' := [(2, .int (0 : Int32)), (0, .ref (G.2.1 33)), (1, .int a0)]) hx hb dX11_filterOf_16 rfl hl (by decide) rfl (fun ls hl => ?_)
    refine lv_iconst (v := 0) hx hb dX11_filterOf_17 (by decide) ?_
    refine lv_istore_n (lv' := [(3, .int (0 : Int32)), (2, .int (0 : Int32)), (0, .ref (G.2.1 33)), (1, .int a0)]) hx hb dX11_filterOf_18 rfl hl (by decide) rfl (fun ls hl => ?_)
    exact L19 64 a0 (0 : Int32) (0 : Int32) p2.2 _ _ _ h hP hS (lv_sub hl [2, 3, 1, 0] rfl)
  · have h := (if_neg c).symm.trans h
    refine lv_iconst (v := 0) hx hb dX11_filterOf_13 (by decide) ?_
    exact gw_ri X hP hS h dX11_filterOf_14
def f_X11_pair (a0 : Int32) (a1 : Int32) (a2 : Int32) (σ : gw_S) : Option (Int32 × gw_S) := ((f_X11_isName a0 σ).bind fun p1 => (if p1.1 = 0 then ((f_X11_no (0 : Int32) (1 : Int32) p1.2).bind fun p2 => (if p2.1 = 0 then (if a0 ≤ a1 then ((f_X11_no (0 : Int32) (2 : Int32) p2.2).bind fun p3 => (if p3.1 = 0 then none else (some ((0 : Int32), p3.2)))) else ((f_X11_no (1 : Int32) (2 : Int32) p2.2).bind fun p4 => (if p4.1 = 0 then none else (some ((0 : Int32), p4.2))))) else (some ((0 : Int32), p2.2)))) else ((f_X11_isName a1 p1.2).bind fun p5 => (if p5.1 = 0 then ((f_X11_no (0 : Int32) (1 : Int32) p5.2).bind fun p6 => (if p6.1 = 0 then (if a0 ≤ a1 then ((f_X11_no (0 : Int32) (2 : Int32) p6.2).bind fun p7 => (if p7.1 = 0 then none else (some ((0 : Int32), p7.2)))) else ((f_X11_no (1 : Int32) (2 : Int32) p6.2).bind fun p8 => (if p8.1 = 0 then none else (some ((0 : Int32), p8.2))))) else (some ((0 : Int32), p6.2)))) else ((f_X11_isCondition a2 p5.2).bind fun p9 => (if p9.1 = 0 then ((f_X11_no (0 : Int32) (1 : Int32) p9.2).bind fun p10 => (if p10.1 = 0 then (if a0 ≤ a1 then ((f_X11_no (0 : Int32) (2 : Int32) p10.2).bind fun p11 => (if p11.1 = 0 then none else (some ((0 : Int32), p11.2)))) else ((f_X11_no (1 : Int32) (2 : Int32) p10.2).bind fun p12 => (if p12.1 = 0 then none else (some ((0 : Int32), p12.2))))) else (some ((0 : Int32), p10.2)))) else ((f_X11_no (1 : Int32) (1 : Int32) p9.2).bind fun p13 => (if p13.1 = 0 then (if a0 ≤ a1 then ((f_X11_no (0 : Int32) (2 : Int32) p13.2).bind fun p14 => (if p14.1 = 0 then none else (some ((0 : Int32), p14.2)))) else ((f_X11_no (1 : Int32) (2 : Int32) p13.2).bind fun p15 => (if p15.1 = 0 then none else (some ((0 : Int32), p15.2))))) else (some ((0 : Int32), p13.2))))))))))
set_option maxHeartbeats 4000000 in
set_option maxRecDepth 100000 in
theorem gc_X11_pair (l : Launch) (G : gw_G) (a0 : Int32) (a1 : Int32) (a2 : Int32) (σ : gw_S) (o : (Int32 × gw_S)) (h : f_X11_pair a0 a1 a2 σ = some o) : gw_M (fun sz => gw_QI G sz o) l yX11_pair cX11_pair 7 (some .int) { frames := 2, cells := 0, slots := 0, locals := 43 } G [.ref (G.2.1 33), .int a0, .int a1, .int a2] σ := by
  refine gw_en (own := RX11) (lv := [(0, .ref (G.2.1 33)), (1, .int a0), (2, .int a1), (3, .int a2)]) (by decide +kernel) rfl (Nat.le_of_ble_eq_true rfl) rfl ?_
  intro p e s m below meth c ls X hl hP
  obtain ⟨hx, hb, hml, hown, hts, -, -, hT, hZ, -⟩ := id X
  have hS : va_S (gw_A G s.heap.size) s.heap s.heap [] := va_S.rf
  unfold f_X11_pair at h
  refine lv_aload_n hx hb dX11_pair_0 rfl (lv_at hl 0 rfl) ?_
  refine lv_aload_n hx hb dX11_pair_1 rfl (lv_at hl 0 rfl) ?_
  refine lv_iload_n hx hb dX11_pair_2 rfl (lv_at hl 1 rfl) ?_
  obtain ⟨p1, gp1, h⟩ := Option.bind_eq_some_iff.mp h
  refine gw_cz (gw_rV (C := RX11) X hP hS (gc_X11_isName l G a0 σ _ gp1) gk_X11_isName gv_1518 ⟨gv_1520, gv_s35⟩ (va_recv hT.2.1 hP (ci := 13) (q0 := 33) rfl rfl) rfl rfl (Nat.le_of_ble_eq_true rfl) hl.1 ⟨rfl, rfl⟩ ⟨Nat.le_of_ble_eq_true rfl, Nat.le_of_ble_eq_true rfl⟩ ⟨Nat.le_of_ble_eq_true rfl, Nat.le_of_ble_eq_true rfl⟩ dX11_pair_3) hS (fun H locs hb_p1 hP hS => ?_)
  refine lv_if_eq (tgt := 29) hx hb dX11_pair_6 (by decide) (fun c => ?_) (fun c => ?_)
  · have h := (if_pos c).symm.trans h
    refine lv_iconst (v := 0) hx hb dX11_pair_29 (by decide) ?_
    refine lv_iconst (v := 1) hx hb dX11_pair_30 (by decide) ?_
    obtain ⟨p2, gp2, h⟩ := Option.bind_eq_some_iff.mp h
    refine gw_cz (gw_rV (C := RX11) X hP hS (gc_X11_no l G (0 : Int32) (1 : Int32) p1.2 _ gp2) gk_X11_no gv_1209 ⟨gv_1211, gv_s22⟩ (va_recv hT.2.1 hP (ci := 13) (q0 := 33) rfl rfl) rfl rfl (Nat.le_of_ble_eq_true rfl) hl.1 ⟨rfl, rfl⟩ ⟨Nat.le_of_ble_eq_true rfl, Nat.le_of_ble_eq_true rfl⟩ ⟨Nat.le_of_ble_eq_true rfl, Nat.le_of_ble_eq_true rfl⟩ dX11_pair_31) hS (fun H locs hb_p2 hP hS => ?_)
    refine lv_if_ne (tgt := 55) hx hb dX11_pair_34 (by decide) (fun c => ?_) (fun c => ?_)
    · have h := (if_neg c).symm.trans h
      refine lv_iconst (v := 0) hx hb dX11_pair_55 (by decide) ?_
      exact gw_ri X hP hS h dX11_pair_56
    · have h := (if_pos c).symm.trans h
      refine lv_aload_n hx hb dX11_pair_37 rfl (lv_at hl 0 rfl) ?_
      refine lv_iload_n hx hb dX11_pair_38 rfl (lv_at hl 2 rfl) ?_
      refine lv_iload_n hx hb dX11_pair_39 rfl (lv_at hl 1 rfl) ?_
      refine lv_icmp_ge (tgt := 47) hx hb dX11_pair_40 (by decide) (fun c => ?_) (fun c => ?_)
      · have h := (if_pos c).symm.trans h
        refine lv_iconst (v := 0) hx hb dX11_pair_47 (by decide) ?_
        refine lv_iconst (v := 2) hx hb dX11_pair_48 (by decide) ?_
        obtain ⟨p3, gp3, h⟩ := Option.bind_eq_some_iff.mp h
        refine gw_cz (gw_rV (C := RX11) X hP hS (gc_X11_no l G (0 : Int32) (2 : Int32) p2.2 _ gp3) gk_X11_no gv_1209 ⟨gv_1211, gv_s22⟩ (va_recv hT.2.1 hP (ci := 13) (q0 := 33) rfl rfl) rfl rfl (Nat.le_of_ble_eq_true rfl) hl.1 ⟨rfl, rfl⟩ ⟨Nat.le_of_ble_eq_true rfl, Nat.le_of_ble_eq_true rfl⟩ ⟨Nat.le_of_ble_eq_true rfl, Nat.le_of_ble_eq_true rfl⟩ dX11_pair_49) hS (fun H locs hb_p3 hP hS => ?_)
        refine lv_if_eq (tgt := 57) hx hb dX11_pair_52 (by decide) (fun c => ?_) (fun c => ?_)
        · have h := (if_pos c).symm.trans h
          refine lv_aload_n hx hb dX11_pair_57 rfl (lv_at hl 0 rfl) ?_
          refine va_get (D := G.1) (ci := 13) (v := .ref (G.2.1 35)) (C := RX11) (T := TX11) (N := 5) hx hb hts gx_X11 hown hT.2.1 hP 33 rfl rfl 1 (by decide) (hts _ gv_1176) (fun _ h9 => h9) rfl dX11_pair_58 ?_
          refine lv_iload_n hx hb dX11_pair_61 rfl (lv_at hl 1 rfl) ?_
          exact absurd h (fun h => nomatch h)
        · have h := (if_neg c).symm.trans h
          refine lv_iconst (v := 0) hx hb dX11_pair_55 (by decide) ?_
          exact gw_ri X hP hS h dX11_pair_56
      · have h := (if_neg c).symm.trans h
        refine lv_iconst (v := 1) hx hb dX11_pair_43 (by decide) ?_
        refine lv_goto (tgt := 48) hx hb dX11_pair_44 (by decide) ?_
        refine lv_iconst (v := 2) hx hb dX11_pair_48 (by decide) ?_
        obtain ⟨p4, gp4, h⟩ := Option.bind_eq_some_iff.mp h
        refine gw_cz (gw_rV (C := RX11) X hP hS (gc_X11_no l G (1 : Int32) (2 : Int32) p2.2 _ gp4) gk_X11_no gv_1209 ⟨gv_1211, gv_s22⟩ (va_recv hT.2.1 hP (ci := 13) (q0 := 33) rfl rfl) rfl rfl (Nat.le_of_ble_eq_true rfl) hl.1 ⟨rfl, rfl⟩ ⟨Nat.le_of_ble_eq_true rfl, Nat.le_of_ble_eq_true rfl⟩ ⟨Nat.le_of_ble_eq_true rfl, Nat.le_of_ble_eq_true rfl⟩ dX11_pair_49) hS (fun H locs hb_p4 hP hS => ?_)
        refine lv_if_eq (tgt := 57) hx hb dX11_pair_52 (by decide) (fun c => ?_) (fun c => ?_)
        · have h := (if_pos c).symm.trans h
          refine lv_aload_n hx hb dX11_pair_57 rfl (lv_at hl 0 rfl) ?_
          refine va_get (D := G.1) (ci := 13) (v := .ref (G.2.1 35)) (C := RX11) (T := TX11) (N := 5) hx hb hts gx_X11 hown hT.2.1 hP 33 rfl rfl 1 (by decide) (hts _ gv_1176) (fun _ h9 => h9) rfl dX11_pair_58 ?_
          refine lv_iload_n hx hb dX11_pair_61 rfl (lv_at hl 1 rfl) ?_
          exact absurd h (fun h => nomatch h)
        · have h := (if_neg c).symm.trans h
          refine lv_iconst (v := 0) hx hb dX11_pair_55 (by decide) ?_
          exact gw_ri X hP hS h dX11_pair_56
  · have h := (if_neg c).symm.trans h
    refine lv_aload_n hx hb dX11_pair_9 rfl (lv_at hl 0 rfl) ?_
    refine lv_iload_n hx hb dX11_pair_10 rfl (lv_at hl 2 rfl) ?_
    obtain ⟨p5, gp5, h⟩ := Option.bind_eq_some_iff.mp h
    refine gw_cz (gw_rV (C := RX11) X hP hS (gc_X11_isName l G a1 p1.2 _ gp5) gk_X11_isName gv_1518 ⟨gv_1520, gv_s35⟩ (va_recv hT.2.1 hP (ci := 13) (q0 := 33) rfl rfl) rfl rfl (Nat.le_of_ble_eq_true rfl) hl.1 ⟨rfl, rfl⟩ ⟨Nat.le_of_ble_eq_true rfl, Nat.le_of_ble_eq_true rfl⟩ ⟨Nat.le_of_ble_eq_true rfl, Nat.le_of_ble_eq_true rfl⟩ dX11_pair_11) hS (fun H locs hb_p5 hP hS => ?_)
    refine lv_if_eq (tgt := 29) hx hb dX11_pair_14 (by decide) (fun c => ?_) (fun c => ?_)
    · have h := (if_pos c).symm.trans h
      refine lv_iconst (v := 0) hx hb dX11_pair_29 (by decide) ?_
      refine lv_iconst (v := 1) hx hb dX11_pair_30 (by decide) ?_
      obtain ⟨p6, gp6, h⟩ := Option.bind_eq_some_iff.mp h
      refine gw_cz (gw_rV (C := RX11) X hP hS (gc_X11_no l G (0 : Int32) (1 : Int32) p5.2 _ gp6) gk_X11_no gv_1209 ⟨gv_1211, gv_s22⟩ (va_recv hT.2.1 hP (ci := 13) (q0 := 33) rfl rfl) rfl rfl (Nat.le_of_ble_eq_true rfl) hl.1 ⟨rfl, rfl⟩ ⟨Nat.le_of_ble_eq_true rfl, Nat.le_of_ble_eq_true rfl⟩ ⟨Nat.le_of_ble_eq_true rfl, Nat.le_of_ble_eq_true rfl⟩ dX11_pair_31) hS (fun H locs hb_p6 hP hS => ?_)
      refine lv_if_ne (tgt := 55) hx hb dX11_pair_34 (by decide) (fun c => ?_) (fun c => ?_)
      · have h := (if_neg c).symm.trans h
        refine lv_iconst (v := 0) hx hb dX11_pair_55 (by decide) ?_
        exact gw_ri X hP hS h dX11_pair_56
      · have h := (if_pos c).symm.trans h
        refine lv_aload_n hx hb dX11_pair_37 rfl (lv_at hl 0 rfl) ?_
        refine lv_iload_n hx hb dX11_pair_38 rfl (lv_at hl 2 rfl) ?_
        refine lv_iload_n hx hb dX11_pair_39 rfl (lv_at hl 1 rfl) ?_
        refine lv_icmp_ge (tgt := 47) hx hb dX11_pair_40 (by decide) (fun c => ?_) (fun c => ?_)
        · have h := (if_pos c).symm.trans h
          refine lv_iconst (v := 0) hx hb dX11_pair_47 (by decide) ?_
          refine lv_iconst (v := 2) hx hb dX11_pair_48 (by decide) ?_
          obtain ⟨p7, gp7, h⟩ := Option.bind_eq_some_iff.mp h
          refine gw_cz (gw_rV (C := RX11) X hP hS (gc_X11_no l G (0 : Int32) (2 : Int32) p6.2 _ gp7) gk_X11_no gv_1209 ⟨gv_1211, gv_s22⟩ (va_recv hT.2.1 hP (ci := 13) (q0 := 33) rfl rfl) rfl rfl (Nat.le_of_ble_eq_true rfl) hl.1 ⟨rfl, rfl⟩ ⟨Nat.le_of_ble_eq_true rfl, Nat.le_of_ble_eq_true rfl⟩ ⟨Nat.le_of_ble_eq_true rfl, Nat.le_of_ble_eq_true rfl⟩ dX11_pair_49) hS (fun H locs hb_p7 hP hS => ?_)
          refine lv_if_eq (tgt := 57) hx hb dX11_pair_52 (by decide) (fun c => ?_) (fun c => ?_)
          · have h := (if_pos c).symm.trans h
            refine lv_aload_n hx hb dX11_pair_57 rfl (lv_at hl 0 rfl) ?_
            refine va_get (D := G.1) (ci := 13) (v := .ref (G.2.1 35)) (C := RX11) (T := TX11) (N := 5) hx hb hts gx_X11 hown hT.2.1 hP 33 rfl rfl 1 (by decide) (hts _ gv_1176) (fun _ h9 => h9) rfl dX11_pair_58 ?_
            refine lv_iload_n hx hb dX11_pair_61 rfl (lv_at hl 1 rfl) ?_
            exact absurd h (fun h => nomatch h)
          · have h := (if_neg c).symm.trans h
            refine lv_iconst (v := 0) hx hb dX11_pair_55 (by decide) ?_
            exact gw_ri X hP hS h dX11_pair_56
        · have h := (if_neg c).symm.trans h
          refine lv_iconst (v := 1) hx hb dX11_pair_43 (by decide) ?_
          refine lv_goto (tgt := 48) hx hb dX11_pair_44 (by decide) ?_
          refine lv_iconst (v := 2) hx hb dX11_pair_48 (by decide) ?_
          obtain ⟨p8, gp8, h⟩ := Option.bind_eq_some_iff.mp h
          refine gw_cz (gw_rV (C := RX11) X hP hS (gc_X11_no l G (1 : Int32) (2 : Int32) p6.2 _ gp8) gk_X11_no gv_1209 ⟨gv_1211, gv_s22⟩ (va_recv hT.2.1 hP (ci := 13) (q0 := 33) rfl rfl) rfl rfl (Nat.le_of_ble_eq_true rfl) hl.1 ⟨rfl, rfl⟩ ⟨Nat.le_of_ble_eq_true rfl, Nat.le_of_ble_eq_true rfl⟩ ⟨Nat.le_of_ble_eq_true rfl, Nat.le_of_ble_eq_true rfl⟩ dX11_pair_49) hS (fun H locs hb_p8 hP hS => ?_)
          refine lv_if_eq (tgt := 57) hx hb dX11_pair_52 (by decide) (fun c => ?_) (fun c => ?_)
          · have h := (if_pos c).symm.trans h
            refine lv_aload_n hx hb dX11_pair_57 rfl (lv_at hl 0 rfl) ?_
            refine va_get (D := G.1) (ci := 13) (v := .ref (G.2.1 35)) (C := RX11) (T := TX11) (N := 5) hx hb hts gx_X11 hown hT.2.1 hP 33 rfl rfl 1 (by decide) (hts _ gv_1176) (fun _ h9 => h9) rfl dX11_pair_58 ?_
            refine lv_iload_n hx hb dX11_pair_61 rfl (lv_at hl 1 rfl) ?_
            exact absurd h (fun h => nomatch h)
          · have h := (if_neg c).symm.trans h
            refine lv_iconst (v := 0) hx hb dX11_pair_55 (by decide) ?_
            exact gw_ri X hP hS h dX11_pair_56
    · have h := (if_neg c).symm.trans h
      refine lv_aload_n hx hb dX11_pair_17 rfl (lv_at hl 0 rfl) ?_
      refine lv_iload_n hx hb dX11_pair_18 rfl (lv_at hl 3 rfl) ?_
      obtain ⟨p9, gp9, h⟩ := Option.bind_eq_some_iff.mp h
      refine gw_cz (gw_rV (C := RX11) X hP hS (gc_X11_isCondition l G a2 p5.2 _ gp9) gk_X11_isCondition gv_1306 ⟨gv_1308, gv_s26⟩ (va_recv hT.2.1 hP (ci := 13) (q0 := 33) rfl rfl) rfl rfl (Nat.le_of_ble_eq_true rfl) hl.1 ⟨rfl, rfl⟩ ⟨Nat.le_of_ble_eq_true rfl, Nat.le_of_ble_eq_true rfl⟩ ⟨Nat.le_of_ble_eq_true rfl, Nat.le_of_ble_eq_true rfl⟩ dX11_pair_19) hS (fun H locs hb_p9 hP hS => ?_)
      refine lv_if_eq (tgt := 29) hx hb dX11_pair_22 (by decide) (fun c => ?_) (fun c => ?_)
      · have h := (if_pos c).symm.trans h
        refine lv_iconst (v := 0) hx hb dX11_pair_29 (by decide) ?_
        refine lv_iconst (v := 1) hx hb dX11_pair_30 (by decide) ?_
        obtain ⟨p10, gp10, h⟩ := Option.bind_eq_some_iff.mp h
        refine gw_cz (gw_rV (C := RX11) X hP hS (gc_X11_no l G (0 : Int32) (1 : Int32) p9.2 _ gp10) gk_X11_no gv_1209 ⟨gv_1211, gv_s22⟩ (va_recv hT.2.1 hP (ci := 13) (q0 := 33) rfl rfl) rfl rfl (Nat.le_of_ble_eq_true rfl) hl.1 ⟨rfl, rfl⟩ ⟨Nat.le_of_ble_eq_true rfl, Nat.le_of_ble_eq_true rfl⟩ ⟨Nat.le_of_ble_eq_true rfl, Nat.le_of_ble_eq_true rfl⟩ dX11_pair_31) hS (fun H locs hb_p10 hP hS => ?_)
        refine lv_if_ne (tgt := 55) hx hb dX11_pair_34 (by decide) (fun c => ?_) (fun c => ?_)
        · have h := (if_neg c).symm.trans h
          refine lv_iconst (v := 0) hx hb dX11_pair_55 (by decide) ?_
          exact gw_ri X hP hS h dX11_pair_56
        · have h := (if_pos c).symm.trans h
          refine lv_aload_n hx hb dX11_pair_37 rfl (lv_at hl 0 rfl) ?_
          refine lv_iload_n hx hb dX11_pair_38 rfl (lv_at hl 2 rfl) ?_
          refine lv_iload_n hx hb dX11_pair_39 rfl (lv_at hl 1 rfl) ?_
          refine lv_icmp_ge (tgt := 47) hx hb dX11_pair_40 (by decide) (fun c => ?_) (fun c => ?_)
          · have h := (if_pos c).symm.trans h
            refine lv_iconst (v := 0) hx hb dX11_pair_47 (by decide) ?_
            refine lv_iconst (v := 2) hx hb dX11_pair_48 (by decide) ?_
            obtain ⟨p11, gp11, h⟩ := Option.bind_eq_some_iff.mp h
            refine gw_cz (gw_rV (C := RX11) X hP hS (gc_X11_no l G (0 : Int32) (2 : Int32) p10.2 _ gp11) gk_X11_no gv_1209 ⟨gv_1211, gv_s22⟩ (va_recv hT.2.1 hP (ci := 13) (q0 := 33) rfl rfl) rfl rfl (Nat.le_of_ble_eq_true rfl) hl.1 ⟨rfl, rfl⟩ ⟨Nat.le_of_ble_eq_true rfl, Nat.le_of_ble_eq_true rfl⟩ ⟨Nat.le_of_ble_eq_true rfl, Nat.le_of_ble_eq_true rfl⟩ dX11_pair_49) hS (fun H locs hb_p11 hP hS => ?_)
            refine lv_if_eq (tgt := 57) hx hb dX11_pair_52 (by decide) (fun c => ?_) (fun c => ?_)
            · have h := (if_pos c).symm.trans h
              refine lv_aload_n hx hb dX11_pair_57 rfl (lv_at hl 0 rfl) ?_
              refine va_get (D := G.1) (ci := 13) (v := .ref (G.2.1 35)) (C := RX11) (T := TX11) (N := 5) hx hb hts gx_X11 hown hT.2.1 hP 33 rfl rfl 1 (by decide) (hts _ gv_1176) (fun _ h9 => h9) rfl dX11_pair_58 ?_
              refine lv_iload_n hx hb dX11_pair_61 rfl (lv_at hl 1 rfl) ?_
              exact absurd h (fun h => nomatch h)
            · have h := (if_neg c).symm.trans h
              refine lv_iconst (v := 0) hx hb dX11_pair_55 (by decide) ?_
              exact gw_ri X hP hS h dX11_pair_56
          · have h := (if_neg c).symm.trans h
            refine lv_iconst (v := 1) hx hb dX11_pair_43 (by decide) ?_
            refine lv_goto (tgt := 48) hx hb dX11_pair_44 (by decide) ?_
            refine lv_iconst (v := 2) hx hb dX11_pair_48 (by decide) ?_
            obtain ⟨p12, gp12, h⟩ := Option.bind_eq_some_iff.mp h
            refine gw_cz (gw_rV (C := RX11) X hP hS (gc_X11_no l G (1 : Int32) (2 : Int32) p10.2 _ gp12) gk_X11_no gv_1209 ⟨gv_1211, gv_s22⟩ (va_recv hT.2.1 hP (ci := 13) (q0 := 33) rfl rfl) rfl rfl (Nat.le_of_ble_eq_true rfl) hl.1 ⟨rfl, rfl⟩ ⟨Nat.le_of_ble_eq_true rfl, Nat.le_of_ble_eq_true rfl⟩ ⟨Nat.le_of_ble_eq_true rfl, Nat.le_of_ble_eq_true rfl⟩ dX11_pair_49) hS (fun H locs hb_p12 hP hS => ?_)
            refine lv_if_eq (tgt := 57) hx hb dX11_pair_52 (by decide) (fun c => ?_) (fun c => ?_)
            · have h := (if_pos c).symm.trans h
              refine lv_aload_n hx hb dX11_pair_57 rfl (lv_at hl 0 rfl) ?_
              refine va_get (D := G.1) (ci := 13) (v := .ref (G.2.1 35)) (C := RX11) (T := TX11) (N := 5) hx hb hts gx_X11 hown hT.2.1 hP 33 rfl rfl 1 (by decide) (hts _ gv_1176) (fun _ h9 => h9) rfl dX11_pair_58 ?_
              refine lv_iload_n hx hb dX11_pair_61 rfl (lv_at hl 1 rfl) ?_
              exact absurd h (fun h => nomatch h)
            · have h := (if_neg c).symm.trans h
              refine lv_iconst (v := 0) hx hb dX11_pair_55 (by decide) ?_
              exact gw_ri X hP hS h dX11_pair_56
      · have h := (if_neg c).symm.trans h
        refine lv_iconst (v := 1) hx hb dX11_pair_25 (by decide) ?_
        refine lv_goto (tgt := 30) hx hb dX11_pair_26 (by decide) ?_
        refine lv_iconst (v := 1) hx hb dX11_pair_30 (by decide) ?_
        obtain ⟨p13, gp13, h⟩ := Option.bind_eq_some_iff.mp h
        refine gw_cz (gw_rV (C := RX11) X hP hS (gc_X11_no l G (1 : Int32) (1 : Int32) p9.2 _ gp13) gk_X11_no gv_1209 ⟨gv_1211, gv_s22⟩ (va_recv hT.2.1 hP (ci := 13) (q0 := 33) rfl rfl) rfl rfl (Nat.le_of_ble_eq_true rfl) hl.1 ⟨rfl, rfl⟩ ⟨Nat.le_of_ble_eq_true rfl, Nat.le_of_ble_eq_true rfl⟩ ⟨Nat.le_of_ble_eq_true rfl, Nat.le_of_ble_eq_true rfl⟩ dX11_pair_31) hS (fun H locs hb_p13 hP hS => ?_)
        refine lv_if_ne (tgt := 55) hx hb dX11_pair_34 (by decide) (fun c => ?_) (fun c => ?_)
        · have h := (if_neg c).symm.trans h
          refine lv_iconst (v := 0) hx hb dX11_pair_55 (by decide) ?_
          exact gw_ri X hP hS h dX11_pair_56
        · have h := (if_pos c).symm.trans h
          refine lv_aload_n hx hb dX11_pair_37 rfl (lv_at hl 0 rfl) ?_
          refine lv_iload_n hx hb dX11_pair_38 rfl (lv_at hl 2 rfl) ?_
          refine lv_iload_n hx hb dX11_pair_39 rfl (lv_at hl 1 rfl) ?_
          refine lv_icmp_ge (tgt := 47) hx hb dX11_pair_40 (by decide) (fun c => ?_) (fun c => ?_)
          · have h := (if_pos c).symm.trans h
            refine lv_iconst (v := 0) hx hb dX11_pair_47 (by decide) ?_
            refine lv_iconst (v := 2) hx hb dX11_pair_48 (by decide) ?_
            obtain ⟨p14, gp14, h⟩ := Option.bind_eq_some_iff.mp h
            refine gw_cz (gw_rV (C := RX11) X hP hS (gc_X11_no l G (0 : Int32) (2 : Int32) p13.2 _ gp14) gk_X11_no gv_1209 ⟨gv_1211, gv_s22⟩ (va_recv hT.2.1 hP (ci := 13) (q0 := 33) rfl rfl) rfl rfl (Nat.le_of_ble_eq_true rfl) hl.1 ⟨rfl, rfl⟩ ⟨Nat.le_of_ble_eq_true rfl, Nat.le_of_ble_eq_true rfl⟩ ⟨Nat.le_of_ble_eq_true rfl, Nat.le_of_ble_eq_true rfl⟩ dX11_pair_49) hS (fun H locs hb_p14 hP hS => ?_)
            refine lv_if_eq (tgt := 57) hx hb dX11_pair_52 (by decide) (fun c => ?_) (fun c => ?_)
            · have h := (if_pos c).symm.trans h
              refine lv_aload_n hx hb dX11_pair_57 rfl (lv_at hl 0 rfl) ?_
              refine va_get (D := G.1) (ci := 13) (v := .ref (G.2.1 35)) (C := RX11) (T := TX11) (N := 5) hx hb hts gx_X11 hown hT.2.1 hP 33 rfl rfl 1 (by decide) (hts _ gv_1176) (fun _ h9 => h9) rfl dX11_pair_58 ?_
              refine lv_iload_n hx hb dX11_pair_61 rfl (lv_at hl 1 rfl) ?_
              exact absurd h (fun h => nomatch h)
            · have h := (if_neg c).symm.trans h
              refine lv_iconst (v := 0) hx hb dX11_pair_55 (by decide) ?_
              exact gw_ri X hP hS h dX11_pair_56
          · have h := (if_neg c).symm.trans h
            refine lv_iconst (v := 1) hx hb dX11_pair_43 (by decide) ?_
            refine lv_goto (tgt := 48) hx hb dX11_pair_44 (by decide) ?_
            refine lv_iconst (v := 2) hx hb dX11_pair_48 (by decide) ?_
            obtain ⟨p15, gp15, h⟩ := Option.bind_eq_some_iff.mp h
            refine gw_cz (gw_rV (C := RX11) X hP hS (gc_X11_no l G (1 : Int32) (2 : Int32) p13.2 _ gp15) gk_X11_no gv_1209 ⟨gv_1211, gv_s22⟩ (va_recv hT.2.1 hP (ci := 13) (q0 := 33) rfl rfl) rfl rfl (Nat.le_of_ble_eq_true rfl) hl.1 ⟨rfl, rfl⟩ ⟨Nat.le_of_ble_eq_true rfl, Nat.le_of_ble_eq_true rfl⟩ ⟨Nat.le_of_ble_eq_true rfl, Nat.le_of_ble_eq_true rfl⟩ dX11_pair_49) hS (fun H locs hb_p15 hP hS => ?_)
            refine lv_if_eq (tgt := 57) hx hb dX11_pair_52 (by decide) (fun c => ?_) (fun c => ?_)
            · have h := (if_pos c).symm.trans h
              refine lv_aload_n hx hb dX11_pair_57 rfl (lv_at hl 0 rfl) ?_
              refine va_get (D := G.1) (ci := 13) (v := .ref (G.2.1 35)) (C := RX11) (T := TX11) (N := 5) hx hb hts gx_X11 hown hT.2.1 hP 33 rfl rfl 1 (by decide) (hts _ gv_1176) (fun _ h9 => h9) rfl dX11_pair_58 ?_
              refine lv_iload_n hx hb dX11_pair_61 rfl (lv_at hl 1 rfl) ?_
              exact absurd h (fun h => nomatch h)
            · have h := (if_neg c).symm.trans h
              refine lv_iconst (v := 0) hx hb dX11_pair_55 (by decide) ?_
              exact gw_ri X hP hS h dX11_pair_56
def f_X11_unpair (a0 : Int32) (σ : gw_S) : Option (Int32 × gw_S) := ((f_X11_isName a0 σ).bind fun p1 => ((f_X11_no p1.1 (1 : Int32) p1.2).bind fun p2 => (if p2.1 = 0 then none else (some ((0 : Int32), p2.2)))))
set_option maxHeartbeats 4000000 in
set_option maxRecDepth 100000 in
theorem gc_X11_unpair (l : Launch) (G : gw_G) (a0 : Int32) (σ : gw_S) (o : (Int32 × gw_S)) (h : f_X11_unpair a0 σ = some o) : gw_M (fun sz => gw_QI G sz o) l yX11_unpair cX11_unpair 3 (some .int) { frames := 2, cells := 0, slots := 0, locals := 43 } G [.ref (G.2.1 33), .int a0] σ := by
  refine gw_en (own := RX11) (lv := [(0, .ref (G.2.1 33)), (1, .int a0)]) (by decide +kernel) rfl (Nat.le_of_ble_eq_true rfl) rfl ?_
  intro p e s m below meth c ls X hl hP
  obtain ⟨hx, hb, hml, hown, hts, -, -, hT, hZ, -⟩ := id X
  have hS : va_S (gw_A G s.heap.size) s.heap s.heap [] := va_S.rf
  unfold f_X11_unpair at h
  refine lv_aload_n hx hb dX11_unpair_0 rfl (lv_at hl 0 rfl) ?_
  refine lv_aload_n hx hb dX11_unpair_1 rfl (lv_at hl 0 rfl) ?_
  refine lv_iload_n hx hb dX11_unpair_2 rfl (lv_at hl 1 rfl) ?_
  obtain ⟨p1, gp1, h⟩ := Option.bind_eq_some_iff.mp h
  refine gw_cz (gw_rV (C := RX11) X hP hS (gc_X11_isName l G a0 σ _ gp1) gk_X11_isName gv_1518 ⟨gv_1520, gv_s35⟩ (va_recv hT.2.1 hP (ci := 13) (q0 := 33) rfl rfl) rfl rfl (Nat.le_of_ble_eq_true rfl) hl.1 ⟨rfl, rfl⟩ ⟨Nat.le_of_ble_eq_true rfl, Nat.le_of_ble_eq_true rfl⟩ ⟨Nat.le_of_ble_eq_true rfl, Nat.le_of_ble_eq_true rfl⟩ dX11_unpair_3) hS (fun H locs hb_p1 hP hS => ?_)
  refine lv_iconst (v := 1) hx hb dX11_unpair_6 (by decide) ?_
  obtain ⟨p2, gp2, h⟩ := Option.bind_eq_some_iff.mp h
  refine gw_cz (gw_rV (C := RX11) X hP hS (gc_X11_no l G p1.1 (1 : Int32) p1.2 _ gp2) gk_X11_no gv_1209 ⟨gv_1211, gv_s22⟩ (va_recv hT.2.1 hP (ci := 13) (q0 := 33) rfl rfl) rfl rfl (Nat.le_of_ble_eq_true rfl) hl.1 ⟨rfl, rfl⟩ ⟨Nat.le_of_ble_eq_true rfl, Nat.le_of_ble_eq_true rfl⟩ ⟨Nat.le_of_ble_eq_true rfl, Nat.le_of_ble_eq_true rfl⟩ dX11_unpair_7) hS (fun H locs hb_p2 hP hS => ?_)
  refine lv_if_ne (tgt := 70) hx hb dX11_unpair_10 (by decide) (fun c => ?_) (fun c => ?_)
  · have h := (if_neg c).symm.trans h
    refine lv_iconst (v := 0) hx hb dX11_unpair_70 (by decide) ?_
    exact gw_ri X hP hS h dX11_unpair_71
  · have h := (if_pos c).symm.trans h
    refine lv_aload_n hx hb dX11_unpair_13 rfl (lv_at hl 0 rfl) ?_
    refine lv_aload_n hx hb dX11_unpair_14 rfl (lv_at hl 0 rfl) ?_
    refine va_get (D := G.1) (ci := 13) (v := .ref (G.2.1 35)) (C := RX11) (T := TX11) (N := 5) hx hb hts gx_X11 hown hT.2.1 hP 33 rfl rfl 1 (by decide) (hts _ gv_1176) (fun _ h9 => h9) rfl dX11_unpair_15 ?_
    refine lv_iload_n hx hb dX11_unpair_18 rfl (lv_at hl 1 rfl) ?_
    exact absurd h (fun h => nomatch h)
def f_X11_rank (a0 : Int32) (σ : gw_S) : Option (Int32 × gw_S) := ((f_X11_isName a0 σ).bind fun p1 => ((f_X11_no p1.1 (1 : Int32) p1.2).bind fun p2 => (if p2.1 = 0 then none else (some ((0 : Int32), p2.2)))))
set_option maxHeartbeats 4000000 in
set_option maxRecDepth 100000 in
theorem gc_X11_rank (l : Launch) (G : gw_G) (a0 : Int32) (σ : gw_S) (o : (Int32 × gw_S)) (h : f_X11_rank a0 σ = some o) : gw_M (fun sz => gw_QI G sz o) l yX11_rank cX11_rank 2 (some .int) { frames := 2, cells := 0, slots := 0, locals := 43 } G [.ref (G.2.1 33), .int a0] σ := by
  refine gw_en (own := RX11) (lv := [(0, .ref (G.2.1 33)), (1, .int a0)]) (by decide +kernel) rfl (Nat.le_of_ble_eq_true rfl) rfl ?_
  intro p e s m below meth c ls X hl hP
  obtain ⟨hx, hb, hml, hown, hts, -, -, hT, hZ, -⟩ := id X
  have hS : va_S (gw_A G s.heap.size) s.heap s.heap [] := va_S.rf
  unfold f_X11_rank at h
  refine lv_aload_n hx hb dX11_rank_0 rfl (lv_at hl 0 rfl) ?_
  refine lv_aload_n hx hb dX11_rank_1 rfl (lv_at hl 0 rfl) ?_
  refine lv_iload_n hx hb dX11_rank_2 rfl (lv_at hl 1 rfl) ?_
  obtain ⟨p1, gp1, h⟩ := Option.bind_eq_some_iff.mp h
  refine gw_cz (gw_rV (C := RX11) X hP hS (gc_X11_isName l G a0 σ _ gp1) gk_X11_isName gv_1518 ⟨gv_1520, gv_s35⟩ (va_recv hT.2.1 hP (ci := 13) (q0 := 33) rfl rfl) rfl rfl (Nat.le_of_ble_eq_true rfl) hl.1 ⟨rfl, rfl⟩ ⟨Nat.le_of_ble_eq_true rfl, Nat.le_of_ble_eq_true rfl⟩ ⟨Nat.le_of_ble_eq_true rfl, Nat.le_of_ble_eq_true rfl⟩ dX11_rank_3) hS (fun H locs hb_p1 hP hS => ?_)
  refine lv_iconst (v := 1) hx hb dX11_rank_6 (by decide) ?_
  obtain ⟨p2, gp2, h⟩ := Option.bind_eq_some_iff.mp h
  refine gw_cz (gw_rV (C := RX11) X hP hS (gc_X11_no l G p1.1 (1 : Int32) p1.2 _ gp2) gk_X11_no gv_1209 ⟨gv_1211, gv_s22⟩ (va_recv hT.2.1 hP (ci := 13) (q0 := 33) rfl rfl) rfl rfl (Nat.le_of_ble_eq_true rfl) hl.1 ⟨rfl, rfl⟩ ⟨Nat.le_of_ble_eq_true rfl, Nat.le_of_ble_eq_true rfl⟩ ⟨Nat.le_of_ble_eq_true rfl, Nat.le_of_ble_eq_true rfl⟩ dX11_rank_7) hS (fun H locs hb_p2 hP hS => ?_)
  refine lv_if_eq (tgt := 17) hx hb dX11_rank_10 (by decide) (fun c => ?_) (fun c => ?_)
  · have h := (if_pos c).symm.trans h
    refine lv_aload_n hx hb dX11_rank_17 rfl (lv_at hl 0 rfl) ?_
    refine lv_iload_n hx hb dX11_rank_18 rfl (lv_at hl 1 rfl) ?_
    exact absurd h (fun h => nomatch h)
  · have h := (if_neg c).symm.trans h
    refine lv_iconst (v := 0) hx hb dX11_rank_13 (by decide) ?_
    refine lv_goto (tgt := 22) hx hb dX11_rank_14 (by decide) ?_
    exact gw_ri X hP hS h dX11_rank_22
def f_X11_standard (a0 : Int32) (σ : gw_S) : Option (Int32 × gw_S) := ((f_X11_isIn a0 (0 : Int32) (15 : Int32) σ).bind fun p1 => ((f_X11_no p1.1 (1 : Int32) p1.2).bind fun p2 => (if p2.1 = 0 then ((f_Jx4a65c_isEmpty_aae02_34 p2.2).bind fun p3 => (if p3.1 = 0 then none else ((f_X11_no (0 : Int32) (2 : Int32) p3.2).bind fun p4 => (if p4.1 = 0 then ((f_Jx4a65c_size_8abf5_35 p4.2).bind fun p5 => none) else (some ((0 : Int32), p4.2)))))) else (some ((0 : Int32), p2.2)))))
set_option maxHeartbeats 4000000 in
set_option maxRecDepth 100000 in
theorem gc_X11_standard (l : Launch) (G : gw_G) (a0 : Int32) (σ : gw_S) (o : (Int32 × gw_S)) (h : f_X11_standard a0 σ = some o) : gw_M (fun sz => gw_QI G sz o) l yX11_standard cX11_standard 5 (some .int) { frames := 1, cells := 0, slots := 0, locals := 22 } G [.ref (G.2.1 33), .int a0] σ := by
  refine gw_en (own := RX11) (lv := [(0, .ref (G.2.1 33)), (1, .int a0)]) (by decide +kernel) rfl (Nat.le_of_ble_eq_true rfl) rfl ?_
  intro p e s m below meth c ls X hl hP
  obtain ⟨hx, hb, hml, hown, hts, -, -, hT, hZ, -⟩ := id X
  have hS : va_S (gw_A G s.heap.size) s.heap s.heap [] := va_S.rf
  unfold f_X11_standard at h
  refine lv_aload_n hx hb dX11_standard_0 rfl (lv_at hl 0 rfl) ?_
  refine lv_iload_n hx hb dX11_standard_1 rfl (lv_at hl 1 rfl) ?_
  refine lv_iconst (v := 0) hx hb dX11_standard_2 (by decide) ?_
  refine lv_bipush (v := 15) hx hb dX11_standard_3 (by decide) ?_
  obtain ⟨p1, gp1, h⟩ := Option.bind_eq_some_iff.mp h
  refine gw_cz (gw_rS X hP hS (gc_X11_isIn l G a0 (0 : Int32) (15 : Int32) σ _ gp1) gk_X11_isIn gv_1310 gv_1311 rfl rfl (Nat.le_of_ble_eq_true rfl) hl.1 ⟨rfl, rfl⟩ ⟨Nat.le_of_ble_eq_true rfl, Nat.le_of_ble_eq_true rfl⟩ ⟨Nat.le_of_ble_eq_true rfl, Nat.le_of_ble_eq_true rfl⟩ dX11_standard_5) hS (fun H locs hb_p1 hP hS => ?_)
  refine lv_iconst (v := 1) hx hb dX11_standard_8 (by decide) ?_
  obtain ⟨p2, gp2, h⟩ := Option.bind_eq_some_iff.mp h
  refine gw_cz (gw_rV (C := RX11) X hP hS (gc_X11_no l G p1.1 (1 : Int32) p1.2 _ gp2) gk_X11_no gv_1209 ⟨gv_1211, gv_s22⟩ (va_recv hT.2.1 hP (ci := 13) (q0 := 33) rfl rfl) rfl rfl (Nat.le_of_ble_eq_true rfl) hl.1 ⟨rfl, rfl⟩ ⟨Nat.le_of_ble_eq_true rfl, Nat.le_of_ble_eq_true rfl⟩ ⟨Nat.le_of_ble_eq_true rfl, Nat.le_of_ble_eq_true rfl⟩ dX11_standard_9) hS (fun H locs hb_p2 hP hS => ?_)
  refine lv_if_ne (tgt := 72) hx hb dX11_standard_12 (by decide) (fun c => ?_) (fun c => ?_)
  · have h := (if_neg c).symm.trans h
    refine lv_iconst (v := 0) hx hb dX11_standard_72 (by decide) ?_
    exact gw_ri X hP hS h dX11_standard_73
  · have h := (if_pos c).symm.trans h
    refine lv_aload_n hx hb dX11_standard_15 rfl (lv_at hl 0 rfl) ?_
    refine lv_aload_n hx hb dX11_standard_16 rfl (lv_at hl 0 rfl) ?_
    refine va_get (D := G.1) (ci := 13) (v := .ref (G.2.1 34)) (C := RX11) (T := TX11) (N := 5) hx hb hts gx_X11 hown hT.2.1 hP 33 rfl rfl 0 (by decide) (hts _ gv_1175) (fun _ h9 => h9) rfl dX11_standard_17 ?_
    obtain ⟨p3, gp3, h⟩ := Option.bind_eq_some_iff.mp h
    refine gw_fz (gw_rF (x := ⟨"java/util/List", "isEmpty", "()Z"⟩) (C := RJx4a65c) X (hT.2.1.1 2 _ rfl).2 hP hS (gc_Jx4a65c_isEmpty_aae02_34 l G p2.2 _ gp3) gk_Jx4a65c_isEmpty_aae02 ⟨by decide +kernel, by decide +kernel⟩ gv_1549 ⟨gv_1552, gv_1554⟩ 1 rfl (va_recv hT.2.1 hP (ci := 2) (q0 := 34) rfl rfl) rfl rfl (Nat.le_of_ble_eq_true rfl) hl.1 ⟨rfl, rfl⟩ ⟨Nat.le_of_ble_eq_true rfl, Nat.le_of_ble_eq_true rfl⟩ ⟨Nat.le_of_ble_eq_true rfl, Nat.le_of_ble_eq_true rfl⟩ dX11_standard_20) hS (fun H locs hb_p3 hP hS => ?_)
    refine lv_if_ne (tgt := 64) hx hb dX11_standard_25 (by decide) (fun c => ?_) (fun c => ?_)
    · have h := (if_neg c).symm.trans h
      refine lv_iconst (v := 0) hx hb dX11_standard_64 (by decide) ?_
      refine lv_iconst (v := 2) hx hb dX11_standard_65 (by decide) ?_
      obtain ⟨p4, gp4, h⟩ := Option.bind_eq_some_iff.mp h
      refine gw_cz (gw_rV (C := RX11) X hP hS (gc_X11_no l G (0 : Int32) (2 : Int32) p3.2 _ gp4) gk_X11_no gv_1209 ⟨gv_1211, gv_s22⟩ (va_recv hT.2.1 hP (ci := 13) (q0 := 33) rfl rfl) rfl rfl (Nat.le_of_ble_eq_true rfl) hl.1 ⟨rfl, rfl⟩ ⟨Nat.le_of_ble_eq_true rfl, Nat.le_of_ble_eq_true rfl⟩ ⟨Nat.le_of_ble_eq_true rfl, Nat.le_of_ble_eq_true rfl⟩ dX11_standard_66) hS (fun H locs hb_p4 hP hS => ?_)
      refine lv_if_eq (tgt := 74) hx hb dX11_standard_69 (by decide) (fun c => ?_) (fun c => ?_)
      · have h := (if_pos c).symm.trans h
        refine lv_aload_n hx hb dX11_standard_74 rfl (lv_at hl 0 rfl) ?_
        refine va_get (D := G.1) (ci := 13) (v := .ref (G.2.1 35)) (C := RX11) (T := TX11) (N := 5) hx hb hts gx_X11 hown hT.2.1 hP 33 rfl rfl 1 (by decide) (hts _ gv_1176) (fun _ h9 => h9) rfl dX11_standard_75 ?_
        obtain ⟨p5, gp5, h⟩ := Option.bind_eq_some_iff.mp h
        refine gw_fi (gw_rF (x := ⟨"java/util/List", "size", "()I"⟩) (C := RJx4a65c) X (hT.2.1.1 2 _ rfl).2 hP hS (gc_Jx4a65c_size_8abf5_35 l G p4.2 _ gp5) gk_Jx4a65c_size_8abf5 ⟨by decide +kernel, by decide +kernel⟩ gv_1200 ⟨gv_1204, gv_1206⟩ 0 rfl (va_recv hT.2.1 hP (ci := 2) (q0 := 35) rfl rfl) rfl rfl (Nat.le_of_ble_eq_true rfl) hl.1 ⟨rfl, rfl⟩ ⟨Nat.le_of_ble_eq_true rfl, Nat.le_of_ble_eq_true rfl⟩ ⟨Nat.le_of_ble_eq_true rfl, Nat.le_of_ble_eq_true rfl⟩ dX11_standard_78) hS (fun H locs hP hS => ?_)
        refine lv_istore_n (lv' := [(2, .int p5.1), (0, .ref (G.2.1 33)), (1, .int a0)]) hx hb dX11_standard_83 rfl hl (by decide) rfl (fun ls hl => ?_)
        refine lv_aload_n hx hb dX11_standard_84 rfl (lv_at hl 1 rfl) ?_
        refine lv_iload_n hx hb dX11_standard_85 rfl (lv_at hl 2 rfl) ?_
        exact absurd h (fun h => nomatch h)
      · have h := (if_neg c).symm.trans h
        refine lv_iconst (v := 0) hx hb dX11_standard_72 (by decide) ?_
        exact gw_ri X hP hS h dX11_standard_73
    · have h := (if_pos c).symm.trans h
      refine lv_aload_n hx hb dX11_standard_28 rfl (lv_at hl 0 rfl) ?_
      refine va_get (D := G.1) (ci := 13) (v := .ref (G.2.1 34)) (C := RX11) (T := TX11) (N := 5) hx hb hts gx_X11 hown hT.2.1 hP 33 rfl rfl 0 (by decide) (hts _ gv_1175) (fun _ h9 => h9) rfl dX11_standard_29 ?_
      refine lv_iconst (v := 0) hx hb dX11_standard_32 (by decide) ?_
      exact absurd h (fun h => nomatch h)
def f_X11_becomes (a0 : Int32) (a1 : Int32) (σ : gw_S) : Option (Int32 × gw_S) := ((f_X11_isName a0 σ).bind fun p1 => ((f_X11_no p1.1 (1 : Int32) p1.2).bind fun p2 => (if p2.1 = 0 then ((f_X11_isWorld a1 p2.2).bind fun p3 => ((f_X11_no p3.1 (2 : Int32) p3.2).bind fun p4 => (if p4.1 = 0 then none else (some ((0 : Int32), p4.2))))) else (some ((0 : Int32), p2.2)))))
set_option maxHeartbeats 4000000 in
set_option maxRecDepth 100000 in
theorem gc_X11_becomes (l : Launch) (G : gw_G) (a0 : Int32) (a1 : Int32) (σ : gw_S) (o : (Int32 × gw_S)) (h : f_X11_becomes a0 a1 σ = some o) : gw_M (fun sz => gw_QI G sz o) l yX11_becomes cX11_becomes 3 (some .int) { frames := 3, cells := 0, slots := 0, locals := 64 } G [.ref (G.2.1 33), .int a0, .int a1] σ := by
  refine gw_en (own := RX11) (lv := [(0, .ref (G.2.1 33)), (1, .int a0), (2, .int a1)]) (by decide +kernel) rfl (Nat.le_of_ble_eq_true rfl) rfl ?_
  intro p e s m below meth c ls X hl hP
  obtain ⟨hx, hb, hml, hown, hts, -, -, hT, hZ, -⟩ := id X
  have hS : va_S (gw_A G s.heap.size) s.heap s.heap [] := va_S.rf
  unfold f_X11_becomes at h
  refine lv_aload_n hx hb dX11_becomes_0 rfl (lv_at hl 0 rfl) ?_
  refine lv_aload_n hx hb dX11_becomes_1 rfl (lv_at hl 0 rfl) ?_
  refine lv_iload_n hx hb dX11_becomes_2 rfl (lv_at hl 1 rfl) ?_
  obtain ⟨p1, gp1, h⟩ := Option.bind_eq_some_iff.mp h
  refine gw_cz (gw_rV (C := RX11) X hP hS (gc_X11_isName l G a0 σ _ gp1) gk_X11_isName gv_1518 ⟨gv_1520, gv_s35⟩ (va_recv hT.2.1 hP (ci := 13) (q0 := 33) rfl rfl) rfl rfl (Nat.le_of_ble_eq_true rfl) hl.1 ⟨rfl, rfl⟩ ⟨Nat.le_of_ble_eq_true rfl, Nat.le_of_ble_eq_true rfl⟩ ⟨Nat.le_of_ble_eq_true rfl, Nat.le_of_ble_eq_true rfl⟩ dX11_becomes_3) hS (fun H locs hb_p1 hP hS => ?_)
  refine lv_iconst (v := 1) hx hb dX11_becomes_6 (by decide) ?_
  obtain ⟨p2, gp2, h⟩ := Option.bind_eq_some_iff.mp h
  refine gw_cz (gw_rV (C := RX11) X hP hS (gc_X11_no l G p1.1 (1 : Int32) p1.2 _ gp2) gk_X11_no gv_1209 ⟨gv_1211, gv_s22⟩ (va_recv hT.2.1 hP (ci := 13) (q0 := 33) rfl rfl) rfl rfl (Nat.le_of_ble_eq_true rfl) hl.1 ⟨rfl, rfl⟩ ⟨Nat.le_of_ble_eq_true rfl, Nat.le_of_ble_eq_true rfl⟩ ⟨Nat.le_of_ble_eq_true rfl, Nat.le_of_ble_eq_true rfl⟩ dX11_becomes_7) hS (fun H locs hb_p2 hP hS => ?_)
  refine lv_if_ne (tgt := 26) hx hb dX11_becomes_10 (by decide) (fun c => ?_) (fun c => ?_)
  · have h := (if_neg c).symm.trans h
    refine lv_iconst (v := 0) hx hb dX11_becomes_26 (by decide) ?_
    refine lv_goto (tgt := 36) hx hb dX11_becomes_27 (by decide) ?_
    exact gw_ri X hP hS h dX11_becomes_36
  · have h := (if_pos c).symm.trans h
    refine lv_aload_n hx hb dX11_becomes_13 rfl (lv_at hl 0 rfl) ?_
    refine lv_aload_n hx hb dX11_becomes_14 rfl (lv_at hl 0 rfl) ?_
    refine lv_iload_n hx hb dX11_becomes_15 rfl (lv_at hl 2 rfl) ?_
    obtain ⟨p3, gp3, h⟩ := Option.bind_eq_some_iff.mp h
    refine gw_cz (gw_rV (C := RX11) X hP hS (gc_X11_isWorld l G a1 p2.2 _ gp3) gk_X11_isWorld gv_1489 ⟨gv_1491, gv_s34⟩ (va_recv hT.2.1 hP (ci := 13) (q0 := 33) rfl rfl) rfl rfl (Nat.le_of_ble_eq_true rfl) hl.1 ⟨rfl, rfl⟩ ⟨Nat.le_of_ble_eq_true rfl, Nat.le_of_ble_eq_true rfl⟩ ⟨Nat.le_of_ble_eq_true rfl, Nat.le_of_ble_eq_true rfl⟩ dX11_becomes_16) hS (fun H locs hb_p3 hP hS => ?_)
    refine lv_iconst (v := 2) hx hb dX11_becomes_19 (by decide) ?_
    obtain ⟨p4, gp4, h⟩ := Option.bind_eq_some_iff.mp h
    refine gw_cz (gw_rV (C := RX11) X hP hS (gc_X11_no l G p3.1 (2 : Int32) p3.2 _ gp4) gk_X11_no gv_1209 ⟨gv_1211, gv_s22⟩ (va_recv hT.2.1 hP (ci := 13) (q0 := 33) rfl rfl) rfl rfl (Nat.le_of_ble_eq_true rfl) hl.1 ⟨rfl, rfl⟩ ⟨Nat.le_of_ble_eq_true rfl, Nat.le_of_ble_eq_true rfl⟩ ⟨Nat.le_of_ble_eq_true rfl, Nat.le_of_ble_eq_true rfl⟩ dX11_becomes_20) hS (fun H locs hb_p4 hP hS => ?_)
    refine lv_if_eq (tgt := 30) hx hb dX11_becomes_23 (by decide) (fun c => ?_) (fun c => ?_)
    · have h := (if_pos c).symm.trans h
      refine lv_aload_n hx hb dX11_becomes_30 rfl (lv_at hl 0 rfl) ?_
      refine lv_iload_n hx hb dX11_becomes_31 rfl (lv_at hl 1 rfl) ?_
      refine lv_iload_n hx hb dX11_becomes_32 rfl (lv_at hl 2 rfl) ?_
      exact absurd h (fun h => nomatch h)
    · have h := (if_neg c).symm.trans h
      refine lv_iconst (v := 0) hx hb dX11_becomes_26 (by decide) ?_
      refine lv_goto (tgt := 36) hx hb dX11_becomes_27 (by decide) ?_
      exact gw_ri X hP hS h dX11_becomes_36
def f_X11_valueIn (a0 : Int32) (a1 : Int32) (σ : gw_S) : Option (Int32 × gw_S) := ((f_X11_isName a0 σ).bind fun p1 => (if p1.1 = 0 then ((f_X11_no (0 : Int32) (1 : Int32) p1.2).bind fun p2 => (if p2.1 = 0 then none else (some ((0 : Int32), p2.2)))) else ((f_X11_isName a1 p1.2).bind fun p3 => (if p3.1 = 0 then ((f_X11_no (0 : Int32) (1 : Int32) p3.2).bind fun p4 => (if p4.1 = 0 then none else (some ((0 : Int32), p4.2)))) else ((f_X11_no (1 : Int32) (1 : Int32) p3.2).bind fun p5 => (if p5.1 = 0 then none else (some ((0 : Int32), p5.2))))))))
set_option maxHeartbeats 4000000 in
set_option maxRecDepth 100000 in
theorem gc_X11_valueIn (l : Launch) (G : gw_G) (a0 : Int32) (a1 : Int32) (σ : gw_S) (o : (Int32 × gw_S)) (h : f_X11_valueIn a0 a1 σ = some o) : gw_M (fun sz => gw_QI G sz o) l yX11_valueIn cX11_valueIn 3 (some .int) { frames := 2, cells := 0, slots := 0, locals := 43 } G [.ref (G.2.1 33), .int a0, .int a1] σ := by
  refine gw_en (own := RX11) (lv := [(0, .ref (G.2.1 33)), (1, .int a0), (2, .int a1)]) (by decide +kernel) rfl (Nat.le_of_ble_eq_true rfl) rfl ?_
  intro p e s m below meth c ls X hl hP
  obtain ⟨hx, hb, hml, hown, hts, -, -, hT, hZ, -⟩ := id X
  have hS : va_S (gw_A G s.heap.size) s.heap s.heap [] := va_S.rf
  unfold f_X11_valueIn at h
  refine lv_aload_n hx hb dX11_valueIn_0 rfl (lv_at hl 0 rfl) ?_
  refine lv_aload_n hx hb dX11_valueIn_1 rfl (lv_at hl 0 rfl) ?_
  refine lv_iload_n hx hb dX11_valueIn_2 rfl (lv_at hl 1 rfl) ?_
  obtain ⟨p1, gp1, h⟩ := Option.bind_eq_some_iff.mp h
  refine gw_cz (gw_rV (C := RX11) X hP hS (gc_X11_isName l G a0 σ _ gp1) gk_X11_isName gv_1518 ⟨gv_1520, gv_s35⟩ (va_recv hT.2.1 hP (ci := 13) (q0 := 33) rfl rfl) rfl rfl (Nat.le_of_ble_eq_true rfl) hl.1 ⟨rfl, rfl⟩ ⟨Nat.le_of_ble_eq_true rfl, Nat.le_of_ble_eq_true rfl⟩ ⟨Nat.le_of_ble_eq_true rfl, Nat.le_of_ble_eq_true rfl⟩ dX11_valueIn_3) hS (fun H locs hb_p1 hP hS => ?_)
  refine lv_if_eq (tgt := 21) hx hb dX11_valueIn_6 (by decide) (fun c => ?_) (fun c => ?_)
  · have h := (if_pos c).symm.trans h
    refine lv_iconst (v := 0) hx hb dX11_valueIn_21 (by decide) ?_
    refine lv_iconst (v := 1) hx hb dX11_valueIn_22 (by decide) ?_
    obtain ⟨p2, gp2, h⟩ := Option.bind_eq_some_iff.mp h
    refine gw_cz (gw_rV (C := RX11) X hP hS (gc_X11_no l G (0 : Int32) (1 : Int32) p1.2 _ gp2) gk_X11_no gv_1209 ⟨gv_1211, gv_s22⟩ (va_recv hT.2.1 hP (ci := 13) (q0 := 33) rfl rfl) rfl rfl (Nat.le_of_ble_eq_true rfl) hl.1 ⟨rfl, rfl⟩ ⟨Nat.le_of_ble_eq_true rfl, Nat.le_of_ble_eq_true rfl⟩ ⟨Nat.le_of_ble_eq_true rfl, Nat.le_of_ble_eq_true rfl⟩ dX11_valueIn_23) hS (fun H locs hb_p2 hP hS => ?_)
    refine lv_if_eq (tgt := 33) hx hb dX11_valueIn_26 (by decide) (fun c => ?_) (fun c => ?_)
    · have h := (if_pos c).symm.trans h
      refine lv_aload_n hx hb dX11_valueIn_33 rfl (lv_at hl 0 rfl) ?_
      refine lv_iload_n hx hb dX11_valueIn_34 rfl (lv_at hl 1 rfl) ?_
      refine lv_iload_n hx hb dX11_valueIn_35 rfl (lv_at hl 2 rfl) ?_
      refine lv_iconst (v := 1) hx hb dX11_valueIn_36 (by decide) ?_
      exact absurd h (fun h => nomatch h)
    · have h := (if_neg c).symm.trans h
      refine lv_iconst (v := 0) hx hb dX11_valueIn_29 (by decide) ?_
      refine lv_goto (tgt := 40) hx hb dX11_valueIn_30 (by decide) ?_
      exact gw_ri X hP hS h dX11_valueIn_40
  · have h := (if_neg c).symm.trans h
    refine lv_aload_n hx hb dX11_valueIn_9 rfl (lv_at hl 0 rfl) ?_
    refine lv_iload_n hx hb dX11_valueIn_10 rfl (lv_at hl 2 rfl) ?_
    obtain ⟨p3, gp3, h⟩ := Option.bind_eq_some_iff.mp h
    refine gw_cz (gw_rV (C := RX11) X hP hS (gc_X11_isName l G a1 p1.2 _ gp3) gk_X11_isName gv_1518 ⟨gv_1520, gv_s35⟩ (va_recv hT.2.1 hP (ci := 13) (q0 := 33) rfl rfl) rfl rfl (Nat.le_of_ble_eq_true rfl) hl.1 ⟨rfl, rfl⟩ ⟨Nat.le_of_ble_eq_true rfl, Nat.le_of_ble_eq_true rfl⟩ ⟨Nat.le_of_ble_eq_true rfl, Nat.le_of_ble_eq_true rfl⟩ dX11_valueIn_11) hS (fun H locs hb_p3 hP hS => ?_)
    refine lv_if_eq (tgt := 21) hx hb dX11_valueIn_14 (by decide) (fun c => ?_) (fun c => ?_)
    · have h := (if_pos c).symm.trans h
      refine lv_iconst (v := 0) hx hb dX11_valueIn_21 (by decide) ?_
      refine lv_iconst (v := 1) hx hb dX11_valueIn_22 (by decide) ?_
      obtain ⟨p4, gp4, h⟩ := Option.bind_eq_some_iff.mp h
      refine gw_cz (gw_rV (C := RX11) X hP hS (gc_X11_no l G (0 : Int32) (1 : Int32) p3.2 _ gp4) gk_X11_no gv_1209 ⟨gv_1211, gv_s22⟩ (va_recv hT.2.1 hP (ci := 13) (q0 := 33) rfl rfl) rfl rfl (Nat.le_of_ble_eq_true rfl) hl.1 ⟨rfl, rfl⟩ ⟨Nat.le_of_ble_eq_true rfl, Nat.le_of_ble_eq_true rfl⟩ ⟨Nat.le_of_ble_eq_true rfl, Nat.le_of_ble_eq_true rfl⟩ dX11_valueIn_23) hS (fun H locs hb_p4 hP hS => ?_)
      refine lv_if_eq (tgt := 33) hx hb dX11_valueIn_26 (by decide) (fun c => ?_) (fun c => ?_)
      · have h := (if_pos c).symm.trans h
        refine lv_aload_n hx hb dX11_valueIn_33 rfl (lv_at hl 0 rfl) ?_
        refine lv_iload_n hx hb dX11_valueIn_34 rfl (lv_at hl 1 rfl) ?_
        refine lv_iload_n hx hb dX11_valueIn_35 rfl (lv_at hl 2 rfl) ?_
        refine lv_iconst (v := 1) hx hb dX11_valueIn_36 (by decide) ?_
        exact absurd h (fun h => nomatch h)
      · have h := (if_neg c).symm.trans h
        refine lv_iconst (v := 0) hx hb dX11_valueIn_29 (by decide) ?_
        refine lv_goto (tgt := 40) hx hb dX11_valueIn_30 (by decide) ?_
        exact gw_ri X hP hS h dX11_valueIn_40
    · have h := (if_neg c).symm.trans h
      refine lv_iconst (v := 1) hx hb dX11_valueIn_17 (by decide) ?_
      refine lv_goto (tgt := 22) hx hb dX11_valueIn_18 (by decide) ?_
      refine lv_iconst (v := 1) hx hb dX11_valueIn_22 (by decide) ?_
      obtain ⟨p5, gp5, h⟩ := Option.bind_eq_some_iff.mp h
      refine gw_cz (gw_rV (C := RX11) X hP hS (gc_X11_no l G (1 : Int32) (1 : Int32) p3.2 _ gp5) gk_X11_no gv_1209 ⟨gv_1211, gv_s22⟩ (va_recv hT.2.1 hP (ci := 13) (q0 := 33) rfl rfl) rfl rfl (Nat.le_of_ble_eq_true rfl) hl.1 ⟨rfl, rfl⟩ ⟨Nat.le_of_ble_eq_true rfl, Nat.le_of_ble_eq_true rfl⟩ ⟨Nat.le_of_ble_eq_true rfl, Nat.le_of_ble_eq_true rfl⟩ dX11_valueIn_23) hS (fun H locs hb_p5 hP hS => ?_)
      refine lv_if_eq (tgt := 33) hx hb dX11_valueIn_26 (by decide) (fun c => ?_) (fun c => ?_)
      · have h := (if_pos c).symm.trans h
        refine lv_aload_n hx hb dX11_valueIn_33 rfl (lv_at hl 0 rfl) ?_
        refine lv_iload_n hx hb dX11_valueIn_34 rfl (lv_at hl 1 rfl) ?_
        refine lv_iload_n hx hb dX11_valueIn_35 rfl (lv_at hl 2 rfl) ?_
        refine lv_iconst (v := 1) hx hb dX11_valueIn_36 (by decide) ?_
        exact absurd h (fun h => nomatch h)
      · have h := (if_neg c).symm.trans h
        refine lv_iconst (v := 0) hx hb dX11_valueIn_29 (by decide) ?_
        refine lv_goto (tgt := 40) hx hb dX11_valueIn_30 (by decide) ?_
        exact gw_ri X hP hS h dX11_valueIn_40
def f_X11_valueLike (a0 : Int32) (a1 : Int32) (σ : gw_S) : Option (Int32 × gw_S) := ((f_X11_isName a0 σ).bind fun p1 => (if p1.1 = 0 then ((f_X11_no (0 : Int32) (1 : Int32) p1.2).bind fun p2 => (if p2.1 = 0 then none else (some ((0 : Int32), p2.2)))) else ((f_X11_isName a1 p1.2).bind fun p3 => (if p3.1 = 0 then ((f_X11_no (0 : Int32) (1 : Int32) p3.2).bind fun p4 => (if p4.1 = 0 then none else (some ((0 : Int32), p4.2)))) else ((f_X11_no (1 : Int32) (1 : Int32) p3.2).bind fun p5 => (if p5.1 = 0 then none else (some ((0 : Int32), p5.2))))))))
set_option maxHeartbeats 4000000 in
set_option maxRecDepth 100000 in
theorem gc_X11_valueLike (l : Launch) (G : gw_G) (a0 : Int32) (a1 : Int32) (σ : gw_S) (o : (Int32 × gw_S)) (h : f_X11_valueLike a0 a1 σ = some o) : gw_M (fun sz => gw_QI G sz o) l yX11_valueLike cX11_valueLike 3 (some .int) { frames := 2, cells := 0, slots := 0, locals := 43 } G [.ref (G.2.1 33), .int a0, .int a1] σ := by
  refine gw_en (own := RX11) (lv := [(0, .ref (G.2.1 33)), (1, .int a0), (2, .int a1)]) (by decide +kernel) rfl (Nat.le_of_ble_eq_true rfl) rfl ?_
  intro p e s m below meth c ls X hl hP
  obtain ⟨hx, hb, hml, hown, hts, -, -, hT, hZ, -⟩ := id X
  have hS : va_S (gw_A G s.heap.size) s.heap s.heap [] := va_S.rf
  unfold f_X11_valueLike at h
  refine lv_aload_n hx hb dX11_valueLike_0 rfl (lv_at hl 0 rfl) ?_
  refine lv_aload_n hx hb dX11_valueLike_1 rfl (lv_at hl 0 rfl) ?_
  refine lv_iload_n hx hb dX11_valueLike_2 rfl (lv_at hl 1 rfl) ?_
  obtain ⟨p1, gp1, h⟩ := Option.bind_eq_some_iff.mp h
  refine gw_cz (gw_rV (C := RX11) X hP hS (gc_X11_isName l G a0 σ _ gp1) gk_X11_isName gv_1518 ⟨gv_1520, gv_s35⟩ (va_recv hT.2.1 hP (ci := 13) (q0 := 33) rfl rfl) rfl rfl (Nat.le_of_ble_eq_true rfl) hl.1 ⟨rfl, rfl⟩ ⟨Nat.le_of_ble_eq_true rfl, Nat.le_of_ble_eq_true rfl⟩ ⟨Nat.le_of_ble_eq_true rfl, Nat.le_of_ble_eq_true rfl⟩ dX11_valueLike_3) hS (fun H locs hb_p1 hP hS => ?_)
  refine lv_if_eq (tgt := 21) hx hb dX11_valueLike_6 (by decide) (fun c => ?_) (fun c => ?_)
  · have h := (if_pos c).symm.trans h
    refine lv_iconst (v := 0) hx hb dX11_valueLike_21 (by decide) ?_
    refine lv_iconst (v := 1) hx hb dX11_valueLike_22 (by decide) ?_
    obtain ⟨p2, gp2, h⟩ := Option.bind_eq_some_iff.mp h
    refine gw_cz (gw_rV (C := RX11) X hP hS (gc_X11_no l G (0 : Int32) (1 : Int32) p1.2 _ gp2) gk_X11_no gv_1209 ⟨gv_1211, gv_s22⟩ (va_recv hT.2.1 hP (ci := 13) (q0 := 33) rfl rfl) rfl rfl (Nat.le_of_ble_eq_true rfl) hl.1 ⟨rfl, rfl⟩ ⟨Nat.le_of_ble_eq_true rfl, Nat.le_of_ble_eq_true rfl⟩ ⟨Nat.le_of_ble_eq_true rfl, Nat.le_of_ble_eq_true rfl⟩ dX11_valueLike_23) hS (fun H locs hb_p2 hP hS => ?_)
    refine lv_if_eq (tgt := 33) hx hb dX11_valueLike_26 (by decide) (fun c => ?_) (fun c => ?_)
    · have h := (if_pos c).symm.trans h
      refine lv_aload_n hx hb dX11_valueLike_33 rfl (lv_at hl 0 rfl) ?_
      refine lv_iload_n hx hb dX11_valueLike_34 rfl (lv_at hl 1 rfl) ?_
      refine lv_iload_n hx hb dX11_valueLike_35 rfl (lv_at hl 2 rfl) ?_
      refine lv_iconst (v := 0) hx hb dX11_valueLike_36 (by decide) ?_
      exact absurd h (fun h => nomatch h)
    · have h := (if_neg c).symm.trans h
      refine lv_iconst (v := 0) hx hb dX11_valueLike_29 (by decide) ?_
      refine lv_goto (tgt := 40) hx hb dX11_valueLike_30 (by decide) ?_
      exact gw_ri X hP hS h dX11_valueLike_40
  · have h := (if_neg c).symm.trans h
    refine lv_aload_n hx hb dX11_valueLike_9 rfl (lv_at hl 0 rfl) ?_
    refine lv_iload_n hx hb dX11_valueLike_10 rfl (lv_at hl 2 rfl) ?_
    obtain ⟨p3, gp3, h⟩ := Option.bind_eq_some_iff.mp h
    refine gw_cz (gw_rV (C := RX11) X hP hS (gc_X11_isName l G a1 p1.2 _ gp3) gk_X11_isName gv_1518 ⟨gv_1520, gv_s35⟩ (va_recv hT.2.1 hP (ci := 13) (q0 := 33) rfl rfl) rfl rfl (Nat.le_of_ble_eq_true rfl) hl.1 ⟨rfl, rfl⟩ ⟨Nat.le_of_ble_eq_true rfl, Nat.le_of_ble_eq_true rfl⟩ ⟨Nat.le_of_ble_eq_true rfl, Nat.le_of_ble_eq_true rfl⟩ dX11_valueLike_11) hS (fun H locs hb_p3 hP hS => ?_)
    refine lv_if_eq (tgt := 21) hx hb dX11_valueLike_14 (by decide) (fun c => ?_) (fun c => ?_)
    · have h := (if_pos c).symm.trans h
      refine lv_iconst (v := 0) hx hb dX11_valueLike_21 (by decide) ?_
      refine lv_iconst (v := 1) hx hb dX11_valueLike_22 (by decide) ?_
      obtain ⟨p4, gp4, h⟩ := Option.bind_eq_some_iff.mp h
      refine gw_cz (gw_rV (C := RX11) X hP hS (gc_X11_no l G (0 : Int32) (1 : Int32) p3.2 _ gp4) gk_X11_no gv_1209 ⟨gv_1211, gv_s22⟩ (va_recv hT.2.1 hP (ci := 13) (q0 := 33) rfl rfl) rfl rfl (Nat.le_of_ble_eq_true rfl) hl.1 ⟨rfl, rfl⟩ ⟨Nat.le_of_ble_eq_true rfl, Nat.le_of_ble_eq_true rfl⟩ ⟨Nat.le_of_ble_eq_true rfl, Nat.le_of_ble_eq_true rfl⟩ dX11_valueLike_23) hS (fun H locs hb_p4 hP hS => ?_)
      refine lv_if_eq (tgt := 33) hx hb dX11_valueLike_26 (by decide) (fun c => ?_) (fun c => ?_)
      · have h := (if_pos c).symm.trans h
        refine lv_aload_n hx hb dX11_valueLike_33 rfl (lv_at hl 0 rfl) ?_
        refine lv_iload_n hx hb dX11_valueLike_34 rfl (lv_at hl 1 rfl) ?_
        refine lv_iload_n hx hb dX11_valueLike_35 rfl (lv_at hl 2 rfl) ?_
        refine lv_iconst (v := 0) hx hb dX11_valueLike_36 (by decide) ?_
        exact absurd h (fun h => nomatch h)
      · have h := (if_neg c).symm.trans h
        refine lv_iconst (v := 0) hx hb dX11_valueLike_29 (by decide) ?_
        refine lv_goto (tgt := 40) hx hb dX11_valueLike_30 (by decide) ?_
        exact gw_ri X hP hS h dX11_valueLike_40
    · have h := (if_neg c).symm.trans h
      refine lv_iconst (v := 1) hx hb dX11_valueLike_17 (by decide) ?_
      refine lv_goto (tgt := 22) hx hb dX11_valueLike_18 (by decide) ?_
      refine lv_iconst (v := 1) hx hb dX11_valueLike_22 (by decide) ?_
      obtain ⟨p5, gp5, h⟩ := Option.bind_eq_some_iff.mp h
      refine gw_cz (gw_rV (C := RX11) X hP hS (gc_X11_no l G (1 : Int32) (1 : Int32) p3.2 _ gp5) gk_X11_no gv_1209 ⟨gv_1211, gv_s22⟩ (va_recv hT.2.1 hP (ci := 13) (q0 := 33) rfl rfl) rfl rfl (Nat.le_of_ble_eq_true rfl) hl.1 ⟨rfl, rfl⟩ ⟨Nat.le_of_ble_eq_true rfl, Nat.le_of_ble_eq_true rfl⟩ ⟨Nat.le_of_ble_eq_true rfl, Nat.le_of_ble_eq_true rfl⟩ dX11_valueLike_23) hS (fun H locs hb_p5 hP hS => ?_)
      refine lv_if_eq (tgt := 33) hx hb dX11_valueLike_26 (by decide) (fun c => ?_) (fun c => ?_)
      · have h := (if_pos c).symm.trans h
        refine lv_aload_n hx hb dX11_valueLike_33 rfl (lv_at hl 0 rfl) ?_
        refine lv_iload_n hx hb dX11_valueLike_34 rfl (lv_at hl 1 rfl) ?_
        refine lv_iload_n hx hb dX11_valueLike_35 rfl (lv_at hl 2 rfl) ?_
        refine lv_iconst (v := 0) hx hb dX11_valueLike_36 (by decide) ?_
        exact absurd h (fun h => nomatch h)
      · have h := (if_neg c).symm.trans h
        refine lv_iconst (v := 0) hx hb dX11_valueLike_29 (by decide) ?_
        refine lv_goto (tgt := 40) hx hb dX11_valueLike_30 (by decide) ?_
        exact gw_ri X hP hS h dX11_valueLike_40
def f_X11_forcesIn (a0 : Int32) (a1 : Int32) (a2 : Int32) (σ : gw_S) : Option (Int32 × gw_S) := ((f_X11_isCondition a0 σ).bind fun p1 => (if p1.1 = 0 then ((f_X11_no (0 : Int32) (1 : Int32) p1.2).bind fun p2 => (if p2.1 = 0 then ((f_X11_endsBelow a0 p2.2).bind fun p3 => none) else (some ((0 : Int32), p2.2)))) else ((f_X11_isName a1 p1.2).bind fun p4 => (if p4.1 = 0 then ((f_X11_no (0 : Int32) (1 : Int32) p4.2).bind fun p5 => (if p5.1 = 0 then ((f_X11_endsBelow a0 p5.2).bind fun p6 => none) else (some ((0 : Int32), p5.2)))) else ((f_X11_isName a2 p4.2).bind fun p7 => (if p7.1 = 0 then ((f_X11_no (0 : Int32) (1 : Int32) p7.2).bind fun p8 => (if p8.1 = 0 then ((f_X11_endsBelow a0 p8.2).bind fun p9 => none) else (some ((0 : Int32), p8.2)))) else ((f_X11_no (1 : Int32) (1 : Int32) p7.2).bind fun p10 => (if p10.1 = 0 then ((f_X11_endsBelow a0 p10.2).bind fun p11 => none) else (some ((0 : Int32), p10.2))))))))))
set_option maxHeartbeats 4000000 in
set_option maxRecDepth 100000 in
theorem gc_X11_forcesIn (l : Launch) (G : gw_G) (a0 : Int32) (a1 : Int32) (a2 : Int32) (σ : gw_S) (o : (Int32 × gw_S)) (h : f_X11_forcesIn a0 a1 a2 σ = some o) : gw_M (fun sz => gw_QZ G sz o) l yX11_forcesIn cX11_forcesIn 4 (some .boolean) { frames := 2, cells := 0, slots := 0, locals := 43 } G [.ref (G.2.1 33), .int a0, .int a1, .int a2] σ := by
  refine gw_en (own := RX11) (lv := [(0, .ref (G.2.1 33)), (1, .int a0), (2, .int a1), (3, .int a2)]) (by decide +kernel) rfl (Nat.le_of_ble_eq_true rfl) rfl ?_
  intro p e s m below meth c ls X hl hP
  obtain ⟨hx, hb, hml, hown, hts, -, -, hT, hZ, -⟩ := id X
  have hS : va_S (gw_A G s.heap.size) s.heap s.heap [] := va_S.rf
  unfold f_X11_forcesIn at h
  refine lv_aload_n hx hb dX11_forcesIn_0 rfl (lv_at hl 0 rfl) ?_
  refine lv_aload_n hx hb dX11_forcesIn_1 rfl (lv_at hl 0 rfl) ?_
  refine lv_iload_n hx hb dX11_forcesIn_2 rfl (lv_at hl 1 rfl) ?_
  obtain ⟨p1, gp1, h⟩ := Option.bind_eq_some_iff.mp h
  refine gw_cz (gw_rV (C := RX11) X hP hS (gc_X11_isCondition l G a0 σ _ gp1) gk_X11_isCondition gv_1306 ⟨gv_1308, gv_s26⟩ (va_recv hT.2.1 hP (ci := 13) (q0 := 33) rfl rfl) rfl rfl (Nat.le_of_ble_eq_true rfl) hl.1 ⟨rfl, rfl⟩ ⟨Nat.le_of_ble_eq_true rfl, Nat.le_of_ble_eq_true rfl⟩ ⟨Nat.le_of_ble_eq_true rfl, Nat.le_of_ble_eq_true rfl⟩ dX11_forcesIn_3) hS (fun H locs hb_p1 hP hS => ?_)
  refine lv_if_eq (tgt := 29) hx hb dX11_forcesIn_6 (by decide) (fun c => ?_) (fun c => ?_)
  · have h := (if_pos c).symm.trans h
    refine lv_iconst (v := 0) hx hb dX11_forcesIn_29 (by decide) ?_
    refine lv_iconst (v := 1) hx hb dX11_forcesIn_30 (by decide) ?_
    obtain ⟨p2, gp2, h⟩ := Option.bind_eq_some_iff.mp h
    refine gw_cz (gw_rV (C := RX11) X hP hS (gc_X11_no l G (0 : Int32) (1 : Int32) p1.2 _ gp2) gk_X11_no gv_1209 ⟨gv_1211, gv_s22⟩ (va_recv hT.2.1 hP (ci := 13) (q0 := 33) rfl rfl) rfl rfl (Nat.le_of_ble_eq_true rfl) hl.1 ⟨rfl, rfl⟩ ⟨Nat.le_of_ble_eq_true rfl, Nat.le_of_ble_eq_true rfl⟩ ⟨Nat.le_of_ble_eq_true rfl, Nat.le_of_ble_eq_true rfl⟩ dX11_forcesIn_31) hS (fun H locs hb_p2 hP hS => ?_)
    refine lv_if_ne (tgt := 59) hx hb dX11_forcesIn_34 (by decide) (fun c => ?_) (fun c => ?_)
    · have h := (if_neg c).symm.trans h
      refine lv_iconst (v := 0) hx hb dX11_forcesIn_59 (by decide) ?_
      exact gw_rz X hP hS rfl h dX11_forcesIn_60
    · have h := (if_pos c).symm.trans h
      refine lv_aload_n hx hb dX11_forcesIn_37 rfl (lv_at hl 0 rfl) ?_
      refine lv_iload_n hx hb dX11_forcesIn_38 rfl (lv_at hl 1 rfl) ?_
      obtain ⟨p3, gp3, h⟩ := Option.bind_eq_some_iff.mp h
      refine gw_ci (gw_rV (C := RX11) X hP hS (gc_X11_endsBelow l G a0 p2.2 _ gp3) gk_X11_endsBelow gv_1477 ⟨gv_1479, gv_s33⟩ (va_recv hT.2.1 hP (ci := 13) (q0 := 33) rfl rfl) rfl rfl (Nat.le_of_ble_eq_true rfl) hl.1 ⟨rfl, rfl⟩ ⟨Nat.le_of_ble_eq_true rfl, Nat.le_of_ble_eq_true rfl⟩ ⟨Nat.le_of_ble_eq_true rfl, Nat.le_of_ble_eq_true rfl⟩ dX11_forcesIn_39) hS (fun H locs hP hS => ?_)
      refine lv_aload_n hx hb dX11_forcesIn_42 rfl (lv_at hl 0 rfl) ?_
      refine lv_iload_n hx hb dX11_forcesIn_43 rfl (lv_at hl 2 rfl) ?_
      refine lv_iload_n hx hb dX11_forcesIn_44 rfl (lv_at hl 3 rfl) ?_
      refine lv_iconst (v := 1) hx hb dX11_forcesIn_45 (by decide) ?_
      exact absurd h (fun h => nomatch h)
  · have h := (if_neg c).symm.trans h
    refine lv_aload_n hx hb dX11_forcesIn_9 rfl (lv_at hl 0 rfl) ?_
    refine lv_iload_n hx hb dX11_forcesIn_10 rfl (lv_at hl 2 rfl) ?_
    obtain ⟨p4, gp4, h⟩ := Option.bind_eq_some_iff.mp h
    refine gw_cz (gw_rV (C := RX11) X hP hS (gc_X11_isName l G a1 p1.2 _ gp4) gk_X11_isName gv_1518 ⟨gv_1520, gv_s35⟩ (va_recv hT.2.1 hP (ci := 13) (q0 := 33) rfl rfl) rfl rfl (Nat.le_of_ble_eq_true rfl) hl.1 ⟨rfl, rfl⟩ ⟨Nat.le_of_ble_eq_true rfl, Nat.le_of_ble_eq_true rfl⟩ ⟨Nat.le_of_ble_eq_true rfl, Nat.le_of_ble_eq_true rfl⟩ dX11_forcesIn_11) hS (fun H locs hb_p4 hP hS => ?_)
    refine lv_if_eq (tgt := 29) hx hb dX11_forcesIn_14 (by decide) (fun c => ?_) (fun c => ?_)
    · have h := (if_pos c).symm.trans h
      refine lv_iconst (v := 0) hx hb dX11_forcesIn_29 (by decide) ?_
      refine lv_iconst (v := 1) hx hb dX11_forcesIn_30 (by decide) ?_
      obtain ⟨p5, gp5, h⟩ := Option.bind_eq_some_iff.mp h
      refine gw_cz (gw_rV (C := RX11) X hP hS (gc_X11_no l G (0 : Int32) (1 : Int32) p4.2 _ gp5) gk_X11_no gv_1209 ⟨gv_1211, gv_s22⟩ (va_recv hT.2.1 hP (ci := 13) (q0 := 33) rfl rfl) rfl rfl (Nat.le_of_ble_eq_true rfl) hl.1 ⟨rfl, rfl⟩ ⟨Nat.le_of_ble_eq_true rfl, Nat.le_of_ble_eq_true rfl⟩ ⟨Nat.le_of_ble_eq_true rfl, Nat.le_of_ble_eq_true rfl⟩ dX11_forcesIn_31) hS (fun H locs hb_p5 hP hS => ?_)
      refine lv_if_ne (tgt := 59) hx hb dX11_forcesIn_34 (by decide) (fun c => ?_) (fun c => ?_)
      · have h := (if_neg c).symm.trans h
        refine lv_iconst (v := 0) hx hb dX11_forcesIn_59 (by decide) ?_
        exact gw_rz X hP hS rfl h dX11_forcesIn_60
      · have h := (if_pos c).symm.trans h
        refine lv_aload_n hx hb dX11_forcesIn_37 rfl (lv_at hl 0 rfl) ?_
        refine lv_iload_n hx hb dX11_forcesIn_38 rfl (lv_at hl 1 rfl) ?_
        obtain ⟨p6, gp6, h⟩ := Option.bind_eq_some_iff.mp h
        refine gw_ci (gw_rV (C := RX11) X hP hS (gc_X11_endsBelow l G a0 p5.2 _ gp6) gk_X11_endsBelow gv_1477 ⟨gv_1479, gv_s33⟩ (va_recv hT.2.1 hP (ci := 13) (q0 := 33) rfl rfl) rfl rfl (Nat.le_of_ble_eq_true rfl) hl.1 ⟨rfl, rfl⟩ ⟨Nat.le_of_ble_eq_true rfl, Nat.le_of_ble_eq_true rfl⟩ ⟨Nat.le_of_ble_eq_true rfl, Nat.le_of_ble_eq_true rfl⟩ dX11_forcesIn_39) hS (fun H locs hP hS => ?_)
        refine lv_aload_n hx hb dX11_forcesIn_42 rfl (lv_at hl 0 rfl) ?_
        refine lv_iload_n hx hb dX11_forcesIn_43 rfl (lv_at hl 2 rfl) ?_
        refine lv_iload_n hx hb dX11_forcesIn_44 rfl (lv_at hl 3 rfl) ?_
        refine lv_iconst (v := 1) hx hb dX11_forcesIn_45 (by decide) ?_
        exact absurd h (fun h => nomatch h)
    · have h := (if_neg c).symm.trans h
      refine lv_aload_n hx hb dX11_forcesIn_17 rfl (lv_at hl 0 rfl) ?_
      refine lv_iload_n hx hb dX11_forcesIn_18 rfl (lv_at hl 3 rfl) ?_
      obtain ⟨p7, gp7, h⟩ := Option.bind_eq_some_iff.mp h
      refine gw_cz (gw_rV (C := RX11) X hP hS (gc_X11_isName l G a2 p4.2 _ gp7) gk_X11_isName gv_1518 ⟨gv_1520, gv_s35⟩ (va_recv hT.2.1 hP (ci := 13) (q0 := 33) rfl rfl) rfl rfl (Nat.le_of_ble_eq_true rfl) hl.1 ⟨rfl, rfl⟩ ⟨Nat.le_of_ble_eq_true rfl, Nat.le_of_ble_eq_true rfl⟩ ⟨Nat.le_of_ble_eq_true rfl, Nat.le_of_ble_eq_true rfl⟩ dX11_forcesIn_19) hS (fun H locs hb_p7 hP hS => ?_)
      refine lv_if_eq (tgt := 29) hx hb dX11_forcesIn_22 (by decide) (fun c => ?_) (fun c => ?_)
      · have h := (if_pos c).symm.trans h
        refine lv_iconst (v := 0) hx hb dX11_forcesIn_29 (by decide) ?_
        refine lv_iconst (v := 1) hx hb dX11_forcesIn_30 (by decide) ?_
        obtain ⟨p8, gp8, h⟩ := Option.bind_eq_some_iff.mp h
        refine gw_cz (gw_rV (C := RX11) X hP hS (gc_X11_no l G (0 : Int32) (1 : Int32) p7.2 _ gp8) gk_X11_no gv_1209 ⟨gv_1211, gv_s22⟩ (va_recv hT.2.1 hP (ci := 13) (q0 := 33) rfl rfl) rfl rfl (Nat.le_of_ble_eq_true rfl) hl.1 ⟨rfl, rfl⟩ ⟨Nat.le_of_ble_eq_true rfl, Nat.le_of_ble_eq_true rfl⟩ ⟨Nat.le_of_ble_eq_true rfl, Nat.le_of_ble_eq_true rfl⟩ dX11_forcesIn_31) hS (fun H locs hb_p8 hP hS => ?_)
        refine lv_if_ne (tgt := 59) hx hb dX11_forcesIn_34 (by decide) (fun c => ?_) (fun c => ?_)
        · have h := (if_neg c).symm.trans h
          refine lv_iconst (v := 0) hx hb dX11_forcesIn_59 (by decide) ?_
          exact gw_rz X hP hS rfl h dX11_forcesIn_60
        · have h := (if_pos c).symm.trans h
          refine lv_aload_n hx hb dX11_forcesIn_37 rfl (lv_at hl 0 rfl) ?_
          refine lv_iload_n hx hb dX11_forcesIn_38 rfl (lv_at hl 1 rfl) ?_
          obtain ⟨p9, gp9, h⟩ := Option.bind_eq_some_iff.mp h
          refine gw_ci (gw_rV (C := RX11) X hP hS (gc_X11_endsBelow l G a0 p8.2 _ gp9) gk_X11_endsBelow gv_1477 ⟨gv_1479, gv_s33⟩ (va_recv hT.2.1 hP (ci := 13) (q0 := 33) rfl rfl) rfl rfl (Nat.le_of_ble_eq_true rfl) hl.1 ⟨rfl, rfl⟩ ⟨Nat.le_of_ble_eq_true rfl, Nat.le_of_ble_eq_true rfl⟩ ⟨Nat.le_of_ble_eq_true rfl, Nat.le_of_ble_eq_true rfl⟩ dX11_forcesIn_39) hS (fun H locs hP hS => ?_)
          refine lv_aload_n hx hb dX11_forcesIn_42 rfl (lv_at hl 0 rfl) ?_
          refine lv_iload_n hx hb dX11_forcesIn_43 rfl (lv_at hl 2 rfl) ?_
          refine lv_iload_n hx hb dX11_forcesIn_44 rfl (lv_at hl 3 rfl) ?_
          refine lv_iconst (v := 1) hx hb dX11_forcesIn_45 (by decide) ?_
          exact absurd h (fun h => nomatch h)
      · have h := (if_neg c).symm.trans h
        refine lv_iconst (v := 1) hx hb dX11_forcesIn_25 (by decide) ?_
        refine lv_goto (tgt := 30) hx hb dX11_forcesIn_26 (by decide) ?_
        refine lv_iconst (v := 1) hx hb dX11_forcesIn_30 (by decide) ?_
        obtain ⟨p10, gp10, h⟩ := Option.bind_eq_some_iff.mp h
        refine gw_cz (gw_rV (C := RX11) X hP hS (gc_X11_no l G (1 : Int32) (1 : Int32) p7.2 _ gp10) gk_X11_no gv_1209 ⟨gv_1211, gv_s22⟩ (va_recv hT.2.1 hP (ci := 13) (q0 := 33) rfl rfl) rfl rfl (Nat.le_of_ble_eq_true rfl) hl.1 ⟨rfl, rfl⟩ ⟨Nat.le_of_ble_eq_true rfl, Nat.le_of_ble_eq_true rfl⟩ ⟨Nat.le_of_ble_eq_true rfl, Nat.le_of_ble_eq_true rfl⟩ dX11_forcesIn_31) hS (fun H locs hb_p10 hP hS => ?_)
        refine lv_if_ne (tgt := 59) hx hb dX11_forcesIn_34 (by decide) (fun c => ?_) (fun c => ?_)
        · have h := (if_neg c).symm.trans h
          refine lv_iconst (v := 0) hx hb dX11_forcesIn_59 (by decide) ?_
          exact gw_rz X hP hS rfl h dX11_forcesIn_60
        · have h := (if_pos c).symm.trans h
          refine lv_aload_n hx hb dX11_forcesIn_37 rfl (lv_at hl 0 rfl) ?_
          refine lv_iload_n hx hb dX11_forcesIn_38 rfl (lv_at hl 1 rfl) ?_
          obtain ⟨p11, gp11, h⟩ := Option.bind_eq_some_iff.mp h
          refine gw_ci (gw_rV (C := RX11) X hP hS (gc_X11_endsBelow l G a0 p10.2 _ gp11) gk_X11_endsBelow gv_1477 ⟨gv_1479, gv_s33⟩ (va_recv hT.2.1 hP (ci := 13) (q0 := 33) rfl rfl) rfl rfl (Nat.le_of_ble_eq_true rfl) hl.1 ⟨rfl, rfl⟩ ⟨Nat.le_of_ble_eq_true rfl, Nat.le_of_ble_eq_true rfl⟩ ⟨Nat.le_of_ble_eq_true rfl, Nat.le_of_ble_eq_true rfl⟩ dX11_forcesIn_39) hS (fun H locs hP hS => ?_)
          refine lv_aload_n hx hb dX11_forcesIn_42 rfl (lv_at hl 0 rfl) ?_
          refine lv_iload_n hx hb dX11_forcesIn_43 rfl (lv_at hl 2 rfl) ?_
          refine lv_iload_n hx hb dX11_forcesIn_44 rfl (lv_at hl 3 rfl) ?_
          refine lv_iconst (v := 1) hx hb dX11_forcesIn_45 (by decide) ?_
          exact absurd h (fun h => nomatch h)
def f_X11_forcesLike (a0 : Int32) (a1 : Int32) (a2 : Int32) (σ : gw_S) : Option (Int32 × gw_S) := ((f_X11_isCondition a0 σ).bind fun p1 => (if p1.1 = 0 then ((f_X11_no (0 : Int32) (1 : Int32) p1.2).bind fun p2 => (if p2.1 = 0 then ((f_X11_endsBelow a0 p2.2).bind fun p3 => none) else (some ((0 : Int32), p2.2)))) else ((f_X11_isName a1 p1.2).bind fun p4 => (if p4.1 = 0 then ((f_X11_no (0 : Int32) (1 : Int32) p4.2).bind fun p5 => (if p5.1 = 0 then ((f_X11_endsBelow a0 p5.2).bind fun p6 => none) else (some ((0 : Int32), p5.2)))) else ((f_X11_isName a2 p4.2).bind fun p7 => (if p7.1 = 0 then ((f_X11_no (0 : Int32) (1 : Int32) p7.2).bind fun p8 => (if p8.1 = 0 then ((f_X11_endsBelow a0 p8.2).bind fun p9 => none) else (some ((0 : Int32), p8.2)))) else ((f_X11_no (1 : Int32) (1 : Int32) p7.2).bind fun p10 => (if p10.1 = 0 then ((f_X11_endsBelow a0 p10.2).bind fun p11 => none) else (some ((0 : Int32), p10.2))))))))))
set_option maxHeartbeats 4000000 in
set_option maxRecDepth 100000 in
theorem gc_X11_forcesLike (l : Launch) (G : gw_G) (a0 : Int32) (a1 : Int32) (a2 : Int32) (σ : gw_S) (o : (Int32 × gw_S)) (h : f_X11_forcesLike a0 a1 a2 σ = some o) : gw_M (fun sz => gw_QZ G sz o) l yX11_forcesLike cX11_forcesLike 4 (some .boolean) { frames := 2, cells := 0, slots := 0, locals := 43 } G [.ref (G.2.1 33), .int a0, .int a1, .int a2] σ := by
  refine gw_en (own := RX11) (lv := [(0, .ref (G.2.1 33)), (1, .int a0), (2, .int a1), (3, .int a2)]) (by decide +kernel) rfl (Nat.le_of_ble_eq_true rfl) rfl ?_
  intro p e s m below meth c ls X hl hP
  obtain ⟨hx, hb, hml, hown, hts, -, -, hT, hZ, -⟩ := id X
  have hS : va_S (gw_A G s.heap.size) s.heap s.heap [] := va_S.rf
  unfold f_X11_forcesLike at h
  refine lv_aload_n hx hb dX11_forcesLike_0 rfl (lv_at hl 0 rfl) ?_
  refine lv_aload_n hx hb dX11_forcesLike_1 rfl (lv_at hl 0 rfl) ?_
  refine lv_iload_n hx hb dX11_forcesLike_2 rfl (lv_at hl 1 rfl) ?_
  obtain ⟨p1, gp1, h⟩ := Option.bind_eq_some_iff.mp h
  refine gw_cz (gw_rV (C := RX11) X hP hS (gc_X11_isCondition l G a0 σ _ gp1) gk_X11_isCondition gv_1306 ⟨gv_1308, gv_s26⟩ (va_recv hT.2.1 hP (ci := 13) (q0 := 33) rfl rfl) rfl rfl (Nat.le_of_ble_eq_true rfl) hl.1 ⟨rfl, rfl⟩ ⟨Nat.le_of_ble_eq_true rfl, Nat.le_of_ble_eq_true rfl⟩ ⟨Nat.le_of_ble_eq_true rfl, Nat.le_of_ble_eq_true rfl⟩ dX11_forcesLike_3) hS (fun H locs hb_p1 hP hS => ?_)
  refine lv_if_eq (tgt := 29) hx hb dX11_forcesLike_6 (by decide) (fun c => ?_) (fun c => ?_)
  · have h := (if_pos c).symm.trans h
    refine lv_iconst (v := 0) hx hb dX11_forcesLike_29 (by decide) ?_
    refine lv_iconst (v := 1) hx hb dX11_forcesLike_30 (by decide) ?_
    obtain ⟨p2, gp2, h⟩ := Option.bind_eq_some_iff.mp h
    refine gw_cz (gw_rV (C := RX11) X hP hS (gc_X11_no l G (0 : Int32) (1 : Int32) p1.2 _ gp2) gk_X11_no gv_1209 ⟨gv_1211, gv_s22⟩ (va_recv hT.2.1 hP (ci := 13) (q0 := 33) rfl rfl) rfl rfl (Nat.le_of_ble_eq_true rfl) hl.1 ⟨rfl, rfl⟩ ⟨Nat.le_of_ble_eq_true rfl, Nat.le_of_ble_eq_true rfl⟩ ⟨Nat.le_of_ble_eq_true rfl, Nat.le_of_ble_eq_true rfl⟩ dX11_forcesLike_31) hS (fun H locs hb_p2 hP hS => ?_)
    refine lv_if_ne (tgt := 59) hx hb dX11_forcesLike_34 (by decide) (fun c => ?_) (fun c => ?_)
    · have h := (if_neg c).symm.trans h
      refine lv_iconst (v := 0) hx hb dX11_forcesLike_59 (by decide) ?_
      exact gw_rz X hP hS rfl h dX11_forcesLike_60
    · have h := (if_pos c).symm.trans h
      refine lv_aload_n hx hb dX11_forcesLike_37 rfl (lv_at hl 0 rfl) ?_
      refine lv_iload_n hx hb dX11_forcesLike_38 rfl (lv_at hl 1 rfl) ?_
      obtain ⟨p3, gp3, h⟩ := Option.bind_eq_some_iff.mp h
      refine gw_ci (gw_rV (C := RX11) X hP hS (gc_X11_endsBelow l G a0 p2.2 _ gp3) gk_X11_endsBelow gv_1477 ⟨gv_1479, gv_s33⟩ (va_recv hT.2.1 hP (ci := 13) (q0 := 33) rfl rfl) rfl rfl (Nat.le_of_ble_eq_true rfl) hl.1 ⟨rfl, rfl⟩ ⟨Nat.le_of_ble_eq_true rfl, Nat.le_of_ble_eq_true rfl⟩ ⟨Nat.le_of_ble_eq_true rfl, Nat.le_of_ble_eq_true rfl⟩ dX11_forcesLike_39) hS (fun H locs hP hS => ?_)
      refine lv_aload_n hx hb dX11_forcesLike_42 rfl (lv_at hl 0 rfl) ?_
      refine lv_iload_n hx hb dX11_forcesLike_43 rfl (lv_at hl 2 rfl) ?_
      refine lv_iload_n hx hb dX11_forcesLike_44 rfl (lv_at hl 3 rfl) ?_
      refine lv_iconst (v := 0) hx hb dX11_forcesLike_45 (by decide) ?_
      exact absurd h (fun h => nomatch h)
  · have h := (if_neg c).symm.trans h
    refine lv_aload_n hx hb dX11_forcesLike_9 rfl (lv_at hl 0 rfl) ?_
    refine lv_iload_n hx hb dX11_forcesLike_10 rfl (lv_at hl 2 rfl) ?_
    obtain ⟨p4, gp4, h⟩ := Option.bind_eq_some_iff.mp h
    refine gw_cz (gw_rV (C := RX11) X hP hS (gc_X11_isName l G a1 p1.2 _ gp4) gk_X11_isName gv_1518 ⟨gv_1520, gv_s35⟩ (va_recv hT.2.1 hP (ci := 13) (q0 := 33) rfl rfl) rfl rfl (Nat.le_of_ble_eq_true rfl) hl.1 ⟨rfl, rfl⟩ ⟨Nat.le_of_ble_eq_true rfl, Nat.le_of_ble_eq_true rfl⟩ ⟨Nat.le_of_ble_eq_true rfl, Nat.le_of_ble_eq_true rfl⟩ dX11_forcesLike_11) hS (fun H locs hb_p4 hP hS => ?_)
    refine lv_if_eq (tgt := 29) hx hb dX11_forcesLike_14 (by decide) (fun c => ?_) (fun c => ?_)
    · have h := (if_pos c).symm.trans h
      refine lv_iconst (v := 0) hx hb dX11_forcesLike_29 (by decide) ?_
      refine lv_iconst (v := 1) hx hb dX11_forcesLike_30 (by decide) ?_
      obtain ⟨p5, gp5, h⟩ := Option.bind_eq_some_iff.mp h
      refine gw_cz (gw_rV (C := RX11) X hP hS (gc_X11_no l G (0 : Int32) (1 : Int32) p4.2 _ gp5) gk_X11_no gv_1209 ⟨gv_1211, gv_s22⟩ (va_recv hT.2.1 hP (ci := 13) (q0 := 33) rfl rfl) rfl rfl (Nat.le_of_ble_eq_true rfl) hl.1 ⟨rfl, rfl⟩ ⟨Nat.le_of_ble_eq_true rfl, Nat.le_of_ble_eq_true rfl⟩ ⟨Nat.le_of_ble_eq_true rfl, Nat.le_of_ble_eq_true rfl⟩ dX11_forcesLike_31) hS (fun H locs hb_p5 hP hS => ?_)
      refine lv_if_ne (tgt := 59) hx hb dX11_forcesLike_34 (by decide) (fun c => ?_) (fun c => ?_)
      · have h := (if_neg c).symm.trans h
        refine lv_iconst (v := 0) hx hb dX11_forcesLike_59 (by decide) ?_
        exact gw_rz X hP hS rfl h dX11_forcesLike_60
      · have h := (if_pos c).symm.trans h
        refine lv_aload_n hx hb dX11_forcesLike_37 rfl (lv_at hl 0 rfl) ?_
        refine lv_iload_n hx hb dX11_forcesLike_38 rfl (lv_at hl 1 rfl) ?_
        obtain ⟨p6, gp6, h⟩ := Option.bind_eq_some_iff.mp h
        refine gw_ci (gw_rV (C := RX11) X hP hS (gc_X11_endsBelow l G a0 p5.2 _ gp6) gk_X11_endsBelow gv_1477 ⟨gv_1479, gv_s33⟩ (va_recv hT.2.1 hP (ci := 13) (q0 := 33) rfl rfl) rfl rfl (Nat.le_of_ble_eq_true rfl) hl.1 ⟨rfl, rfl⟩ ⟨Nat.le_of_ble_eq_true rfl, Nat.le_of_ble_eq_true rfl⟩ ⟨Nat.le_of_ble_eq_true rfl, Nat.le_of_ble_eq_true rfl⟩ dX11_forcesLike_39) hS (fun H locs hP hS => ?_)
        refine lv_aload_n hx hb dX11_forcesLike_42 rfl (lv_at hl 0 rfl) ?_
        refine lv_iload_n hx hb dX11_forcesLike_43 rfl (lv_at hl 2 rfl) ?_
        refine lv_iload_n hx hb dX11_forcesLike_44 rfl (lv_at hl 3 rfl) ?_
        refine lv_iconst (v := 0) hx hb dX11_forcesLike_45 (by decide) ?_
        exact absurd h (fun h => nomatch h)
    · have h := (if_neg c).symm.trans h
      refine lv_aload_n hx hb dX11_forcesLike_17 rfl (lv_at hl 0 rfl) ?_
      refine lv_iload_n hx hb dX11_forcesLike_18 rfl (lv_at hl 3 rfl) ?_
      obtain ⟨p7, gp7, h⟩ := Option.bind_eq_some_iff.mp h
      refine gw_cz (gw_rV (C := RX11) X hP hS (gc_X11_isName l G a2 p4.2 _ gp7) gk_X11_isName gv_1518 ⟨gv_1520, gv_s35⟩ (va_recv hT.2.1 hP (ci := 13) (q0 := 33) rfl rfl) rfl rfl (Nat.le_of_ble_eq_true rfl) hl.1 ⟨rfl, rfl⟩ ⟨Nat.le_of_ble_eq_true rfl, Nat.le_of_ble_eq_true rfl⟩ ⟨Nat.le_of_ble_eq_true rfl, Nat.le_of_ble_eq_true rfl⟩ dX11_forcesLike_19) hS (fun H locs hb_p7 hP hS => ?_)
      refine lv_if_eq (tgt := 29) hx hb dX11_forcesLike_22 (by decide) (fun c => ?_) (fun c => ?_)
      · have h := (if_pos c).symm.trans h
        refine lv_iconst (v := 0) hx hb dX11_forcesLike_29 (by decide) ?_
        refine lv_iconst (v := 1) hx hb dX11_forcesLike_30 (by decide) ?_
        obtain ⟨p8, gp8, h⟩ := Option.bind_eq_some_iff.mp h
        refine gw_cz (gw_rV (C := RX11) X hP hS (gc_X11_no l G (0 : Int32) (1 : Int32) p7.2 _ gp8) gk_X11_no gv_1209 ⟨gv_1211, gv_s22⟩ (va_recv hT.2.1 hP (ci := 13) (q0 := 33) rfl rfl) rfl rfl (Nat.le_of_ble_eq_true rfl) hl.1 ⟨rfl, rfl⟩ ⟨Nat.le_of_ble_eq_true rfl, Nat.le_of_ble_eq_true rfl⟩ ⟨Nat.le_of_ble_eq_true rfl, Nat.le_of_ble_eq_true rfl⟩ dX11_forcesLike_31) hS (fun H locs hb_p8 hP hS => ?_)
        refine lv_if_ne (tgt := 59) hx hb dX11_forcesLike_34 (by decide) (fun c => ?_) (fun c => ?_)
        · have h := (if_neg c).symm.trans h
          refine lv_iconst (v := 0) hx hb dX11_forcesLike_59 (by decide) ?_
          exact gw_rz X hP hS rfl h dX11_forcesLike_60
        · have h := (if_pos c).symm.trans h
          refine lv_aload_n hx hb dX11_forcesLike_37 rfl (lv_at hl 0 rfl) ?_
          refine lv_iload_n hx hb dX11_forcesLike_38 rfl (lv_at hl 1 rfl) ?_
          obtain ⟨p9, gp9, h⟩ := Option.bind_eq_some_iff.mp h
          refine gw_ci (gw_rV (C := RX11) X hP hS (gc_X11_endsBelow l G a0 p8.2 _ gp9) gk_X11_endsBelow gv_1477 ⟨gv_1479, gv_s33⟩ (va_recv hT.2.1 hP (ci := 13) (q0 := 33) rfl rfl) rfl rfl (Nat.le_of_ble_eq_true rfl) hl.1 ⟨rfl, rfl⟩ ⟨Nat.le_of_ble_eq_true rfl, Nat.le_of_ble_eq_true rfl⟩ ⟨Nat.le_of_ble_eq_true rfl, Nat.le_of_ble_eq_true rfl⟩ dX11_forcesLike_39) hS (fun H locs hP hS => ?_)
          refine lv_aload_n hx hb dX11_forcesLike_42 rfl (lv_at hl 0 rfl) ?_
          refine lv_iload_n hx hb dX11_forcesLike_43 rfl (lv_at hl 2 rfl) ?_
          refine lv_iload_n hx hb dX11_forcesLike_44 rfl (lv_at hl 3 rfl) ?_
          refine lv_iconst (v := 0) hx hb dX11_forcesLike_45 (by decide) ?_
          exact absurd h (fun h => nomatch h)
      · have h := (if_neg c).symm.trans h
        refine lv_iconst (v := 1) hx hb dX11_forcesLike_25 (by decide) ?_
        refine lv_goto (tgt := 30) hx hb dX11_forcesLike_26 (by decide) ?_
        refine lv_iconst (v := 1) hx hb dX11_forcesLike_30 (by decide) ?_
        obtain ⟨p10, gp10, h⟩ := Option.bind_eq_some_iff.mp h
        refine gw_cz (gw_rV (C := RX11) X hP hS (gc_X11_no l G (1 : Int32) (1 : Int32) p7.2 _ gp10) gk_X11_no gv_1209 ⟨gv_1211, gv_s22⟩ (va_recv hT.2.1 hP (ci := 13) (q0 := 33) rfl rfl) rfl rfl (Nat.le_of_ble_eq_true rfl) hl.1 ⟨rfl, rfl⟩ ⟨Nat.le_of_ble_eq_true rfl, Nat.le_of_ble_eq_true rfl⟩ ⟨Nat.le_of_ble_eq_true rfl, Nat.le_of_ble_eq_true rfl⟩ dX11_forcesLike_31) hS (fun H locs hb_p10 hP hS => ?_)
        refine lv_if_ne (tgt := 59) hx hb dX11_forcesLike_34 (by decide) (fun c => ?_) (fun c => ?_)
        · have h := (if_neg c).symm.trans h
          refine lv_iconst (v := 0) hx hb dX11_forcesLike_59 (by decide) ?_
          exact gw_rz X hP hS rfl h dX11_forcesLike_60
        · have h := (if_pos c).symm.trans h
          refine lv_aload_n hx hb dX11_forcesLike_37 rfl (lv_at hl 0 rfl) ?_
          refine lv_iload_n hx hb dX11_forcesLike_38 rfl (lv_at hl 1 rfl) ?_
          obtain ⟨p11, gp11, h⟩ := Option.bind_eq_some_iff.mp h
          refine gw_ci (gw_rV (C := RX11) X hP hS (gc_X11_endsBelow l G a0 p10.2 _ gp11) gk_X11_endsBelow gv_1477 ⟨gv_1479, gv_s33⟩ (va_recv hT.2.1 hP (ci := 13) (q0 := 33) rfl rfl) rfl rfl (Nat.le_of_ble_eq_true rfl) hl.1 ⟨rfl, rfl⟩ ⟨Nat.le_of_ble_eq_true rfl, Nat.le_of_ble_eq_true rfl⟩ ⟨Nat.le_of_ble_eq_true rfl, Nat.le_of_ble_eq_true rfl⟩ dX11_forcesLike_39) hS (fun H locs hP hS => ?_)
          refine lv_aload_n hx hb dX11_forcesLike_42 rfl (lv_at hl 0 rfl) ?_
          refine lv_iload_n hx hb dX11_forcesLike_43 rfl (lv_at hl 2 rfl) ?_
          refine lv_iload_n hx hb dX11_forcesLike_44 rfl (lv_at hl 3 rfl) ?_
          refine lv_iconst (v := 0) hx hb dX11_forcesLike_45 (by decide) ?_
          exact absurd h (fun h => nomatch h)
def f_X11_mix (a0 : Int32) (a1 : Int32) (a2 : Int32) (a3 : Int32) (σ : gw_S) : Option (Int32 × gw_S) := ((f_X11_isName a0 σ).bind fun p1 => (if p1.1 = 0 then ((f_X11_no (0 : Int32) (1 : Int32) p1.2).bind fun p2 => (if p2.1 = 0 then none else (some ((0 : Int32), p2.2)))) else ((f_X11_isName a2 p1.2).bind fun p3 => (if p3.1 = 0 then ((f_X11_no (0 : Int32) (1 : Int32) p3.2).bind fun p4 => (if p4.1 = 0 then none else (some ((0 : Int32), p4.2)))) else ((f_X11_isCondition a1 p3.2).bind fun p5 => (if p5.1 = 0 then ((f_X11_no (0 : Int32) (1 : Int32) p5.2).bind fun p6 => (if p6.1 = 0 then none else (some ((0 : Int32), p6.2)))) else ((f_X11_isCondition a3 p5.2).bind fun p7 => (if p7.1 = 0 then ((f_X11_no (0 : Int32) (1 : Int32) p7.2).bind fun p8 => (if p8.1 = 0 then none else (some ((0 : Int32), p8.2)))) else ((f_X11_no (1 : Int32) (1 : Int32) p7.2).bind fun p9 => (if p9.1 = 0 then none else (some ((0 : Int32), p9.2))))))))))))
set_option maxHeartbeats 4000000 in
set_option maxRecDepth 100000 in
theorem gc_X11_mix (l : Launch) (G : gw_G) (a0 : Int32) (a1 : Int32) (a2 : Int32) (a3 : Int32) (σ : gw_S) (o : (Int32 × gw_S)) (h : f_X11_mix a0 a1 a2 a3 σ = some o) : gw_M (fun sz => gw_QI G sz o) l yX11_mix cX11_mix 12 (some .int) { frames := 2, cells := 0, slots := 0, locals := 43 } G [.ref (G.2.1 33), .int a0, .int a1, .int a2, .int a3] σ := by
  refine gw_en (own := RX11) (lv := [(0, .ref (G.2.1 33)), (1, .int a0), (2, .int a1), (3, .int a2), (4, .int a3)]) (by decide +kernel) rfl (Nat.le_of_ble_eq_true rfl) rfl ?_
  intro p e s m below meth c ls X hl hP
  obtain ⟨hx, hb, hml, hown, hts, -, -, hT, hZ, -⟩ := id X
  have hS : va_S (gw_A G s.heap.size) s.heap s.heap [] := va_S.rf
  unfold f_X11_mix at h
  refine lv_aload_n hx hb dX11_mix_0 rfl (lv_at hl 0 rfl) ?_
  refine lv_aload_n hx hb dX11_mix_1 rfl (lv_at hl 0 rfl) ?_
  refine lv_iload_n hx hb dX11_mix_2 rfl (lv_at hl 1 rfl) ?_
  obtain ⟨p1, gp1, h⟩ := Option.bind_eq_some_iff.mp h
  refine gw_cz (gw_rV (C := RX11) X hP hS (gc_X11_isName l G a0 σ _ gp1) gk_X11_isName gv_1518 ⟨gv_1520, gv_s35⟩ (va_recv hT.2.1 hP (ci := 13) (q0 := 33) rfl rfl) rfl rfl (Nat.le_of_ble_eq_true rfl) hl.1 ⟨rfl, rfl⟩ ⟨Nat.le_of_ble_eq_true rfl, Nat.le_of_ble_eq_true rfl⟩ ⟨Nat.le_of_ble_eq_true rfl, Nat.le_of_ble_eq_true rfl⟩ dX11_mix_3) hS (fun H locs hb_p1 hP hS => ?_)
  refine lv_if_eq (tgt := 38) hx hb dX11_mix_6 (by decide) (fun c => ?_) (fun c => ?_)
  · have h := (if_pos c).symm.trans h
    refine lv_iconst (v := 0) hx hb dX11_mix_38 (by decide) ?_
    refine lv_iconst (v := 1) hx hb dX11_mix_39 (by decide) ?_
    obtain ⟨p2, gp2, h⟩ := Option.bind_eq_some_iff.mp h
    refine gw_cz (gw_rV (C := RX11) X hP hS (gc_X11_no l G (0 : Int32) (1 : Int32) p1.2 _ gp2) gk_X11_no gv_1209 ⟨gv_1211, gv_s22⟩ (va_recv hT.2.1 hP (ci := 13) (q0 := 33) rfl rfl) rfl rfl (Nat.le_of_ble_eq_true rfl) hl.1 ⟨rfl, rfl⟩ ⟨Nat.le_of_ble_eq_true rfl, Nat.le_of_ble_eq_true rfl⟩ ⟨Nat.le_of_ble_eq_true rfl, Nat.le_of_ble_eq_true rfl⟩ dX11_mix_40) hS (fun H locs hb_p2 hP hS => ?_)
    refine lv_if_eq (tgt := 48) hx hb dX11_mix_43 (by decide) (fun c => ?_) (fun c => ?_)
    · have h := (if_pos c).symm.trans h
      exact absurd h (fun h => nomatch h)
    · have h := (if_neg c).symm.trans h
      refine lv_iconst (v := 0) hx hb dX11_mix_46 (by decide) ?_
      exact gw_ri X hP hS h dX11_mix_47
  · have h := (if_neg c).symm.trans h
    refine lv_aload_n hx hb dX11_mix_9 rfl (lv_at hl 0 rfl) ?_
    refine lv_iload_n hx hb dX11_mix_10 rfl (lv_at hl 3 rfl) ?_
    obtain ⟨p3, gp3, h⟩ := Option.bind_eq_some_iff.mp h
    refine gw_cz (gw_rV (C := RX11) X hP hS (gc_X11_isName l G a2 p1.2 _ gp3) gk_X11_isName gv_1518 ⟨gv_1520, gv_s35⟩ (va_recv hT.2.1 hP (ci := 13) (q0 := 33) rfl rfl) rfl rfl (Nat.le_of_ble_eq_true rfl) hl.1 ⟨rfl, rfl⟩ ⟨Nat.le_of_ble_eq_true rfl, Nat.le_of_ble_eq_true rfl⟩ ⟨Nat.le_of_ble_eq_true rfl, Nat.le_of_ble_eq_true rfl⟩ dX11_mix_11) hS (fun H locs hb_p3 hP hS => ?_)
    refine lv_if_eq (tgt := 38) hx hb dX11_mix_14 (by decide) (fun c => ?_) (fun c => ?_)
    · have h := (if_pos c).symm.trans h
      refine lv_iconst (v := 0) hx hb dX11_mix_38 (by decide) ?_
      refine lv_iconst (v := 1) hx hb dX11_mix_39 (by decide) ?_
      obtain ⟨p4, gp4, h⟩ := Option.bind_eq_some_iff.mp h
      refine gw_cz (gw_rV (C := RX11) X hP hS (gc_X11_no l G (0 : Int32) (1 : Int32) p3.2 _ gp4) gk_X11_no gv_1209 ⟨gv_1211, gv_s22⟩ (va_recv hT.2.1 hP (ci := 13) (q0 := 33) rfl rfl) rfl rfl (Nat.le_of_ble_eq_true rfl) hl.1 ⟨rfl, rfl⟩ ⟨Nat.le_of_ble_eq_true rfl, Nat.le_of_ble_eq_true rfl⟩ ⟨Nat.le_of_ble_eq_true rfl, Nat.le_of_ble_eq_true rfl⟩ dX11_mix_40) hS (fun H locs hb_p4 hP hS => ?_)
      refine lv_if_eq (tgt := 48) hx hb dX11_mix_43 (by decide) (fun c => ?_) (fun c => ?_)
      · have h := (if_pos c).symm.trans h
        exact absurd h (fun h => nomatch h)
      · have h := (if_neg c).symm.trans h
        refine lv_iconst (v := 0) hx hb dX11_mix_46 (by decide) ?_
        exact gw_ri X hP hS h dX11_mix_47
    · have h := (if_neg c).symm.trans h
      refine lv_aload_n hx hb dX11_mix_17 rfl (lv_at hl 0 rfl) ?_
      refine lv_iload_n hx hb dX11_mix_18 rfl (lv_at hl 2 rfl) ?_
      obtain ⟨p5, gp5, h⟩ := Option.bind_eq_some_iff.mp h
      refine gw_cz (gw_rV (C := RX11) X hP hS (gc_X11_isCondition l G a1 p3.2 _ gp5) gk_X11_isCondition gv_1306 ⟨gv_1308, gv_s26⟩ (va_recv hT.2.1 hP (ci := 13) (q0 := 33) rfl rfl) rfl rfl (Nat.le_of_ble_eq_true rfl) hl.1 ⟨rfl, rfl⟩ ⟨Nat.le_of_ble_eq_true rfl, Nat.le_of_ble_eq_true rfl⟩ ⟨Nat.le_of_ble_eq_true rfl, Nat.le_of_ble_eq_true rfl⟩ dX11_mix_19) hS (fun H locs hb_p5 hP hS => ?_)
      refine lv_if_eq (tgt := 38) hx hb dX11_mix_22 (by decide) (fun c => ?_) (fun c => ?_)
      · have h := (if_pos c).symm.trans h
        refine lv_iconst (v := 0) hx hb dX11_mix_38 (by decide) ?_
        refine lv_iconst (v := 1) hx hb dX11_mix_39 (by decide) ?_
        obtain ⟨p6, gp6, h⟩ := Option.bind_eq_some_iff.mp h
        refine gw_cz (gw_rV (C := RX11) X hP hS (gc_X11_no l G (0 : Int32) (1 : Int32) p5.2 _ gp6) gk_X11_no gv_1209 ⟨gv_1211, gv_s22⟩ (va_recv hT.2.1 hP (ci := 13) (q0 := 33) rfl rfl) rfl rfl (Nat.le_of_ble_eq_true rfl) hl.1 ⟨rfl, rfl⟩ ⟨Nat.le_of_ble_eq_true rfl, Nat.le_of_ble_eq_true rfl⟩ ⟨Nat.le_of_ble_eq_true rfl, Nat.le_of_ble_eq_true rfl⟩ dX11_mix_40) hS (fun H locs hb_p6 hP hS => ?_)
        refine lv_if_eq (tgt := 48) hx hb dX11_mix_43 (by decide) (fun c => ?_) (fun c => ?_)
        · have h := (if_pos c).symm.trans h
          exact absurd h (fun h => nomatch h)
        · have h := (if_neg c).symm.trans h
          refine lv_iconst (v := 0) hx hb dX11_mix_46 (by decide) ?_
          exact gw_ri X hP hS h dX11_mix_47
      · have h := (if_neg c).symm.trans h
        refine lv_aload_n hx hb dX11_mix_25 rfl (lv_at hl 0 rfl) ?_
        refine lv_iload hx hb dX11_mix_26 (lv_at hl 4 rfl) ?_
        obtain ⟨p7, gp7, h⟩ := Option.bind_eq_some_iff.mp h
        refine gw_cz (gw_rV (C := RX11) X hP hS (gc_X11_isCondition l G a3 p5.2 _ gp7) gk_X11_isCondition gv_1306 ⟨gv_1308, gv_s26⟩ (va_recv hT.2.1 hP (ci := 13) (q0 := 33) rfl rfl) rfl rfl (Nat.le_of_ble_eq_true rfl) hl.1 ⟨rfl, rfl⟩ ⟨Nat.le_of_ble_eq_true rfl, Nat.le_of_ble_eq_true rfl⟩ ⟨Nat.le_of_ble_eq_true rfl, Nat.le_of_ble_eq_true rfl⟩ dX11_mix_28) hS (fun H locs hb_p7 hP hS => ?_)
        refine lv_if_eq (tgt := 38) hx hb dX11_mix_31 (by decide) (fun c => ?_) (fun c => ?_)
        · have h := (if_pos c).symm.trans h
          refine lv_iconst (v := 0) hx hb dX11_mix_38 (by decide) ?_
          refine lv_iconst (v := 1) hx hb dX11_mix_39 (by decide) ?_
          obtain ⟨p8, gp8, h⟩ := Option.bind_eq_some_iff.mp h
          refine gw_cz (gw_rV (C := RX11) X hP hS (gc_X11_no l G (0 : Int32) (1 : Int32) p7.2 _ gp8) gk_X11_no gv_1209 ⟨gv_1211, gv_s22⟩ (va_recv hT.2.1 hP (ci := 13) (q0 := 33) rfl rfl) rfl rfl (Nat.le_of_ble_eq_true rfl) hl.1 ⟨rfl, rfl⟩ ⟨Nat.le_of_ble_eq_true rfl, Nat.le_of_ble_eq_true rfl⟩ ⟨Nat.le_of_ble_eq_true rfl, Nat.le_of_ble_eq_true rfl⟩ dX11_mix_40) hS (fun H locs hb_p8 hP hS => ?_)
          refine lv_if_eq (tgt := 48) hx hb dX11_mix_43 (by decide) (fun c => ?_) (fun c => ?_)
          · have h := (if_pos c).symm.trans h
            exact absurd h (fun h => nomatch h)
          · have h := (if_neg c).symm.trans h
            refine lv_iconst (v := 0) hx hb dX11_mix_46 (by decide) ?_
            exact gw_ri X hP hS h dX11_mix_47
        · have h := (if_neg c).symm.trans h
          refine lv_iconst (v := 1) hx hb dX11_mix_34 (by decide) ?_
          refine lv_goto (tgt := 39) hx hb dX11_mix_35 (by decide) ?_
          refine lv_iconst (v := 1) hx hb dX11_mix_39 (by decide) ?_
          obtain ⟨p9, gp9, h⟩ := Option.bind_eq_some_iff.mp h
          refine gw_cz (gw_rV (C := RX11) X hP hS (gc_X11_no l G (1 : Int32) (1 : Int32) p7.2 _ gp9) gk_X11_no gv_1209 ⟨gv_1211, gv_s22⟩ (va_recv hT.2.1 hP (ci := 13) (q0 := 33) rfl rfl) rfl rfl (Nat.le_of_ble_eq_true rfl) hl.1 ⟨rfl, rfl⟩ ⟨Nat.le_of_ble_eq_true rfl, Nat.le_of_ble_eq_true rfl⟩ ⟨Nat.le_of_ble_eq_true rfl, Nat.le_of_ble_eq_true rfl⟩ dX11_mix_40) hS (fun H locs hb_p9 hP hS => ?_)
          refine lv_if_eq (tgt := 48) hx hb dX11_mix_43 (by decide) (fun c => ?_) (fun c => ?_)
          · have h := (if_pos c).symm.trans h
            exact absurd h (fun h => nomatch h)
          · have h := (if_neg c).symm.trans h
            refine lv_iconst (v := 0) hx hb dX11_mix_46 (by decide) ?_
            exact gw_ri X hP hS h dX11_mix_47
def f_X11_both (a0 : Int32) (a1 : Int32) (a2 : Int32) (σ : gw_S) : Option (Int32 × gw_S) := ((f_X11_isFormula a1 σ).bind fun p1 => (if p1.1 = 0 then ((f_X11_no (0 : Int32) (1 : Int32) p1.2).bind fun p2 => (if p2.1 = 0 then (if a0 = (97 : Int32) then ((f_X11_no (1 : Int32) (2 : Int32) p2.2).bind fun p3 => (if p3.1 = 0 then none else (some ((0 : Int32), p3.2)))) else (if a0 = (111 : Int32) then ((f_X11_no (1 : Int32) (2 : Int32) p2.2).bind fun p5 => (if p5.1 = 0 then none else (some ((0 : Int32), p5.2)))) else ((f_X11_no (0 : Int32) (2 : Int32) p2.2).bind fun p4 => (if p4.1 = 0 then none else (some ((0 : Int32), p4.2)))))) else (some ((0 : Int32), p2.2)))) else ((f_X11_isFormula a2 p1.2).bind fun p6 => (if p6.1 = 0 then ((f_X11_no (0 : Int32) (1 : Int32) p6.2).bind fun p7 => (if p7.1 = 0 then (if a0 = (97 : Int32) then ((f_X11_no (1 : Int32) (2 : Int32) p7.2).bind fun p8 => (if p8.1 = 0 then none else (some ((0 : Int32), p8.2)))) else (if a0 = (111 : Int32) then ((f_X11_no (1 : Int32) (2 : Int32) p7.2).bind fun p10 => (if p10.1 = 0 then none else (some ((0 : Int32), p10.2)))) else ((f_X11_no (0 : Int32) (2 : Int32) p7.2).bind fun p9 => (if p9.1 = 0 then none else (some ((0 : Int32), p9.2)))))) else (some ((0 : Int32), p7.2)))) else ((f_X11_no (1 : Int32) (1 : Int32) p6.2).bind fun p11 => (if p11.1 = 0 then (if a0 = (97 : Int32) then ((f_X11_no (1 : Int32) (2 : Int32) p11.2).bind fun p12 => (if p12.1 = 0 then none else (some ((0 : Int32), p12.2)))) else (if a0 = (111 : Int32) then ((f_X11_no (1 : Int32) (2 : Int32) p11.2).bind fun p14 => (if p14.1 = 0 then none else (some ((0 : Int32), p14.2)))) else ((f_X11_no (0 : Int32) (2 : Int32) p11.2).bind fun p13 => (if p13.1 = 0 then none else (some ((0 : Int32), p13.2)))))) else (some ((0 : Int32), p11.2))))))))
set_option maxHeartbeats 4000000 in
set_option maxRecDepth 100000 in
theorem gc_X11_both (l : Launch) (G : gw_G) (a0 : Int32) (a1 : Int32) (a2 : Int32) (σ : gw_S) (o : (Int32 × gw_S)) (h : f_X11_both a0 a1 a2 σ = some o) : gw_M (fun sz => gw_QI G sz o) l yX11_both cX11_both 5 (some .int) { frames := 2, cells := 0, slots := 0, locals := 43 } G [.ref (G.2.1 33), .int a0, .int a1, .int a2] σ := by
  refine gw_en (own := RX11) (lv := [(0, .ref (G.2.1 33)), (1, .int a0), (2, .int a1), (3, .int a2)]) (by decide +kernel) rfl (Nat.le_of_ble_eq_true rfl) rfl ?_
  intro p e s m below meth c ls X hl hP
  obtain ⟨hx, hb, hml, hown, hts, -, -, hT, hZ, -⟩ := id X
  have hS : va_S (gw_A G s.heap.size) s.heap s.heap [] := va_S.rf
  unfold f_X11_both at h
  refine lv_aload_n hx hb dX11_both_0 rfl (lv_at hl 0 rfl) ?_
  refine lv_aload_n hx hb dX11_both_1 rfl (lv_at hl 0 rfl) ?_
  refine lv_iload_n hx hb dX11_both_2 rfl (lv_at hl 2 rfl) ?_
  obtain ⟨p1, gp1, h⟩ := Option.bind_eq_some_iff.mp h
  refine gw_cz (gw_rV (C := RX11) X hP hS (gc_X11_isFormula l G a1 σ _ gp1) gk_X11_isFormula gv_1652 ⟨gv_1654, gv_s44⟩ (va_recv hT.2.1 hP (ci := 13) (q0 := 33) rfl rfl) rfl rfl (Nat.le_of_ble_eq_true rfl) hl.1 ⟨rfl, rfl⟩ ⟨Nat.le_of_ble_eq_true rfl, Nat.le_of_ble_eq_true rfl⟩ ⟨Nat.le_of_ble_eq_true rfl, Nat.le_of_ble_eq_true rfl⟩ dX11_both_3) hS (fun H locs hb_p1 hP hS => ?_)
  refine lv_if_eq (tgt := 21) hx hb dX11_both_6 (by decide) (fun c => ?_) (fun c => ?_)
  · have h := (if_pos c).symm.trans h
    refine lv_iconst (v := 0) hx hb dX11_both_21 (by decide) ?_
    refine lv_iconst (v := 1) hx hb dX11_both_22 (by decide) ?_
    obtain ⟨p2, gp2, h⟩ := Option.bind_eq_some_iff.mp h
    refine gw_cz (gw_rV (C := RX11) X hP hS (gc_X11_no l G (0 : Int32) (1 : Int32) p1.2 _ gp2) gk_X11_no gv_1209 ⟨gv_1211, gv_s22⟩ (va_recv hT.2.1 hP (ci := 13) (q0 := 33) rfl rfl) rfl rfl (Nat.le_of_ble_eq_true rfl) hl.1 ⟨rfl, rfl⟩ ⟨Nat.le_of_ble_eq_true rfl, Nat.le_of_ble_eq_true rfl⟩ ⟨Nat.le_of_ble_eq_true rfl, Nat.le_of_ble_eq_true rfl⟩ dX11_both_23) hS (fun H locs hb_p2 hP hS => ?_)
    refine lv_if_ne (tgt := 54) hx hb dX11_both_26 (by decide) (fun c => ?_) (fun c => ?_)
    · have h := (if_neg c).symm.trans h
      refine lv_iconst (v := 0) hx hb dX11_both_54 (by decide) ?_
      exact gw_ri X hP hS h dX11_both_55
    · have h := (if_pos c).symm.trans h
      refine lv_aload_n hx hb dX11_both_29 rfl (lv_at hl 0 rfl) ?_
      refine lv_iload_n hx hb dX11_both_30 rfl (lv_at hl 1 rfl) ?_
      refine lv_bipush (v := 97) hx hb dX11_both_31 (by decide) ?_
      refine lv_icmp_eq (tgt := 42) hx hb dX11_both_33 (by decide) (fun c => ?_) (fun c => ?_)
      · have h := (if_pos c).symm.trans h
        refine lv_iconst (v := 1) hx hb dX11_both_42 (by decide) ?_
        refine lv_goto (tgt := 47) hx hb dX11_both_43 (by decide) ?_
        refine lv_iconst (v := 2) hx hb dX11_both_47 (by decide) ?_
        obtain ⟨p3, gp3, h⟩ := Option.bind_eq_some_iff.mp h
        refine gw_cz (gw_rV (C := RX11) X hP hS (gc_X11_no l G (1 : Int32) (2 : Int32) p2.2 _ gp3) gk_X11_no gv_1209 ⟨gv_1211, gv_s22⟩ (va_recv hT.2.1 hP (ci := 13) (q0 := 33) rfl rfl) rfl rfl (Nat.le_of_ble_eq_true rfl) hl.1 ⟨rfl, rfl⟩ ⟨Nat.le_of_ble_eq_true rfl, Nat.le_of_ble_eq_true rfl⟩ ⟨Nat.le_of_ble_eq_true rfl, Nat.le_of_ble_eq_true rfl⟩ dX11_both_48) hS (fun H locs hb_p3 hP hS => ?_)
        refine lv_if_eq (tgt := 56) hx hb dX11_both_51 (by decide) (fun c => ?_) (fun c => ?_)
        · have h := (if_pos c).symm.trans h
          refine lv_aload_n hx hb dX11_both_56 rfl (lv_at hl 0 rfl) ?_
          refine lv_iload_n hx hb dX11_both_57 rfl (lv_at hl 2 rfl) ?_
          exact absurd h (fun h => nomatch h)
        · have h := (if_neg c).symm.trans h
          refine lv_iconst (v := 0) hx hb dX11_both_54 (by decide) ?_
          exact gw_ri X hP hS h dX11_both_55
      · have h := (if_neg c).symm.trans h
        refine lv_iload_n hx hb dX11_both_36 rfl (lv_at hl 1 rfl) ?_
        refine lv_bipush (v := 111) hx hb dX11_both_37 (by decide) ?_
        refine lv_icmp_ne (tgt := 46) hx hb dX11_both_39 (by decide) (fun c => ?_) (fun c => ?_)
        · have h := (if_neg c).symm.trans h
          refine lv_iconst (v := 0) hx hb dX11_both_46 (by decide) ?_
          refine lv_iconst (v := 2) hx hb dX11_both_47 (by decide) ?_
          obtain ⟨p4, gp4, h⟩ := Option.bind_eq_some_iff.mp h
          refine gw_cz (gw_rV (C := RX11) X hP hS (gc_X11_no l G (0 : Int32) (2 : Int32) p2.2 _ gp4) gk_X11_no gv_1209 ⟨gv_1211, gv_s22⟩ (va_recv hT.2.1 hP (ci := 13) (q0 := 33) rfl rfl) rfl rfl (Nat.le_of_ble_eq_true rfl) hl.1 ⟨rfl, rfl⟩ ⟨Nat.le_of_ble_eq_true rfl, Nat.le_of_ble_eq_true rfl⟩ ⟨Nat.le_of_ble_eq_true rfl, Nat.le_of_ble_eq_true rfl⟩ dX11_both_48) hS (fun H locs hb_p4 hP hS => ?_)
          refine lv_if_eq (tgt := 56) hx hb dX11_both_51 (by decide) (fun c => ?_) (fun c => ?_)
          · have h := (if_pos c).symm.trans h
            refine lv_aload_n hx hb dX11_both_56 rfl (lv_at hl 0 rfl) ?_
            refine lv_iload_n hx hb dX11_both_57 rfl (lv_at hl 2 rfl) ?_
            exact absurd h (fun h => nomatch h)
          · have h := (if_neg c).symm.trans h
            refine lv_iconst (v := 0) hx hb dX11_both_54 (by decide) ?_
            exact gw_ri X hP hS h dX11_both_55
        · have h := (if_pos c).symm.trans h
          refine lv_iconst (v := 1) hx hb dX11_both_42 (by decide) ?_
          refine lv_goto (tgt := 47) hx hb dX11_both_43 (by decide) ?_
          refine lv_iconst (v := 2) hx hb dX11_both_47 (by decide) ?_
          obtain ⟨p5, gp5, h⟩ := Option.bind_eq_some_iff.mp h
          refine gw_cz (gw_rV (C := RX11) X hP hS (gc_X11_no l G (1 : Int32) (2 : Int32) p2.2 _ gp5) gk_X11_no gv_1209 ⟨gv_1211, gv_s22⟩ (va_recv hT.2.1 hP (ci := 13) (q0 := 33) rfl rfl) rfl rfl (Nat.le_of_ble_eq_true rfl) hl.1 ⟨rfl, rfl⟩ ⟨Nat.le_of_ble_eq_true rfl, Nat.le_of_ble_eq_true rfl⟩ ⟨Nat.le_of_ble_eq_true rfl, Nat.le_of_ble_eq_true rfl⟩ dX11_both_48) hS (fun H locs hb_p5 hP hS => ?_)
          refine lv_if_eq (tgt := 56) hx hb dX11_both_51 (by decide) (fun c => ?_) (fun c => ?_)
          · have h := (if_pos c).symm.trans h
            refine lv_aload_n hx hb dX11_both_56 rfl (lv_at hl 0 rfl) ?_
            refine lv_iload_n hx hb dX11_both_57 rfl (lv_at hl 2 rfl) ?_
            exact absurd h (fun h => nomatch h)
          · have h := (if_neg c).symm.trans h
            refine lv_iconst (v := 0) hx hb dX11_both_54 (by decide) ?_
            exact gw_ri X hP hS h dX11_both_55
  · have h := (if_neg c).symm.trans h
    refine lv_aload_n hx hb dX11_both_9 rfl (lv_at hl 0 rfl) ?_
    refine lv_iload_n hx hb dX11_both_10 rfl (lv_at hl 3 rfl) ?_
    obtain ⟨p6, gp6, h⟩ := Option.bind_eq_some_iff.mp h
    refine gw_cz (gw_rV (C := RX11) X hP hS (gc_X11_isFormula l G a2 p1.2 _ gp6) gk_X11_isFormula gv_1652 ⟨gv_1654, gv_s44⟩ (va_recv hT.2.1 hP (ci := 13) (q0 := 33) rfl rfl) rfl rfl (Nat.le_of_ble_eq_true rfl) hl.1 ⟨rfl, rfl⟩ ⟨Nat.le_of_ble_eq_true rfl, Nat.le_of_ble_eq_true rfl⟩ ⟨Nat.le_of_ble_eq_true rfl, Nat.le_of_ble_eq_true rfl⟩ dX11_both_11) hS (fun H locs hb_p6 hP hS => ?_)
    refine lv_if_eq (tgt := 21) hx hb dX11_both_14 (by decide) (fun c => ?_) (fun c => ?_)
    · have h := (if_pos c).symm.trans h
      refine lv_iconst (v := 0) hx hb dX11_both_21 (by decide) ?_
      refine lv_iconst (v := 1) hx hb dX11_both_22 (by decide) ?_
      obtain ⟨p7, gp7, h⟩ := Option.bind_eq_some_iff.mp h
      refine gw_cz (gw_rV (C := RX11) X hP hS (gc_X11_no l G (0 : Int32) (1 : Int32) p6.2 _ gp7) gk_X11_no gv_1209 ⟨gv_1211, gv_s22⟩ (va_recv hT.2.1 hP (ci := 13) (q0 := 33) rfl rfl) rfl rfl (Nat.le_of_ble_eq_true rfl) hl.1 ⟨rfl, rfl⟩ ⟨Nat.le_of_ble_eq_true rfl, Nat.le_of_ble_eq_true rfl⟩ ⟨Nat.le_of_ble_eq_true rfl, Nat.le_of_ble_eq_true rfl⟩ dX11_both_23) hS (fun H locs hb_p7 hP hS => ?_)
      refine lv_if_ne (tgt := 54) hx hb dX11_both_26 (by decide) (fun c => ?_) (fun c => ?_)
      · have h := (if_neg c).symm.trans h
        refine lv_iconst (v := 0) hx hb dX11_both_54 (by decide) ?_
        exact gw_ri X hP hS h dX11_both_55
      · have h := (if_pos c).symm.trans h
        refine lv_aload_n hx hb dX11_both_29 rfl (lv_at hl 0 rfl) ?_
        refine lv_iload_n hx hb dX11_both_30 rfl (lv_at hl 1 rfl) ?_
        refine lv_bipush (v := 97) hx hb dX11_both_31 (by decide) ?_
        refine lv_icmp_eq (tgt := 42) hx hb dX11_both_33 (by decide) (fun c => ?_) (fun c => ?_)
        · have h := (if_pos c).symm.trans h
          refine lv_iconst (v := 1) hx hb dX11_both_42 (by decide) ?_
          refine lv_goto (tgt := 47) hx hb dX11_both_43 (by decide) ?_
          refine lv_iconst (v := 2) hx hb dX11_both_47 (by decide) ?_
          obtain ⟨p8, gp8, h⟩ := Option.bind_eq_some_iff.mp h
          refine gw_cz (gw_rV (C := RX11) X hP hS (gc_X11_no l G (1 : Int32) (2 : Int32) p7.2 _ gp8) gk_X11_no gv_1209 ⟨gv_1211, gv_s22⟩ (va_recv hT.2.1 hP (ci := 13) (q0 := 33) rfl rfl) rfl rfl (Nat.le_of_ble_eq_true rfl) hl.1 ⟨rfl, rfl⟩ ⟨Nat.le_of_ble_eq_true rfl, Nat.le_of_ble_eq_true rfl⟩ ⟨Nat.le_of_ble_eq_true rfl, Nat.le_of_ble_eq_true rfl⟩ dX11_both_48) hS (fun H locs hb_p8 hP hS => ?_)
          refine lv_if_eq (tgt := 56) hx hb dX11_both_51 (by decide) (fun c => ?_) (fun c => ?_)
          · have h := (if_pos c).symm.trans h
            refine lv_aload_n hx hb dX11_both_56 rfl (lv_at hl 0 rfl) ?_
            refine lv_iload_n hx hb dX11_both_57 rfl (lv_at hl 2 rfl) ?_
            exact absurd h (fun h => nomatch h)
          · have h := (if_neg c).symm.trans h
            refine lv_iconst (v := 0) hx hb dX11_both_54 (by decide) ?_
            exact gw_ri X hP hS h dX11_both_55
        · have h := (if_neg c).symm.trans h
          refine lv_iload_n hx hb dX11_both_36 rfl (lv_at hl 1 rfl) ?_
          refine lv_bipush (v := 111) hx hb dX11_both_37 (by decide) ?_
          refine lv_icmp_ne (tgt := 46) hx hb dX11_both_39 (by decide) (fun c => ?_) (fun c => ?_)
          · have h := (if_neg c).symm.trans h
            refine lv_iconst (v := 0) hx hb dX11_both_46 (by decide) ?_
            refine lv_iconst (v := 2) hx hb dX11_both_47 (by decide) ?_
            obtain ⟨p9, gp9, h⟩ := Option.bind_eq_some_iff.mp h
            refine gw_cz (gw_rV (C := RX11) X hP hS (gc_X11_no l G (0 : Int32) (2 : Int32) p7.2 _ gp9) gk_X11_no gv_1209 ⟨gv_1211, gv_s22⟩ (va_recv hT.2.1 hP (ci := 13) (q0 := 33) rfl rfl) rfl rfl (Nat.le_of_ble_eq_true rfl) hl.1 ⟨rfl, rfl⟩ ⟨Nat.le_of_ble_eq_true rfl, Nat.le_of_ble_eq_true rfl⟩ ⟨Nat.le_of_ble_eq_true rfl, Nat.le_of_ble_eq_true rfl⟩ dX11_both_48) hS (fun H locs hb_p9 hP hS => ?_)
            refine lv_if_eq (tgt := 56) hx hb dX11_both_51 (by decide) (fun c => ?_) (fun c => ?_)
            · have h := (if_pos c).symm.trans h
              refine lv_aload_n hx hb dX11_both_56 rfl (lv_at hl 0 rfl) ?_
              refine lv_iload_n hx hb dX11_both_57 rfl (lv_at hl 2 rfl) ?_
              exact absurd h (fun h => nomatch h)
            · have h := (if_neg c).symm.trans h
              refine lv_iconst (v := 0) hx hb dX11_both_54 (by decide) ?_
              exact gw_ri X hP hS h dX11_both_55
          · have h := (if_pos c).symm.trans h
            refine lv_iconst (v := 1) hx hb dX11_both_42 (by decide) ?_
            refine lv_goto (tgt := 47) hx hb dX11_both_43 (by decide) ?_
            refine lv_iconst (v := 2) hx hb dX11_both_47 (by decide) ?_
            obtain ⟨p10, gp10, h⟩ := Option.bind_eq_some_iff.mp h
            refine gw_cz (gw_rV (C := RX11) X hP hS (gc_X11_no l G (1 : Int32) (2 : Int32) p7.2 _ gp10) gk_X11_no gv_1209 ⟨gv_1211, gv_s22⟩ (va_recv hT.2.1 hP (ci := 13) (q0 := 33) rfl rfl) rfl rfl (Nat.le_of_ble_eq_true rfl) hl.1 ⟨rfl, rfl⟩ ⟨Nat.le_of_ble_eq_true rfl, Nat.le_of_ble_eq_true rfl⟩ ⟨Nat.le_of_ble_eq_true rfl, Nat.le_of_ble_eq_true rfl⟩ dX11_both_48) hS (fun H locs hb_p10 hP hS => ?_)
            refine lv_if_eq (tgt := 56) hx hb dX11_both_51 (by decide) (fun c => ?_) (fun c => ?_)
            · have h := (if_pos c).symm.trans h
              refine lv_aload_n hx hb dX11_both_56 rfl (lv_at hl 0 rfl) ?_
              refine lv_iload_n hx hb dX11_both_57 rfl (lv_at hl 2 rfl) ?_
              exact absurd h (fun h => nomatch h)
            · have h := (if_neg c).symm.trans h
              refine lv_iconst (v := 0) hx hb dX11_both_54 (by decide) ?_
              exact gw_ri X hP hS h dX11_both_55
    · have h := (if_neg c).symm.trans h
      refine lv_iconst (v := 1) hx hb dX11_both_17 (by decide) ?_
      refine lv_goto (tgt := 22) hx hb dX11_both_18 (by decide) ?_
      refine lv_iconst (v := 1) hx hb dX11_both_22 (by decide) ?_
      obtain ⟨p11, gp11, h⟩ := Option.bind_eq_some_iff.mp h
      refine gw_cz (gw_rV (C := RX11) X hP hS (gc_X11_no l G (1 : Int32) (1 : Int32) p6.2 _ gp11) gk_X11_no gv_1209 ⟨gv_1211, gv_s22⟩ (va_recv hT.2.1 hP (ci := 13) (q0 := 33) rfl rfl) rfl rfl (Nat.le_of_ble_eq_true rfl) hl.1 ⟨rfl, rfl⟩ ⟨Nat.le_of_ble_eq_true rfl, Nat.le_of_ble_eq_true rfl⟩ ⟨Nat.le_of_ble_eq_true rfl, Nat.le_of_ble_eq_true rfl⟩ dX11_both_23) hS (fun H locs hb_p11 hP hS => ?_)
      refine lv_if_ne (tgt := 54) hx hb dX11_both_26 (by decide) (fun c => ?_) (fun c => ?_)
      · have h := (if_neg c).symm.trans h
        refine lv_iconst (v := 0) hx hb dX11_both_54 (by decide) ?_
        exact gw_ri X hP hS h dX11_both_55
      · have h := (if_pos c).symm.trans h
        refine lv_aload_n hx hb dX11_both_29 rfl (lv_at hl 0 rfl) ?_
        refine lv_iload_n hx hb dX11_both_30 rfl (lv_at hl 1 rfl) ?_
        refine lv_bipush (v := 97) hx hb dX11_both_31 (by decide) ?_
        refine lv_icmp_eq (tgt := 42) hx hb dX11_both_33 (by decide) (fun c => ?_) (fun c => ?_)
        · have h := (if_pos c).symm.trans h
          refine lv_iconst (v := 1) hx hb dX11_both_42 (by decide) ?_
          refine lv_goto (tgt := 47) hx hb dX11_both_43 (by decide) ?_
          refine lv_iconst (v := 2) hx hb dX11_both_47 (by decide) ?_
          obtain ⟨p12, gp12, h⟩ := Option.bind_eq_some_iff.mp h
          refine gw_cz (gw_rV (C := RX11) X hP hS (gc_X11_no l G (1 : Int32) (2 : Int32) p11.2 _ gp12) gk_X11_no gv_1209 ⟨gv_1211, gv_s22⟩ (va_recv hT.2.1 hP (ci := 13) (q0 := 33) rfl rfl) rfl rfl (Nat.le_of_ble_eq_true rfl) hl.1 ⟨rfl, rfl⟩ ⟨Nat.le_of_ble_eq_true rfl, Nat.le_of_ble_eq_true rfl⟩ ⟨Nat.le_of_ble_eq_true rfl, Nat.le_of_ble_eq_true rfl⟩ dX11_both_48) hS (fun H locs hb_p12 hP hS => ?_)
          refine lv_if_eq (tgt := 56) hx hb dX11_both_51 (by decide) (fun c => ?_) (fun c => ?_)
          · have h := (if_pos c).symm.trans h
            refine lv_aload_n hx hb dX11_both_56 rfl (lv_at hl 0 rfl) ?_
            refine lv_iload_n hx hb dX11_both_57 rfl (lv_at hl 2 rfl) ?_
            exact absurd h (fun h => nomatch h)
          · have h := (if_neg c).symm.trans h
            refine lv_iconst (v := 0) hx hb dX11_both_54 (by decide) ?_
            exact gw_ri X hP hS h dX11_both_55
        · have h := (if_neg c).symm.trans h
          refine lv_iload_n hx hb dX11_both_36 rfl (lv_at hl 1 rfl) ?_
          refine lv_bipush (v := 111) hx hb dX11_both_37 (by decide) ?_
          refine lv_icmp_ne (tgt := 46) hx hb dX11_both_39 (by decide) (fun c => ?_) (fun c => ?_)
          · have h := (if_neg c).symm.trans h
            refine lv_iconst (v := 0) hx hb dX11_both_46 (by decide) ?_
            refine lv_iconst (v := 2) hx hb dX11_both_47 (by decide) ?_
            obtain ⟨p13, gp13, h⟩ := Option.bind_eq_some_iff.mp h
            refine gw_cz (gw_rV (C := RX11) X hP hS (gc_X11_no l G (0 : Int32) (2 : Int32) p11.2 _ gp13) gk_X11_no gv_1209 ⟨gv_1211, gv_s22⟩ (va_recv hT.2.1 hP (ci := 13) (q0 := 33) rfl rfl) rfl rfl (Nat.le_of_ble_eq_true rfl) hl.1 ⟨rfl, rfl⟩ ⟨Nat.le_of_ble_eq_true rfl, Nat.le_of_ble_eq_true rfl⟩ ⟨Nat.le_of_ble_eq_true rfl, Nat.le_of_ble_eq_true rfl⟩ dX11_both_48) hS (fun H locs hb_p13 hP hS => ?_)
            refine lv_if_eq (tgt := 56) hx hb dX11_both_51 (by decide) (fun c => ?_) (fun c => ?_)
            · have h := (if_pos c).symm.trans h
              refine lv_aload_n hx hb dX11_both_56 rfl (lv_at hl 0 rfl) ?_
              refine lv_iload_n hx hb dX11_both_57 rfl (lv_at hl 2 rfl) ?_
              exact absurd h (fun h => nomatch h)
            · have h := (if_neg c).symm.trans h
              refine lv_iconst (v := 0) hx hb dX11_both_54 (by decide) ?_
              exact gw_ri X hP hS h dX11_both_55
          · have h := (if_pos c).symm.trans h
            refine lv_iconst (v := 1) hx hb dX11_both_42 (by decide) ?_
            refine lv_goto (tgt := 47) hx hb dX11_both_43 (by decide) ?_
            refine lv_iconst (v := 2) hx hb dX11_both_47 (by decide) ?_
            obtain ⟨p14, gp14, h⟩ := Option.bind_eq_some_iff.mp h
            refine gw_cz (gw_rV (C := RX11) X hP hS (gc_X11_no l G (1 : Int32) (2 : Int32) p11.2 _ gp14) gk_X11_no gv_1209 ⟨gv_1211, gv_s22⟩ (va_recv hT.2.1 hP (ci := 13) (q0 := 33) rfl rfl) rfl rfl (Nat.le_of_ble_eq_true rfl) hl.1 ⟨rfl, rfl⟩ ⟨Nat.le_of_ble_eq_true rfl, Nat.le_of_ble_eq_true rfl⟩ ⟨Nat.le_of_ble_eq_true rfl, Nat.le_of_ble_eq_true rfl⟩ dX11_both_48) hS (fun H locs hb_p14 hP hS => ?_)
            refine lv_if_eq (tgt := 56) hx hb dX11_both_51 (by decide) (fun c => ?_) (fun c => ?_)
            · have h := (if_pos c).symm.trans h
              refine lv_aload_n hx hb dX11_both_56 rfl (lv_at hl 0 rfl) ?_
              refine lv_iload_n hx hb dX11_both_57 rfl (lv_at hl 2 rfl) ?_
              exact absurd h (fun h => nomatch h)
            · have h := (if_neg c).symm.trans h
              refine lv_iconst (v := 0) hx hb dX11_both_54 (by decide) ?_
              exact gw_ri X hP hS h dX11_both_55
def f_X11_not (a0 : Int32) (σ : gw_S) : Option (Int32 × gw_S) := ((f_X11_isFormula a0 σ).bind fun p1 => ((f_X11_no p1.1 (1 : Int32) p1.2).bind fun p2 => (if p2.1 = 0 then none else (some ((0 : Int32), p2.2)))))
set_option maxHeartbeats 4000000 in
set_option maxRecDepth 100000 in
theorem gc_X11_not (l : Launch) (G : gw_G) (a0 : Int32) (σ : gw_S) (o : (Int32 × gw_S)) (h : f_X11_not a0 σ = some o) : gw_M (fun sz => gw_QI G sz o) l yX11_not cX11_not 2 (some .int) { frames := 2, cells := 0, slots := 0, locals := 43 } G [.ref (G.2.1 33), .int a0] σ := by
  refine gw_en (own := RX11) (lv := [(0, .ref (G.2.1 33)), (1, .int a0)]) (by decide +kernel) rfl (Nat.le_of_ble_eq_true rfl) rfl ?_
  intro p e s m below meth c ls X hl hP
  obtain ⟨hx, hb, hml, hown, hts, -, -, hT, hZ, -⟩ := id X
  have hS : va_S (gw_A G s.heap.size) s.heap s.heap [] := va_S.rf
  unfold f_X11_not at h
  refine lv_aload_n hx hb dX11_not_0 rfl (lv_at hl 0 rfl) ?_
  refine lv_aload_n hx hb dX11_not_1 rfl (lv_at hl 0 rfl) ?_
  refine lv_iload_n hx hb dX11_not_2 rfl (lv_at hl 1 rfl) ?_
  obtain ⟨p1, gp1, h⟩ := Option.bind_eq_some_iff.mp h
  refine gw_cz (gw_rV (C := RX11) X hP hS (gc_X11_isFormula l G a0 σ _ gp1) gk_X11_isFormula gv_1652 ⟨gv_1654, gv_s44⟩ (va_recv hT.2.1 hP (ci := 13) (q0 := 33) rfl rfl) rfl rfl (Nat.le_of_ble_eq_true rfl) hl.1 ⟨rfl, rfl⟩ ⟨Nat.le_of_ble_eq_true rfl, Nat.le_of_ble_eq_true rfl⟩ ⟨Nat.le_of_ble_eq_true rfl, Nat.le_of_ble_eq_true rfl⟩ dX11_not_3) hS (fun H locs hb_p1 hP hS => ?_)
  refine lv_iconst (v := 1) hx hb dX11_not_6 (by decide) ?_
  obtain ⟨p2, gp2, h⟩ := Option.bind_eq_some_iff.mp h
  refine gw_cz (gw_rV (C := RX11) X hP hS (gc_X11_no l G p1.1 (1 : Int32) p1.2 _ gp2) gk_X11_no gv_1209 ⟨gv_1211, gv_s22⟩ (va_recv hT.2.1 hP (ci := 13) (q0 := 33) rfl rfl) rfl rfl (Nat.le_of_ble_eq_true rfl) hl.1 ⟨rfl, rfl⟩ ⟨Nat.le_of_ble_eq_true rfl, Nat.le_of_ble_eq_true rfl⟩ ⟨Nat.le_of_ble_eq_true rfl, Nat.le_of_ble_eq_true rfl⟩ dX11_not_7) hS (fun H locs hb_p2 hP hS => ?_)
  refine lv_if_ne (tgt := 62) hx hb dX11_not_10 (by decide) (fun c => ?_) (fun c => ?_)
  · have h := (if_neg c).symm.trans h
    refine lv_iconst (v := 0) hx hb dX11_not_62 (by decide) ?_
    exact gw_ri X hP hS h dX11_not_63
  · have h := (if_pos c).symm.trans h
    refine lv_aload_n hx hb dX11_not_13 rfl (lv_at hl 0 rfl) ?_
    refine lv_aload_n hx hb dX11_not_14 rfl (lv_at hl 0 rfl) ?_
    refine lv_iload_n hx hb dX11_not_15 rfl (lv_at hl 1 rfl) ?_
    exact absurd h (fun h => nomatch h)
def f_X11_bind (a0 : Int32) (a1 : Int32) (a2 : Int32) (a3 : Int32) (σ : gw_S) : Option (Int32 × gw_S) := ((f_X11_isFormula a3 σ).bind fun p1 => ((f_X11_no p1.1 (1 : Int32) p1.2).bind fun p2 => (if p2.1 = 0 then (if a0 = (65 : Int32) then ((f_X11_isIn a1 (0 : Int32) (3 : Int32) p2.2).bind fun p3 => (if p3.1 = 0 then ((f_X11_no (0 : Int32) (2 : Int32) p3.2).bind fun p4 => (if p4.1 = 0 then none else (some ((0 : Int32), p4.2)))) else ((f_X11_isTerm a2 p3.2).bind fun p5 => (if p5.1 = 0 then ((f_X11_no (0 : Int32) (2 : Int32) p5.2).bind fun p6 => (if p6.1 = 0 then none else (some ((0 : Int32), p6.2)))) else ((f_X11_no (1 : Int32) (2 : Int32) p5.2).bind fun p7 => (if p7.1 = 0 then none else (some ((0 : Int32), p7.2)))))))) else (if a0 = (69 : Int32) then ((f_X11_isIn a1 (0 : Int32) (3 : Int32) p2.2).bind fun p9 => (if p9.1 = 0 then ((f_X11_no (0 : Int32) (2 : Int32) p9.2).bind fun p10 => (if p10.1 = 0 then none else (some ((0 : Int32), p10.2)))) else ((f_X11_isTerm a2 p9.2).bind fun p11 => (if p11.1 = 0 then ((f_X11_no (0 : Int32) (2 : Int32) p11.2).bind fun p12 => (if p12.1 = 0 then none else (some ((0 : Int32), p12.2)))) else ((f_X11_no (1 : Int32) (2 : Int32) p11.2).bind fun p13 => (if p13.1 = 0 then none else (some ((0 : Int32), p13.2)))))))) else ((f_X11_no (0 : Int32) (2 : Int32) p2.2).bind fun p8 => (if p8.1 = 0 then none else (some ((0 : Int32), p8.2)))))) else (some ((0 : Int32), p2.2)))))
set_option maxHeartbeats 4000000 in
set_option maxRecDepth 100000 in
theorem gc_X11_bind (l : Launch) (G : gw_G) (a0 : Int32) (a1 : Int32) (a2 : Int32) (a3 : Int32) (σ : gw_S) (o : (Int32 × gw_S)) (h : f_X11_bind a0 a1 a2 a3 σ = some o) : gw_M (fun sz => gw_QI G sz o) l yX11_bind cX11_bind 5 (some .int) { frames := 3, cells := 0, slots := 0, locals := 64 } G [.ref (G.2.1 33), .int a0, .int a1, .int a2, .int a3] σ := by
  refine gw_en (own := RX11) (lv := [(0, .ref (G.2.1 33)), (1, .int a0), (2, .int a1), (3, .int a2), (4, .int a3)]) (by decide +kernel) rfl (Nat.le_of_ble_eq_true rfl) rfl ?_
  intro p e s m below meth c ls X hl hP
  obtain ⟨hx, hb, hml, hown, hts, -, -, hT, hZ, -⟩ := id X
  have hS : va_S (gw_A G s.heap.size) s.heap s.heap [] := va_S.rf
  unfold f_X11_bind at h
  refine lv_aload_n hx hb dX11_bind_0 rfl (lv_at hl 0 rfl) ?_
  refine lv_aload_n hx hb dX11_bind_1 rfl (lv_at hl 0 rfl) ?_
  refine lv_iload hx hb dX11_bind_2 (lv_at hl 4 rfl) ?_
  obtain ⟨p1, gp1, h⟩ := Option.bind_eq_some_iff.mp h
  refine gw_cz (gw_rV (C := RX11) X hP hS (gc_X11_isFormula l G a3 σ _ gp1) gk_X11_isFormula gv_1652 ⟨gv_1654, gv_s44⟩ (va_recv hT.2.1 hP (ci := 13) (q0 := 33) rfl rfl) rfl rfl (Nat.le_of_ble_eq_true rfl) hl.1 ⟨rfl, rfl⟩ ⟨Nat.le_of_ble_eq_true rfl, Nat.le_of_ble_eq_true rfl⟩ ⟨Nat.le_of_ble_eq_true rfl, Nat.le_of_ble_eq_true rfl⟩ dX11_bind_4) hS (fun H locs hb_p1 hP hS => ?_)
  refine lv_iconst (v := 1) hx hb dX11_bind_7 (by decide) ?_
  obtain ⟨p2, gp2, h⟩ := Option.bind_eq_some_iff.mp h
  refine gw_cz (gw_rV (C := RX11) X hP hS (gc_X11_no l G p1.1 (1 : Int32) p1.2 _ gp2) gk_X11_no gv_1209 ⟨gv_1211, gv_s22⟩ (va_recv hT.2.1 hP (ci := 13) (q0 := 33) rfl rfl) rfl rfl (Nat.le_of_ble_eq_true rfl) hl.1 ⟨rfl, rfl⟩ ⟨Nat.le_of_ble_eq_true rfl, Nat.le_of_ble_eq_true rfl⟩ ⟨Nat.le_of_ble_eq_true rfl, Nat.le_of_ble_eq_true rfl⟩ dX11_bind_8) hS (fun H locs hb_p2 hP hS => ?_)
  refine lv_if_ne (tgt := 106) hx hb dX11_bind_11 (by decide) (fun c => ?_) (fun c => ?_)
  · have h := (if_neg c).symm.trans h
    refine lv_iconst (v := 0) hx hb dX11_bind_106 (by decide) ?_
    exact gw_ri X hP hS h dX11_bind_107
  · have h := (if_pos c).symm.trans h
    refine lv_aload_n hx hb dX11_bind_14 rfl (lv_at hl 0 rfl) ?_
    refine lv_iload_n hx hb dX11_bind_15 rfl (lv_at hl 1 rfl) ?_
    refine lv_bipush (v := 65) hx hb dX11_bind_16 (by decide) ?_
    refine lv_icmp_eq (tgt := 27) hx hb dX11_bind_18 (by decide) (fun c => ?_) (fun c => ?_)
    · have h := (if_pos c).symm.trans h
      refine lv_iload_n hx hb dX11_bind_27 rfl (lv_at hl 2 rfl) ?_
      refine lv_iconst (v := 0) hx hb dX11_bind_28 (by decide) ?_
      refine lv_iconst (v := 3) hx hb dX11_bind_29 (by decide) ?_
      obtain ⟨p3, gp3, h⟩ := Option.bind_eq_some_iff.mp h
      refine gw_cz (gw_rS X hP hS (gc_X11_isIn l G a1 (0 : Int32) (3 : Int32) p2.2 _ gp3) gk_X11_isIn gv_1310 gv_1311 rfl rfl (Nat.le_of_ble_eq_true rfl) hl.1 ⟨rfl, rfl⟩ ⟨Nat.le_of_ble_eq_true rfl, Nat.le_of_ble_eq_true rfl⟩ ⟨Nat.le_of_ble_eq_true rfl, Nat.le_of_ble_eq_true rfl⟩ dX11_bind_30) hS (fun H locs hb_p3 hP hS => ?_)
      refine lv_if_eq (tgt := 48) hx hb dX11_bind_33 (by decide) (fun c => ?_) (fun c => ?_)
      · have h := (if_pos c).symm.trans h
        refine lv_iconst (v := 0) hx hb dX11_bind_48 (by decide) ?_
        refine lv_iconst (v := 2) hx hb dX11_bind_49 (by decide) ?_
        obtain ⟨p4, gp4, h⟩ := Option.bind_eq_some_iff.mp h
        refine gw_cz (gw_rV (C := RX11) X hP hS (gc_X11_no l G (0 : Int32) (2 : Int32) p3.2 _ gp4) gk_X11_no gv_1209 ⟨gv_1211, gv_s22⟩ (va_recv hT.2.1 hP (ci := 13) (q0 := 33) rfl rfl) rfl rfl (Nat.le_of_ble_eq_true rfl) hl.1 ⟨rfl, rfl⟩ ⟨Nat.le_of_ble_eq_true rfl, Nat.le_of_ble_eq_true rfl⟩ ⟨Nat.le_of_ble_eq_true rfl, Nat.le_of_ble_eq_true rfl⟩ dX11_bind_50) hS (fun H locs hb_p4 hP hS => ?_)
        refine lv_if_ne (tgt := 106) hx hb dX11_bind_53 (by decide) (fun c => ?_) (fun c => ?_)
        · have h := (if_neg c).symm.trans h
          refine lv_iconst (v := 0) hx hb dX11_bind_106 (by decide) ?_
          exact gw_ri X hP hS h dX11_bind_107
        · have h := (if_pos c).symm.trans h
          refine lv_aload_n hx hb dX11_bind_56 rfl (lv_at hl 0 rfl) ?_
          refine lv_aload_n hx hb dX11_bind_57 rfl (lv_at hl 0 rfl) ?_
          refine lv_iload hx hb dX11_bind_58 (lv_at hl 4 rfl) ?_
          exact absurd h (fun h => nomatch h)
      · have h := (if_neg c).symm.trans h
        refine lv_aload_n hx hb dX11_bind_36 rfl (lv_at hl 0 rfl) ?_
        refine lv_iload_n hx hb dX11_bind_37 rfl (lv_at hl 3 rfl) ?_
        obtain ⟨p5, gp5, h⟩ := Option.bind_eq_some_iff.mp h
        refine gw_cz (gw_rV (C := RX11) X hP hS (gc_X11_isTerm l G a2 p3.2 _ gp5) gk_X11_isTerm gv_1609 ⟨gv_1611, gv_s42⟩ (va_recv hT.2.1 hP (ci := 13) (q0 := 33) rfl rfl) rfl rfl (Nat.le_of_ble_eq_true rfl) hl.1 ⟨rfl, rfl⟩ ⟨Nat.le_of_ble_eq_true rfl, Nat.le_of_ble_eq_true rfl⟩ ⟨Nat.le_of_ble_eq_true rfl, Nat.le_of_ble_eq_true rfl⟩ dX11_bind_38) hS (fun H locs hb_p5 hP hS => ?_)
        refine lv_if_eq (tgt := 48) hx hb dX11_bind_41 (by decide) (fun c => ?_) (fun c => ?_)
        · have h := (if_pos c).symm.trans h
          refine lv_iconst (v := 0) hx hb dX11_bind_48 (by decide) ?_
          refine lv_iconst (v := 2) hx hb dX11_bind_49 (by decide) ?_
          obtain ⟨p6, gp6, h⟩ := Option.bind_eq_some_iff.mp h
          refine gw_cz (gw_rV (C := RX11) X hP hS (gc_X11_no l G (0 : Int32) (2 : Int32) p5.2 _ gp6) gk_X11_no gv_1209 ⟨gv_1211, gv_s22⟩ (va_recv hT.2.1 hP (ci := 13) (q0 := 33) rfl rfl) rfl rfl (Nat.le_of_ble_eq_true rfl) hl.1 ⟨rfl, rfl⟩ ⟨Nat.le_of_ble_eq_true rfl, Nat.le_of_ble_eq_true rfl⟩ ⟨Nat.le_of_ble_eq_true rfl, Nat.le_of_ble_eq_true rfl⟩ dX11_bind_50) hS (fun H locs hb_p6 hP hS => ?_)
          refine lv_if_ne (tgt := 106) hx hb dX11_bind_53 (by decide) (fun c => ?_) (fun c => ?_)
          · have h := (if_neg c).symm.trans h
            refine lv_iconst (v := 0) hx hb dX11_bind_106 (by decide) ?_
            exact gw_ri X hP hS h dX11_bind_107
          · have h := (if_pos c).symm.trans h
            refine lv_aload_n hx hb dX11_bind_56 rfl (lv_at hl 0 rfl) ?_
            refine lv_aload_n hx hb dX11_bind_57 rfl (lv_at hl 0 rfl) ?_
            refine lv_iload hx hb dX11_bind_58 (lv_at hl 4 rfl) ?_
            exact absurd h (fun h => nomatch h)
        · have h := (if_neg c).symm.trans h
          refine lv_iconst (v := 1) hx hb dX11_bind_44 (by decide) ?_
          refine lv_goto (tgt := 49) hx hb dX11_bind_45 (by decide) ?_
          refine lv_iconst (v := 2) hx hb dX11_bind_49 (by decide) ?_
          obtain ⟨p7, gp7, h⟩ := Option.bind_eq_some_iff.mp h
          refine gw_cz (gw_rV (C := RX11) X hP hS (gc_X11_no l G (1 : Int32) (2 : Int32) p5.2 _ gp7) gk_X11_no gv_1209 ⟨gv_1211, gv_s22⟩ (va_recv hT.2.1 hP (ci := 13) (q0 := 33) rfl rfl) rfl rfl (Nat.le_of_ble_eq_true rfl) hl.1 ⟨rfl, rfl⟩ ⟨Nat.le_of_ble_eq_true rfl, Nat.le_of_ble_eq_true rfl⟩ ⟨Nat.le_of_ble_eq_true rfl, Nat.le_of_ble_eq_true rfl⟩ dX11_bind_50) hS (fun H locs hb_p7 hP hS => ?_)
          refine lv_if_ne (tgt := 106) hx hb dX11_bind_53 (by decide) (fun c => ?_) (fun c => ?_)
          · have h := (if_neg c).symm.trans h
            refine lv_iconst (v := 0) hx hb dX11_bind_106 (by decide) ?_
            exact gw_ri X hP hS h dX11_bind_107
          · have h := (if_pos c).symm.trans h
            refine lv_aload_n hx hb dX11_bind_56 rfl (lv_at hl 0 rfl) ?_
            refine lv_aload_n hx hb dX11_bind_57 rfl (lv_at hl 0 rfl) ?_
            refine lv_iload hx hb dX11_bind_58 (lv_at hl 4 rfl) ?_
            exact absurd h (fun h => nomatch h)
    · have h := (if_neg c).symm.trans h
      refine lv_iload_n hx hb dX11_bind_21 rfl (lv_at hl 1 rfl) ?_
      refine lv_bipush (v := 69) hx hb dX11_bind_22 (by decide) ?_
      refine lv_icmp_ne (tgt := 48) hx hb dX11_bind_24 (by decide) (fun c => ?_) (fun c => ?_)
      · have h := (if_neg c).symm.trans h
        refine lv_iconst (v := 0) hx hb dX11_bind_48 (by decide) ?_
        refine lv_iconst (v := 2) hx hb dX11_bind_49 (by decide) ?_
        obtain ⟨p8, gp8, h⟩ := Option.bind_eq_some_iff.mp h
        refine gw_cz (gw_rV (C := RX11) X hP hS (gc_X11_no l G (0 : Int32) (2 : Int32) p2.2 _ gp8) gk_X11_no gv_1209 ⟨gv_1211, gv_s22⟩ (va_recv hT.2.1 hP (ci := 13) (q0 := 33) rfl rfl) rfl rfl (Nat.le_of_ble_eq_true rfl) hl.1 ⟨rfl, rfl⟩ ⟨Nat.le_of_ble_eq_true rfl, Nat.le_of_ble_eq_true rfl⟩ ⟨Nat.le_of_ble_eq_true rfl, Nat.le_of_ble_eq_true rfl⟩ dX11_bind_50) hS (fun H locs hb_p8 hP hS => ?_)
        refine lv_if_ne (tgt := 106) hx hb dX11_bind_53 (by decide) (fun c => ?_) (fun c => ?_)
        · have h := (if_neg c).symm.trans h
          refine lv_iconst (v := 0) hx hb dX11_bind_106 (by decide) ?_
          exact gw_ri X hP hS h dX11_bind_107
        · have h := (if_pos c).symm.trans h
          refine lv_aload_n hx hb dX11_bind_56 rfl (lv_at hl 0 rfl) ?_
          refine lv_aload_n hx hb dX11_bind_57 rfl (lv_at hl 0 rfl) ?_
          refine lv_iload hx hb dX11_bind_58 (lv_at hl 4 rfl) ?_
          exact absurd h (fun h => nomatch h)
      · have h := (if_pos c).symm.trans h
        refine lv_iload_n hx hb dX11_bind_27 rfl (lv_at hl 2 rfl) ?_
        refine lv_iconst (v := 0) hx hb dX11_bind_28 (by decide) ?_
        refine lv_iconst (v := 3) hx hb dX11_bind_29 (by decide) ?_
        obtain ⟨p9, gp9, h⟩ := Option.bind_eq_some_iff.mp h
        refine gw_cz (gw_rS X hP hS (gc_X11_isIn l G a1 (0 : Int32) (3 : Int32) p2.2 _ gp9) gk_X11_isIn gv_1310 gv_1311 rfl rfl (Nat.le_of_ble_eq_true rfl) hl.1 ⟨rfl, rfl⟩ ⟨Nat.le_of_ble_eq_true rfl, Nat.le_of_ble_eq_true rfl⟩ ⟨Nat.le_of_ble_eq_true rfl, Nat.le_of_ble_eq_true rfl⟩ dX11_bind_30) hS (fun H locs hb_p9 hP hS => ?_)
        refine lv_if_eq (tgt := 48) hx hb dX11_bind_33 (by decide) (fun c => ?_) (fun c => ?_)
        · have h := (if_pos c).symm.trans h
          refine lv_iconst (v := 0) hx hb dX11_bind_48 (by decide) ?_
          refine lv_iconst (v := 2) hx hb dX11_bind_49 (by decide) ?_
          obtain ⟨p10, gp10, h⟩ := Option.bind_eq_some_iff.mp h
          refine gw_cz (gw_rV (C := RX11) X hP hS (gc_X11_no l G (0 : Int32) (2 : Int32) p9.2 _ gp10) gk_X11_no gv_1209 ⟨gv_1211, gv_s22⟩ (va_recv hT.2.1 hP (ci := 13) (q0 := 33) rfl rfl) rfl rfl (Nat.le_of_ble_eq_true rfl) hl.1 ⟨rfl, rfl⟩ ⟨Nat.le_of_ble_eq_true rfl, Nat.le_of_ble_eq_true rfl⟩ ⟨Nat.le_of_ble_eq_true rfl, Nat.le_of_ble_eq_true rfl⟩ dX11_bind_50) hS (fun H locs hb_p10 hP hS => ?_)
          refine lv_if_ne (tgt := 106) hx hb dX11_bind_53 (by decide) (fun c => ?_) (fun c => ?_)
          · have h := (if_neg c).symm.trans h
            refine lv_iconst (v := 0) hx hb dX11_bind_106 (by decide) ?_
            exact gw_ri X hP hS h dX11_bind_107
          · have h := (if_pos c).symm.trans h
            refine lv_aload_n hx hb dX11_bind_56 rfl (lv_at hl 0 rfl) ?_
            refine lv_aload_n hx hb dX11_bind_57 rfl (lv_at hl 0 rfl) ?_
            refine lv_iload hx hb dX11_bind_58 (lv_at hl 4 rfl) ?_
            exact absurd h (fun h => nomatch h)
        · have h := (if_neg c).symm.trans h
          refine lv_aload_n hx hb dX11_bind_36 rfl (lv_at hl 0 rfl) ?_
          refine lv_iload_n hx hb dX11_bind_37 rfl (lv_at hl 3 rfl) ?_
          obtain ⟨p11, gp11, h⟩ := Option.bind_eq_some_iff.mp h
          refine gw_cz (gw_rV (C := RX11) X hP hS (gc_X11_isTerm l G a2 p9.2 _ gp11) gk_X11_isTerm gv_1609 ⟨gv_1611, gv_s42⟩ (va_recv hT.2.1 hP (ci := 13) (q0 := 33) rfl rfl) rfl rfl (Nat.le_of_ble_eq_true rfl) hl.1 ⟨rfl, rfl⟩ ⟨Nat.le_of_ble_eq_true rfl, Nat.le_of_ble_eq_true rfl⟩ ⟨Nat.le_of_ble_eq_true rfl, Nat.le_of_ble_eq_true rfl⟩ dX11_bind_38) hS (fun H locs hb_p11 hP hS => ?_)
          refine lv_if_eq (tgt := 48) hx hb dX11_bind_41 (by decide) (fun c => ?_) (fun c => ?_)
          · have h := (if_pos c).symm.trans h
            refine lv_iconst (v := 0) hx hb dX11_bind_48 (by decide) ?_
            refine lv_iconst (v := 2) hx hb dX11_bind_49 (by decide) ?_
            obtain ⟨p12, gp12, h⟩ := Option.bind_eq_some_iff.mp h
            refine gw_cz (gw_rV (C := RX11) X hP hS (gc_X11_no l G (0 : Int32) (2 : Int32) p11.2 _ gp12) gk_X11_no gv_1209 ⟨gv_1211, gv_s22⟩ (va_recv hT.2.1 hP (ci := 13) (q0 := 33) rfl rfl) rfl rfl (Nat.le_of_ble_eq_true rfl) hl.1 ⟨rfl, rfl⟩ ⟨Nat.le_of_ble_eq_true rfl, Nat.le_of_ble_eq_true rfl⟩ ⟨Nat.le_of_ble_eq_true rfl, Nat.le_of_ble_eq_true rfl⟩ dX11_bind_50) hS (fun H locs hb_p12 hP hS => ?_)
            refine lv_if_ne (tgt := 106) hx hb dX11_bind_53 (by decide) (fun c => ?_) (fun c => ?_)
            · have h := (if_neg c).symm.trans h
              refine lv_iconst (v := 0) hx hb dX11_bind_106 (by decide) ?_
              exact gw_ri X hP hS h dX11_bind_107
            · have h := (if_pos c).symm.trans h
              refine lv_aload_n hx hb dX11_bind_56 rfl (lv_at hl 0 rfl) ?_
              refine lv_aload_n hx hb dX11_bind_57 rfl (lv_at hl 0 rfl) ?_
              refine lv_iload hx hb dX11_bind_58 (lv_at hl 4 rfl) ?_
              exact absurd h (fun h => nomatch h)
          · have h := (if_neg c).symm.trans h
            refine lv_iconst (v := 1) hx hb dX11_bind_44 (by decide) ?_
            refine lv_goto (tgt := 49) hx hb dX11_bind_45 (by decide) ?_
            refine lv_iconst (v := 2) hx hb dX11_bind_49 (by decide) ?_
            obtain ⟨p13, gp13, h⟩ := Option.bind_eq_some_iff.mp h
            refine gw_cz (gw_rV (C := RX11) X hP hS (gc_X11_no l G (1 : Int32) (2 : Int32) p11.2 _ gp13) gk_X11_no gv_1209 ⟨gv_1211, gv_s22⟩ (va_recv hT.2.1 hP (ci := 13) (q0 := 33) rfl rfl) rfl rfl (Nat.le_of_ble_eq_true rfl) hl.1 ⟨rfl, rfl⟩ ⟨Nat.le_of_ble_eq_true rfl, Nat.le_of_ble_eq_true rfl⟩ ⟨Nat.le_of_ble_eq_true rfl, Nat.le_of_ble_eq_true rfl⟩ dX11_bind_50) hS (fun H locs hb_p13 hP hS => ?_)
            refine lv_if_ne (tgt := 106) hx hb dX11_bind_53 (by decide) (fun c => ?_) (fun c => ?_)
            · have h := (if_neg c).symm.trans h
              refine lv_iconst (v := 0) hx hb dX11_bind_106 (by decide) ?_
              exact gw_ri X hP hS h dX11_bind_107
            · have h := (if_pos c).symm.trans h
              refine lv_aload_n hx hb dX11_bind_56 rfl (lv_at hl 0 rfl) ?_
              refine lv_aload_n hx hb dX11_bind_57 rfl (lv_at hl 0 rfl) ?_
              refine lv_iload hx hb dX11_bind_58 (lv_at hl 4 rfl) ?_
              exact absurd h (fun h => nomatch h)
def f_X11_free (a0 : Int32) (σ : gw_S) : Option (Int32 × gw_S) := ((f_X11_isFormula a0 σ).bind fun p1 => ((f_X11_no p1.1 (1 : Int32) p1.2).bind fun p2 => (if p2.1 = 0 then none else (some ((0 : Int32), p2.2)))))
set_option maxHeartbeats 4000000 in
set_option maxRecDepth 100000 in
theorem gc_X11_free (l : Launch) (G : gw_G) (a0 : Int32) (σ : gw_S) (o : (Int32 × gw_S)) (h : f_X11_free a0 σ = some o) : gw_M (fun sz => gw_QI G sz o) l yX11_free cX11_free 2 (some .int) { frames := 2, cells := 0, slots := 0, locals := 43 } G [.ref (G.2.1 33), .int a0] σ := by
  refine gw_en (own := RX11) (lv := [(0, .ref (G.2.1 33)), (1, .int a0)]) (by decide +kernel) rfl (Nat.le_of_ble_eq_true rfl) rfl ?_
  intro p e s m below meth c ls X hl hP
  obtain ⟨hx, hb, hml, hown, hts, -, -, hT, hZ, -⟩ := id X
  have hS : va_S (gw_A G s.heap.size) s.heap s.heap [] := va_S.rf
  unfold f_X11_free at h
  refine lv_aload_n hx hb dX11_free_0 rfl (lv_at hl 0 rfl) ?_
  refine lv_aload_n hx hb dX11_free_1 rfl (lv_at hl 0 rfl) ?_
  refine lv_iload_n hx hb dX11_free_2 rfl (lv_at hl 1 rfl) ?_
  obtain ⟨p1, gp1, h⟩ := Option.bind_eq_some_iff.mp h
  refine gw_cz (gw_rV (C := RX11) X hP hS (gc_X11_isFormula l G a0 σ _ gp1) gk_X11_isFormula gv_1652 ⟨gv_1654, gv_s44⟩ (va_recv hT.2.1 hP (ci := 13) (q0 := 33) rfl rfl) rfl rfl (Nat.le_of_ble_eq_true rfl) hl.1 ⟨rfl, rfl⟩ ⟨Nat.le_of_ble_eq_true rfl, Nat.le_of_ble_eq_true rfl⟩ ⟨Nat.le_of_ble_eq_true rfl, Nat.le_of_ble_eq_true rfl⟩ dX11_free_3) hS (fun H locs hb_p1 hP hS => ?_)
  refine lv_iconst (v := 1) hx hb dX11_free_6 (by decide) ?_
  obtain ⟨p2, gp2, h⟩ := Option.bind_eq_some_iff.mp h
  refine gw_cz (gw_rV (C := RX11) X hP hS (gc_X11_no l G p1.1 (1 : Int32) p1.2 _ gp2) gk_X11_no gv_1209 ⟨gv_1211, gv_s22⟩ (va_recv hT.2.1 hP (ci := 13) (q0 := 33) rfl rfl) rfl rfl (Nat.le_of_ble_eq_true rfl) hl.1 ⟨rfl, rfl⟩ ⟨Nat.le_of_ble_eq_true rfl, Nat.le_of_ble_eq_true rfl⟩ ⟨Nat.le_of_ble_eq_true rfl, Nat.le_of_ble_eq_true rfl⟩ dX11_free_7) hS (fun H locs hb_p2 hP hS => ?_)
  refine lv_if_eq (tgt := 17) hx hb dX11_free_10 (by decide) (fun c => ?_) (fun c => ?_)
  · have h := (if_pos c).symm.trans h
    refine lv_aload_n hx hb dX11_free_17 rfl (lv_at hl 0 rfl) ?_
    refine lv_iload_n hx hb dX11_free_18 rfl (lv_at hl 1 rfl) ?_
    exact absurd h (fun h => nomatch h)
  · have h := (if_neg c).symm.trans h
    refine lv_iconst (v := 0) hx hb dX11_free_13 (by decide) ?_
    refine lv_goto (tgt := 22) hx hb dX11_free_14 (by decide) ?_
    exact gw_ri X hP hS h dX11_free_22
def f_X11_value (a0 : Int32) (σ : gw_S) : Option (Int32 × gw_S) := ((f_X11_isFormula a0 σ).bind fun p1 => ((f_X11_no p1.1 (1 : Int32) p1.2).bind fun p2 => (if p2.1 = 0 then none else (some ((0 : Int32), p2.2)))))
set_option maxHeartbeats 4000000 in
set_option maxRecDepth 100000 in
theorem gc_X11_value (l : Launch) (G : gw_G) (a0 : Int32) (σ : gw_S) (o : (Int32 × gw_S)) (h : f_X11_value a0 σ = some o) : gw_M (fun sz => gw_QI G sz o) l yX11_value cX11_value 2 (some .int) { frames := 2, cells := 0, slots := 0, locals := 43 } G [.ref (G.2.1 33), .int a0] σ := by
  refine gw_en (own := RX11) (lv := [(0, .ref (G.2.1 33)), (1, .int a0)]) (by decide +kernel) rfl (Nat.le_of_ble_eq_true rfl) rfl ?_
  intro p e s m below meth c ls X hl hP
  obtain ⟨hx, hb, hml, hown, hts, -, -, hT, hZ, -⟩ := id X
  have hS : va_S (gw_A G s.heap.size) s.heap s.heap [] := va_S.rf
  unfold f_X11_value at h
  refine lv_aload_n hx hb dX11_value_0 rfl (lv_at hl 0 rfl) ?_
  refine lv_aload_n hx hb dX11_value_1 rfl (lv_at hl 0 rfl) ?_
  refine lv_iload_n hx hb dX11_value_2 rfl (lv_at hl 1 rfl) ?_
  obtain ⟨p1, gp1, h⟩ := Option.bind_eq_some_iff.mp h
  refine gw_cz (gw_rV (C := RX11) X hP hS (gc_X11_isFormula l G a0 σ _ gp1) gk_X11_isFormula gv_1652 ⟨gv_1654, gv_s44⟩ (va_recv hT.2.1 hP (ci := 13) (q0 := 33) rfl rfl) rfl rfl (Nat.le_of_ble_eq_true rfl) hl.1 ⟨rfl, rfl⟩ ⟨Nat.le_of_ble_eq_true rfl, Nat.le_of_ble_eq_true rfl⟩ ⟨Nat.le_of_ble_eq_true rfl, Nat.le_of_ble_eq_true rfl⟩ dX11_value_3) hS (fun H locs hb_p1 hP hS => ?_)
  refine lv_iconst (v := 1) hx hb dX11_value_6 (by decide) ?_
  obtain ⟨p2, gp2, h⟩ := Option.bind_eq_some_iff.mp h
  refine gw_cz (gw_rV (C := RX11) X hP hS (gc_X11_no l G p1.1 (1 : Int32) p1.2 _ gp2) gk_X11_no gv_1209 ⟨gv_1211, gv_s22⟩ (va_recv hT.2.1 hP (ci := 13) (q0 := 33) rfl rfl) rfl rfl (Nat.le_of_ble_eq_true rfl) hl.1 ⟨rfl, rfl⟩ ⟨Nat.le_of_ble_eq_true rfl, Nat.le_of_ble_eq_true rfl⟩ ⟨Nat.le_of_ble_eq_true rfl, Nat.le_of_ble_eq_true rfl⟩ dX11_value_7) hS (fun H locs hb_p2 hP hS => ?_)
  refine lv_if_ne (tgt := 34) hx hb dX11_value_10 (by decide) (fun c => ?_) (fun c => ?_)
  · have h := (if_neg c).symm.trans h
    refine lv_iconst (v := 0) hx hb dX11_value_34 (by decide) ?_
    refine lv_goto (tgt := 43) hx hb dX11_value_35 (by decide) ?_
    exact gw_ri X hP hS h dX11_value_43
  · have h := (if_pos c).symm.trans h
    refine lv_aload_n hx hb dX11_value_13 rfl (lv_at hl 0 rfl) ?_
    refine lv_aload_n hx hb dX11_value_14 rfl (lv_at hl 0 rfl) ?_
    refine lv_iload_n hx hb dX11_value_15 rfl (lv_at hl 1 rfl) ?_
    exact absurd h (fun h => nomatch h)
def f_X11_forces (a0 : Int32) (a1 : Int32) (σ : gw_S) : Option (Int32 × gw_S) := ((f_X11_isCondition a0 σ).bind fun p1 => (if p1.1 = 0 then ((f_X11_no (0 : Int32) (1 : Int32) p1.2).bind fun p2 => (if p2.1 = 0 then none else (some ((0 : Int32), p2.2)))) else ((f_X11_isFormula a1 p1.2).bind fun p3 => (if p3.1 = 0 then ((f_X11_no (0 : Int32) (1 : Int32) p3.2).bind fun p4 => (if p4.1 = 0 then none else (some ((0 : Int32), p4.2)))) else ((f_X11_no (1 : Int32) (1 : Int32) p3.2).bind fun p5 => (if p5.1 = 0 then none else (some ((0 : Int32), p5.2))))))))
set_option maxHeartbeats 4000000 in
set_option maxRecDepth 100000 in
theorem gc_X11_forces (l : Launch) (G : gw_G) (a0 : Int32) (a1 : Int32) (σ : gw_S) (o : (Int32 × gw_S)) (h : f_X11_forces a0 a1 σ = some o) : gw_M (fun sz => gw_QZ G sz o) l yX11_forces cX11_forces 3 (some .boolean) { frames := 2, cells := 0, slots := 0, locals := 43 } G [.ref (G.2.1 33), .int a0, .int a1] σ := by
  refine gw_en (own := RX11) (lv := [(0, .ref (G.2.1 33)), (1, .int a0), (2, .int a1)]) (by decide +kernel) rfl (Nat.le_of_ble_eq_true rfl) rfl ?_
  intro p e s m below meth c ls X hl hP
  obtain ⟨hx, hb, hml, hown, hts, -, -, hT, hZ, -⟩ := id X
  have hS : va_S (gw_A G s.heap.size) s.heap s.heap [] := va_S.rf
  unfold f_X11_forces at h
  refine lv_aload_n hx hb dX11_forces_0 rfl (lv_at hl 0 rfl) ?_
  refine lv_aload_n hx hb dX11_forces_1 rfl (lv_at hl 0 rfl) ?_
  refine lv_iload_n hx hb dX11_forces_2 rfl (lv_at hl 1 rfl) ?_
  obtain ⟨p1, gp1, h⟩ := Option.bind_eq_some_iff.mp h
  refine gw_cz (gw_rV (C := RX11) X hP hS (gc_X11_isCondition l G a0 σ _ gp1) gk_X11_isCondition gv_1306 ⟨gv_1308, gv_s26⟩ (va_recv hT.2.1 hP (ci := 13) (q0 := 33) rfl rfl) rfl rfl (Nat.le_of_ble_eq_true rfl) hl.1 ⟨rfl, rfl⟩ ⟨Nat.le_of_ble_eq_true rfl, Nat.le_of_ble_eq_true rfl⟩ ⟨Nat.le_of_ble_eq_true rfl, Nat.le_of_ble_eq_true rfl⟩ dX11_forces_3) hS (fun H locs hb_p1 hP hS => ?_)
  refine lv_if_eq (tgt := 21) hx hb dX11_forces_6 (by decide) (fun c => ?_) (fun c => ?_)
  · have h := (if_pos c).symm.trans h
    refine lv_iconst (v := 0) hx hb dX11_forces_21 (by decide) ?_
    refine lv_iconst (v := 1) hx hb dX11_forces_22 (by decide) ?_
    obtain ⟨p2, gp2, h⟩ := Option.bind_eq_some_iff.mp h
    refine gw_cz (gw_rV (C := RX11) X hP hS (gc_X11_no l G (0 : Int32) (1 : Int32) p1.2 _ gp2) gk_X11_no gv_1209 ⟨gv_1211, gv_s22⟩ (va_recv hT.2.1 hP (ci := 13) (q0 := 33) rfl rfl) rfl rfl (Nat.le_of_ble_eq_true rfl) hl.1 ⟨rfl, rfl⟩ ⟨Nat.le_of_ble_eq_true rfl, Nat.le_of_ble_eq_true rfl⟩ ⟨Nat.le_of_ble_eq_true rfl, Nat.le_of_ble_eq_true rfl⟩ dX11_forces_23) hS (fun H locs hb_p2 hP hS => ?_)
    refine lv_if_ne (tgt := 50) hx hb dX11_forces_26 (by decide) (fun c => ?_) (fun c => ?_)
    · have h := (if_neg c).symm.trans h
      refine lv_iconst (v := 0) hx hb dX11_forces_50 (by decide) ?_
      exact gw_rz X hP hS rfl h dX11_forces_51
    · have h := (if_pos c).symm.trans h
      refine lv_aload_n hx hb dX11_forces_29 rfl (lv_at hl 0 rfl) ?_
      refine lv_aload_n hx hb dX11_forces_30 rfl (lv_at hl 0 rfl) ?_
      refine lv_iload_n hx hb dX11_forces_31 rfl (lv_at hl 2 rfl) ?_
      exact absurd h (fun h => nomatch h)
  · have h := (if_neg c).symm.trans h
    refine lv_aload_n hx hb dX11_forces_9 rfl (lv_at hl 0 rfl) ?_
    refine lv_iload_n hx hb dX11_forces_10 rfl (lv_at hl 2 rfl) ?_
    obtain ⟨p3, gp3, h⟩ := Option.bind_eq_some_iff.mp h
    refine gw_cz (gw_rV (C := RX11) X hP hS (gc_X11_isFormula l G a1 p1.2 _ gp3) gk_X11_isFormula gv_1652 ⟨gv_1654, gv_s44⟩ (va_recv hT.2.1 hP (ci := 13) (q0 := 33) rfl rfl) rfl rfl (Nat.le_of_ble_eq_true rfl) hl.1 ⟨rfl, rfl⟩ ⟨Nat.le_of_ble_eq_true rfl, Nat.le_of_ble_eq_true rfl⟩ ⟨Nat.le_of_ble_eq_true rfl, Nat.le_of_ble_eq_true rfl⟩ dX11_forces_11) hS (fun H locs hb_p3 hP hS => ?_)
    refine lv_if_eq (tgt := 21) hx hb dX11_forces_14 (by decide) (fun c => ?_) (fun c => ?_)
    · have h := (if_pos c).symm.trans h
      refine lv_iconst (v := 0) hx hb dX11_forces_21 (by decide) ?_
      refine lv_iconst (v := 1) hx hb dX11_forces_22 (by decide) ?_
      obtain ⟨p4, gp4, h⟩ := Option.bind_eq_some_iff.mp h
      refine gw_cz (gw_rV (C := RX11) X hP hS (gc_X11_no l G (0 : Int32) (1 : Int32) p3.2 _ gp4) gk_X11_no gv_1209 ⟨gv_1211, gv_s22⟩ (va_recv hT.2.1 hP (ci := 13) (q0 := 33) rfl rfl) rfl rfl (Nat.le_of_ble_eq_true rfl) hl.1 ⟨rfl, rfl⟩ ⟨Nat.le_of_ble_eq_true rfl, Nat.le_of_ble_eq_true rfl⟩ ⟨Nat.le_of_ble_eq_true rfl, Nat.le_of_ble_eq_true rfl⟩ dX11_forces_23) hS (fun H locs hb_p4 hP hS => ?_)
      refine lv_if_ne (tgt := 50) hx hb dX11_forces_26 (by decide) (fun c => ?_) (fun c => ?_)
      · have h := (if_neg c).symm.trans h
        refine lv_iconst (v := 0) hx hb dX11_forces_50 (by decide) ?_
        exact gw_rz X hP hS rfl h dX11_forces_51
      · have h := (if_pos c).symm.trans h
        refine lv_aload_n hx hb dX11_forces_29 rfl (lv_at hl 0 rfl) ?_
        refine lv_aload_n hx hb dX11_forces_30 rfl (lv_at hl 0 rfl) ?_
        refine lv_iload_n hx hb dX11_forces_31 rfl (lv_at hl 2 rfl) ?_
        exact absurd h (fun h => nomatch h)
    · have h := (if_neg c).symm.trans h
      refine lv_iconst (v := 1) hx hb dX11_forces_17 (by decide) ?_
      refine lv_goto (tgt := 22) hx hb dX11_forces_18 (by decide) ?_
      refine lv_iconst (v := 1) hx hb dX11_forces_22 (by decide) ?_
      obtain ⟨p5, gp5, h⟩ := Option.bind_eq_some_iff.mp h
      refine gw_cz (gw_rV (C := RX11) X hP hS (gc_X11_no l G (1 : Int32) (1 : Int32) p3.2 _ gp5) gk_X11_no gv_1209 ⟨gv_1211, gv_s22⟩ (va_recv hT.2.1 hP (ci := 13) (q0 := 33) rfl rfl) rfl rfl (Nat.le_of_ble_eq_true rfl) hl.1 ⟨rfl, rfl⟩ ⟨Nat.le_of_ble_eq_true rfl, Nat.le_of_ble_eq_true rfl⟩ ⟨Nat.le_of_ble_eq_true rfl, Nat.le_of_ble_eq_true rfl⟩ dX11_forces_23) hS (fun H locs hb_p5 hP hS => ?_)
      refine lv_if_ne (tgt := 50) hx hb dX11_forces_26 (by decide) (fun c => ?_) (fun c => ?_)
      · have h := (if_neg c).symm.trans h
        refine lv_iconst (v := 0) hx hb dX11_forces_50 (by decide) ?_
        exact gw_rz X hP hS rfl h dX11_forces_51
      · have h := (if_pos c).symm.trans h
        refine lv_aload_n hx hb dX11_forces_29 rfl (lv_at hl 0 rfl) ?_
        refine lv_aload_n hx hb dX11_forces_30 rfl (lv_at hl 0 rfl) ?_
        refine lv_iload_n hx hb dX11_forces_31 rfl (lv_at hl 2 rfl) ?_
        exact absurd h (fun h => nomatch h)
def f_X11_weakly (a0 : Int32) (a1 : Int32) (σ : gw_S) : Option (Int32 × gw_S) := ((f_X11_isCondition a0 σ).bind fun p1 => (if p1.1 = 0 then ((f_X11_no (0 : Int32) (1 : Int32) p1.2).bind fun p2 => (if p2.1 = 0 then none else (some ((0 : Int32), p2.2)))) else ((f_X11_isFormula a1 p1.2).bind fun p3 => (if p3.1 = 0 then ((f_X11_no (0 : Int32) (1 : Int32) p3.2).bind fun p4 => (if p4.1 = 0 then none else (some ((0 : Int32), p4.2)))) else ((f_X11_no (1 : Int32) (1 : Int32) p3.2).bind fun p5 => (if p5.1 = 0 then none else (some ((0 : Int32), p5.2))))))))
set_option maxHeartbeats 4000000 in
set_option maxRecDepth 100000 in
theorem gc_X11_weakly (l : Launch) (G : gw_G) (a0 : Int32) (a1 : Int32) (σ : gw_S) (o : (Int32 × gw_S)) (h : f_X11_weakly a0 a1 σ = some o) : gw_M (fun sz => gw_QZ G sz o) l yX11_weakly cX11_weakly 3 (some .boolean) { frames := 2, cells := 0, slots := 0, locals := 43 } G [.ref (G.2.1 33), .int a0, .int a1] σ := by
  refine gw_en (own := RX11) (lv := [(0, .ref (G.2.1 33)), (1, .int a0), (2, .int a1)]) (by decide +kernel) rfl (Nat.le_of_ble_eq_true rfl) rfl ?_
  intro p e s m below meth c ls X hl hP
  obtain ⟨hx, hb, hml, hown, hts, -, -, hT, hZ, -⟩ := id X
  have hS : va_S (gw_A G s.heap.size) s.heap s.heap [] := va_S.rf
  unfold f_X11_weakly at h
  refine lv_aload_n hx hb dX11_weakly_0 rfl (lv_at hl 0 rfl) ?_
  refine lv_aload_n hx hb dX11_weakly_1 rfl (lv_at hl 0 rfl) ?_
  refine lv_iload_n hx hb dX11_weakly_2 rfl (lv_at hl 1 rfl) ?_
  obtain ⟨p1, gp1, h⟩ := Option.bind_eq_some_iff.mp h
  refine gw_cz (gw_rV (C := RX11) X hP hS (gc_X11_isCondition l G a0 σ _ gp1) gk_X11_isCondition gv_1306 ⟨gv_1308, gv_s26⟩ (va_recv hT.2.1 hP (ci := 13) (q0 := 33) rfl rfl) rfl rfl (Nat.le_of_ble_eq_true rfl) hl.1 ⟨rfl, rfl⟩ ⟨Nat.le_of_ble_eq_true rfl, Nat.le_of_ble_eq_true rfl⟩ ⟨Nat.le_of_ble_eq_true rfl, Nat.le_of_ble_eq_true rfl⟩ dX11_weakly_3) hS (fun H locs hb_p1 hP hS => ?_)
  refine lv_if_eq (tgt := 21) hx hb dX11_weakly_6 (by decide) (fun c => ?_) (fun c => ?_)
  · have h := (if_pos c).symm.trans h
    refine lv_iconst (v := 0) hx hb dX11_weakly_21 (by decide) ?_
    refine lv_iconst (v := 1) hx hb dX11_weakly_22 (by decide) ?_
    obtain ⟨p2, gp2, h⟩ := Option.bind_eq_some_iff.mp h
    refine gw_cz (gw_rV (C := RX11) X hP hS (gc_X11_no l G (0 : Int32) (1 : Int32) p1.2 _ gp2) gk_X11_no gv_1209 ⟨gv_1211, gv_s22⟩ (va_recv hT.2.1 hP (ci := 13) (q0 := 33) rfl rfl) rfl rfl (Nat.le_of_ble_eq_true rfl) hl.1 ⟨rfl, rfl⟩ ⟨Nat.le_of_ble_eq_true rfl, Nat.le_of_ble_eq_true rfl⟩ ⟨Nat.le_of_ble_eq_true rfl, Nat.le_of_ble_eq_true rfl⟩ dX11_weakly_23) hS (fun H locs hb_p2 hP hS => ?_)
    refine lv_if_ne (tgt := 50) hx hb dX11_weakly_26 (by decide) (fun c => ?_) (fun c => ?_)
    · have h := (if_neg c).symm.trans h
      refine lv_iconst (v := 0) hx hb dX11_weakly_50 (by decide) ?_
      exact gw_rz X hP hS rfl h dX11_weakly_51
    · have h := (if_pos c).symm.trans h
      refine lv_aload_n hx hb dX11_weakly_29 rfl (lv_at hl 0 rfl) ?_
      refine lv_aload_n hx hb dX11_weakly_30 rfl (lv_at hl 0 rfl) ?_
      refine lv_iload_n hx hb dX11_weakly_31 rfl (lv_at hl 2 rfl) ?_
      exact absurd h (fun h => nomatch h)
  · have h := (if_neg c).symm.trans h
    refine lv_aload_n hx hb dX11_weakly_9 rfl (lv_at hl 0 rfl) ?_
    refine lv_iload_n hx hb dX11_weakly_10 rfl (lv_at hl 2 rfl) ?_
    obtain ⟨p3, gp3, h⟩ := Option.bind_eq_some_iff.mp h
    refine gw_cz (gw_rV (C := RX11) X hP hS (gc_X11_isFormula l G a1 p1.2 _ gp3) gk_X11_isFormula gv_1652 ⟨gv_1654, gv_s44⟩ (va_recv hT.2.1 hP (ci := 13) (q0 := 33) rfl rfl) rfl rfl (Nat.le_of_ble_eq_true rfl) hl.1 ⟨rfl, rfl⟩ ⟨Nat.le_of_ble_eq_true rfl, Nat.le_of_ble_eq_true rfl⟩ ⟨Nat.le_of_ble_eq_true rfl, Nat.le_of_ble_eq_true rfl⟩ dX11_weakly_11) hS (fun H locs hb_p3 hP hS => ?_)
    refine lv_if_eq (tgt := 21) hx hb dX11_weakly_14 (by decide) (fun c => ?_) (fun c => ?_)
    · have h := (if_pos c).symm.trans h
      refine lv_iconst (v := 0) hx hb dX11_weakly_21 (by decide) ?_
      refine lv_iconst (v := 1) hx hb dX11_weakly_22 (by decide) ?_
      obtain ⟨p4, gp4, h⟩ := Option.bind_eq_some_iff.mp h
      refine gw_cz (gw_rV (C := RX11) X hP hS (gc_X11_no l G (0 : Int32) (1 : Int32) p3.2 _ gp4) gk_X11_no gv_1209 ⟨gv_1211, gv_s22⟩ (va_recv hT.2.1 hP (ci := 13) (q0 := 33) rfl rfl) rfl rfl (Nat.le_of_ble_eq_true rfl) hl.1 ⟨rfl, rfl⟩ ⟨Nat.le_of_ble_eq_true rfl, Nat.le_of_ble_eq_true rfl⟩ ⟨Nat.le_of_ble_eq_true rfl, Nat.le_of_ble_eq_true rfl⟩ dX11_weakly_23) hS (fun H locs hb_p4 hP hS => ?_)
      refine lv_if_ne (tgt := 50) hx hb dX11_weakly_26 (by decide) (fun c => ?_) (fun c => ?_)
      · have h := (if_neg c).symm.trans h
        refine lv_iconst (v := 0) hx hb dX11_weakly_50 (by decide) ?_
        exact gw_rz X hP hS rfl h dX11_weakly_51
      · have h := (if_pos c).symm.trans h
        refine lv_aload_n hx hb dX11_weakly_29 rfl (lv_at hl 0 rfl) ?_
        refine lv_aload_n hx hb dX11_weakly_30 rfl (lv_at hl 0 rfl) ?_
        refine lv_iload_n hx hb dX11_weakly_31 rfl (lv_at hl 2 rfl) ?_
        exact absurd h (fun h => nomatch h)
    · have h := (if_neg c).symm.trans h
      refine lv_iconst (v := 1) hx hb dX11_weakly_17 (by decide) ?_
      refine lv_goto (tgt := 22) hx hb dX11_weakly_18 (by decide) ?_
      refine lv_iconst (v := 1) hx hb dX11_weakly_22 (by decide) ?_
      obtain ⟨p5, gp5, h⟩ := Option.bind_eq_some_iff.mp h
      refine gw_cz (gw_rV (C := RX11) X hP hS (gc_X11_no l G (1 : Int32) (1 : Int32) p3.2 _ gp5) gk_X11_no gv_1209 ⟨gv_1211, gv_s22⟩ (va_recv hT.2.1 hP (ci := 13) (q0 := 33) rfl rfl) rfl rfl (Nat.le_of_ble_eq_true rfl) hl.1 ⟨rfl, rfl⟩ ⟨Nat.le_of_ble_eq_true rfl, Nat.le_of_ble_eq_true rfl⟩ ⟨Nat.le_of_ble_eq_true rfl, Nat.le_of_ble_eq_true rfl⟩ dX11_weakly_23) hS (fun H locs hb_p5 hP hS => ?_)
      refine lv_if_ne (tgt := 50) hx hb dX11_weakly_26 (by decide) (fun c => ?_) (fun c => ?_)
      · have h := (if_neg c).symm.trans h
        refine lv_iconst (v := 0) hx hb dX11_weakly_50 (by decide) ?_
        exact gw_rz X hP hS rfl h dX11_weakly_51
      · have h := (if_pos c).symm.trans h
        refine lv_aload_n hx hb dX11_weakly_29 rfl (lv_at hl 0 rfl) ?_
        refine lv_aload_n hx hb dX11_weakly_30 rfl (lv_at hl 0 rfl) ?_
        refine lv_iload_n hx hb dX11_weakly_31 rfl (lv_at hl 2 rfl) ?_
        exact absurd h (fun h => nomatch h)
def f_X11_holds (a0 : Int32) (a1 : Int32) (σ : gw_S) : Option (Int32 × gw_S) := ((f_X11_isFormula a0 σ).bind fun p1 => ((f_X11_no p1.1 (1 : Int32) p1.2).bind fun p2 => (if p2.1 = 0 then none else (some ((0 : Int32), p2.2)))))
set_option maxHeartbeats 4000000 in
set_option maxRecDepth 100000 in
theorem gc_X11_holds (l : Launch) (G : gw_G) (a0 : Int32) (a1 : Int32) (σ : gw_S) (o : (Int32 × gw_S)) (h : f_X11_holds a0 a1 σ = some o) : gw_M (fun sz => gw_QZ G sz o) l yX11_holds cX11_holds 3 (some .boolean) { frames := 2, cells := 0, slots := 0, locals := 43 } G [.ref (G.2.1 33), .int a0, .int a1] σ := by
  refine gw_en (own := RX11) (lv := [(0, .ref (G.2.1 33)), (1, .int a0), (2, .int a1)]) (by decide +kernel) rfl (Nat.le_of_ble_eq_true rfl) rfl ?_
  intro p e s m below meth c ls X hl hP
  obtain ⟨hx, hb, hml, hown, hts, -, -, hT, hZ, -⟩ := id X
  have hS : va_S (gw_A G s.heap.size) s.heap s.heap [] := va_S.rf
  unfold f_X11_holds at h
  refine lv_aload_n hx hb dX11_holds_0 rfl (lv_at hl 0 rfl) ?_
  refine lv_aload_n hx hb dX11_holds_1 rfl (lv_at hl 0 rfl) ?_
  refine lv_iload_n hx hb dX11_holds_2 rfl (lv_at hl 1 rfl) ?_
  obtain ⟨p1, gp1, h⟩ := Option.bind_eq_some_iff.mp h
  refine gw_cz (gw_rV (C := RX11) X hP hS (gc_X11_isFormula l G a0 σ _ gp1) gk_X11_isFormula gv_1652 ⟨gv_1654, gv_s44⟩ (va_recv hT.2.1 hP (ci := 13) (q0 := 33) rfl rfl) rfl rfl (Nat.le_of_ble_eq_true rfl) hl.1 ⟨rfl, rfl⟩ ⟨Nat.le_of_ble_eq_true rfl, Nat.le_of_ble_eq_true rfl⟩ ⟨Nat.le_of_ble_eq_true rfl, Nat.le_of_ble_eq_true rfl⟩ dX11_holds_3) hS (fun H locs hb_p1 hP hS => ?_)
  refine lv_iconst (v := 1) hx hb dX11_holds_6 (by decide) ?_
  obtain ⟨p2, gp2, h⟩ := Option.bind_eq_some_iff.mp h
  refine gw_cz (gw_rV (C := RX11) X hP hS (gc_X11_no l G p1.1 (1 : Int32) p1.2 _ gp2) gk_X11_no gv_1209 ⟨gv_1211, gv_s22⟩ (va_recv hT.2.1 hP (ci := 13) (q0 := 33) rfl rfl) rfl rfl (Nat.le_of_ble_eq_true rfl) hl.1 ⟨rfl, rfl⟩ ⟨Nat.le_of_ble_eq_true rfl, Nat.le_of_ble_eq_true rfl⟩ ⟨Nat.le_of_ble_eq_true rfl, Nat.le_of_ble_eq_true rfl⟩ dX11_holds_7) hS (fun H locs hb_p2 hP hS => ?_)
  refine lv_if_ne (tgt := 47) hx hb dX11_holds_10 (by decide) (fun c => ?_) (fun c => ?_)
  · have h := (if_neg c).symm.trans h
    refine lv_iconst (v := 0) hx hb dX11_holds_47 (by decide) ?_
    exact gw_rz X hP hS rfl h dX11_holds_48
  · have h := (if_pos c).symm.trans h
    refine lv_aload_n hx hb dX11_holds_13 rfl (lv_at hl 0 rfl) ?_
    refine lv_aload_n hx hb dX11_holds_14 rfl (lv_at hl 0 rfl) ?_
    refine lv_iload_n hx hb dX11_holds_15 rfl (lv_at hl 1 rfl) ?_
    exact absurd h (fun h => nomatch h)
def f_X11_against (a0 : Int32) (σ : gw_S) : Option (Int32 × gw_S) := ((f_X11_isFormula a0 σ).bind fun p1 => ((f_X11_no p1.1 (1 : Int32) p1.2).bind fun p2 => (if p2.1 = 0 then none else (some ((0 : Int32), p2.2)))))
set_option maxHeartbeats 4000000 in
set_option maxRecDepth 100000 in
theorem gc_X11_against (l : Launch) (G : gw_G) (a0 : Int32) (σ : gw_S) (o : (Int32 × gw_S)) (h : f_X11_against a0 σ = some o) : gw_M (fun sz => gw_QI G sz o) l yX11_against cX11_against 3 (some .int) { frames := 2, cells := 0, slots := 0, locals := 43 } G [.ref (G.2.1 33), .int a0] σ := by
  refine gw_en (own := RX11) (lv := [(0, .ref (G.2.1 33)), (1, .int a0)]) (by decide +kernel) rfl (Nat.le_of_ble_eq_true rfl) rfl ?_
  intro p e s m below meth c ls X hl hP
  obtain ⟨hx, hb, hml, hown, hts, -, -, hT, hZ, -⟩ := id X
  have hS : va_S (gw_A G s.heap.size) s.heap s.heap [] := va_S.rf
  unfold f_X11_against at h
  refine lv_aload_n hx hb dX11_against_0 rfl (lv_at hl 0 rfl) ?_
  refine lv_aload_n hx hb dX11_against_1 rfl (lv_at hl 0 rfl) ?_
  refine lv_iload_n hx hb dX11_against_2 rfl (lv_at hl 1 rfl) ?_
  obtain ⟨p1, gp1, h⟩ := Option.bind_eq_some_iff.mp h
  refine gw_cz (gw_rV (C := RX11) X hP hS (gc_X11_isFormula l G a0 σ _ gp1) gk_X11_isFormula gv_1652 ⟨gv_1654, gv_s44⟩ (va_recv hT.2.1 hP (ci := 13) (q0 := 33) rfl rfl) rfl rfl (Nat.le_of_ble_eq_true rfl) hl.1 ⟨rfl, rfl⟩ ⟨Nat.le_of_ble_eq_true rfl, Nat.le_of_ble_eq_true rfl⟩ ⟨Nat.le_of_ble_eq_true rfl, Nat.le_of_ble_eq_true rfl⟩ dX11_against_3) hS (fun H locs hb_p1 hP hS => ?_)
  refine lv_iconst (v := 1) hx hb dX11_against_6 (by decide) ?_
  obtain ⟨p2, gp2, h⟩ := Option.bind_eq_some_iff.mp h
  refine gw_cz (gw_rV (C := RX11) X hP hS (gc_X11_no l G p1.1 (1 : Int32) p1.2 _ gp2) gk_X11_no gv_1209 ⟨gv_1211, gv_s22⟩ (va_recv hT.2.1 hP (ci := 13) (q0 := 33) rfl rfl) rfl rfl (Nat.le_of_ble_eq_true rfl) hl.1 ⟨rfl, rfl⟩ ⟨Nat.le_of_ble_eq_true rfl, Nat.le_of_ble_eq_true rfl⟩ ⟨Nat.le_of_ble_eq_true rfl, Nat.le_of_ble_eq_true rfl⟩ dX11_against_7) hS (fun H locs hb_p2 hP hS => ?_)
  refine lv_if_ne (tgt := 34) hx hb dX11_against_10 (by decide) (fun c => ?_) (fun c => ?_)
  · have h := (if_neg c).symm.trans h
    refine lv_iconst (v := 0) hx hb dX11_against_34 (by decide) ?_
    exact gw_ri X hP hS h dX11_against_35
  · have h := (if_pos c).symm.trans h
    refine lv_aload_n hx hb dX11_against_13 rfl (lv_at hl 0 rfl) ?_
    refine lv_aload_n hx hb dX11_against_14 rfl (lv_at hl 0 rfl) ?_
    refine lv_iload_n hx hb dX11_against_15 rfl (lv_at hl 1 rfl) ?_
    exact absurd h (fun h => nomatch h)
def f_X11_swap (a0 : Int32) (a1 : Int32) (σ : gw_S) : Option (Int32 × gw_S) := ((f_X11_isCondition a0 σ).bind fun p1 => (if p1.1 = 0 then ((f_X11_no (0 : Int32) (1 : Int32) p1.2).bind fun p2 => (if p2.1 = 0 then none else (some ((0 : Int32), p2.2)))) else ((f_X11_isCondition a1 p1.2).bind fun p3 => (if p3.1 = 0 then ((f_X11_no (0 : Int32) (1 : Int32) p3.2).bind fun p4 => (if p4.1 = 0 then none else (some ((0 : Int32), p4.2)))) else ((f_X11_no (1 : Int32) (1 : Int32) p3.2).bind fun p5 => (if p5.1 = 0 then none else (some ((0 : Int32), p5.2))))))))
set_option maxHeartbeats 4000000 in
set_option maxRecDepth 100000 in
theorem gc_X11_swap (l : Launch) (G : gw_G) (a0 : Int32) (a1 : Int32) (σ : gw_S) (o : (Int32 × gw_S)) (h : f_X11_swap a0 a1 σ = some o) : gw_M (fun sz => gw_QZ G sz o) l yX11_swap cX11_swap 4 (some .boolean) { frames := 2, cells := 0, slots := 0, locals := 43 } G [.ref (G.2.1 33), .int a0, .int a1] σ := by
  refine gw_en (own := RX11) (lv := [(0, .ref (G.2.1 33)), (1, .int a0), (2, .int a1)]) (by decide +kernel) rfl (Nat.le_of_ble_eq_true rfl) rfl ?_
  intro p e s m below meth c ls X hl hP
  obtain ⟨hx, hb, hml, hown, hts, -, -, hT, hZ, -⟩ := id X
  have hS : va_S (gw_A G s.heap.size) s.heap s.heap [] := va_S.rf
  unfold f_X11_swap at h
  refine lv_aload_n hx hb dX11_swap_0 rfl (lv_at hl 0 rfl) ?_
  refine lv_aload_n hx hb dX11_swap_1 rfl (lv_at hl 0 rfl) ?_
  refine lv_iload_n hx hb dX11_swap_2 rfl (lv_at hl 1 rfl) ?_
  obtain ⟨p1, gp1, h⟩ := Option.bind_eq_some_iff.mp h
  refine gw_cz (gw_rV (C := RX11) X hP hS (gc_X11_isCondition l G a0 σ _ gp1) gk_X11_isCondition gv_1306 ⟨gv_1308, gv_s26⟩ (va_recv hT.2.1 hP (ci := 13) (q0 := 33) rfl rfl) rfl rfl (Nat.le_of_ble_eq_true rfl) hl.1 ⟨rfl, rfl⟩ ⟨Nat.le_of_ble_eq_true rfl, Nat.le_of_ble_eq_true rfl⟩ ⟨Nat.le_of_ble_eq_true rfl, Nat.le_of_ble_eq_true rfl⟩ dX11_swap_3) hS (fun H locs hb_p1 hP hS => ?_)
  refine lv_if_eq (tgt := 21) hx hb dX11_swap_6 (by decide) (fun c => ?_) (fun c => ?_)
  · have h := (if_pos c).symm.trans h
    refine lv_iconst (v := 0) hx hb dX11_swap_21 (by decide) ?_
    refine lv_iconst (v := 1) hx hb dX11_swap_22 (by decide) ?_
    obtain ⟨p2, gp2, h⟩ := Option.bind_eq_some_iff.mp h
    refine gw_cz (gw_rV (C := RX11) X hP hS (gc_X11_no l G (0 : Int32) (1 : Int32) p1.2 _ gp2) gk_X11_no gv_1209 ⟨gv_1211, gv_s22⟩ (va_recv hT.2.1 hP (ci := 13) (q0 := 33) rfl rfl) rfl rfl (Nat.le_of_ble_eq_true rfl) hl.1 ⟨rfl, rfl⟩ ⟨Nat.le_of_ble_eq_true rfl, Nat.le_of_ble_eq_true rfl⟩ ⟨Nat.le_of_ble_eq_true rfl, Nat.le_of_ble_eq_true rfl⟩ dX11_swap_23) hS (fun H locs hb_p2 hP hS => ?_)
    refine lv_if_eq (tgt := 31) hx hb dX11_swap_26 (by decide) (fun c => ?_) (fun c => ?_)
    · have h := (if_pos c).symm.trans h
      refine lv_aload_n hx hb dX11_swap_31 rfl (lv_at hl 0 rfl) ?_
      refine va_get (D := G.1) (ci := 13) (v := .ref (G.2.1 37)) (C := RX11) (T := TX11) (N := 5) hx hb hts gx_X11 hown hT.2.1 hP 33 rfl rfl 3 (by decide) (hts _ gv_1178) (fun _ h9 => h9) rfl dX11_swap_32 ?_
      refine lv_iload_n hx hb dX11_swap_35 rfl (lv_at hl 1 rfl) ?_
      exact absurd h (fun h => nomatch h)
    · have h := (if_neg c).symm.trans h
      refine lv_iconst (v := 0) hx hb dX11_swap_29 (by decide) ?_
      exact gw_rz X hP hS rfl h dX11_swap_30
  · have h := (if_neg c).symm.trans h
    refine lv_aload_n hx hb dX11_swap_9 rfl (lv_at hl 0 rfl) ?_
    refine lv_iload_n hx hb dX11_swap_10 rfl (lv_at hl 2 rfl) ?_
    obtain ⟨p3, gp3, h⟩ := Option.bind_eq_some_iff.mp h
    refine gw_cz (gw_rV (C := RX11) X hP hS (gc_X11_isCondition l G a1 p1.2 _ gp3) gk_X11_isCondition gv_1306 ⟨gv_1308, gv_s26⟩ (va_recv hT.2.1 hP (ci := 13) (q0 := 33) rfl rfl) rfl rfl (Nat.le_of_ble_eq_true rfl) hl.1 ⟨rfl, rfl⟩ ⟨Nat.le_of_ble_eq_true rfl, Nat.le_of_ble_eq_true rfl⟩ ⟨Nat.le_of_ble_eq_true rfl, Nat.le_of_ble_eq_true rfl⟩ dX11_swap_11) hS (fun H locs hb_p3 hP hS => ?_)
    refine lv_if_eq (tgt := 21) hx hb dX11_swap_14 (by decide) (fun c => ?_) (fun c => ?_)
    · have h := (if_pos c).symm.trans h
      refine lv_iconst (v := 0) hx hb dX11_swap_21 (by decide) ?_
      refine lv_iconst (v := 1) hx hb dX11_swap_22 (by decide) ?_
      obtain ⟨p4, gp4, h⟩ := Option.bind_eq_some_iff.mp h
      refine gw_cz (gw_rV (C := RX11) X hP hS (gc_X11_no l G (0 : Int32) (1 : Int32) p3.2 _ gp4) gk_X11_no gv_1209 ⟨gv_1211, gv_s22⟩ (va_recv hT.2.1 hP (ci := 13) (q0 := 33) rfl rfl) rfl rfl (Nat.le_of_ble_eq_true rfl) hl.1 ⟨rfl, rfl⟩ ⟨Nat.le_of_ble_eq_true rfl, Nat.le_of_ble_eq_true rfl⟩ ⟨Nat.le_of_ble_eq_true rfl, Nat.le_of_ble_eq_true rfl⟩ dX11_swap_23) hS (fun H locs hb_p4 hP hS => ?_)
      refine lv_if_eq (tgt := 31) hx hb dX11_swap_26 (by decide) (fun c => ?_) (fun c => ?_)
      · have h := (if_pos c).symm.trans h
        refine lv_aload_n hx hb dX11_swap_31 rfl (lv_at hl 0 rfl) ?_
        refine va_get (D := G.1) (ci := 13) (v := .ref (G.2.1 37)) (C := RX11) (T := TX11) (N := 5) hx hb hts gx_X11 hown hT.2.1 hP 33 rfl rfl 3 (by decide) (hts _ gv_1178) (fun _ h9 => h9) rfl dX11_swap_32 ?_
        refine lv_iload_n hx hb dX11_swap_35 rfl (lv_at hl 1 rfl) ?_
        exact absurd h (fun h => nomatch h)
      · have h := (if_neg c).symm.trans h
        refine lv_iconst (v := 0) hx hb dX11_swap_29 (by decide) ?_
        exact gw_rz X hP hS rfl h dX11_swap_30
    · have h := (if_neg c).symm.trans h
      refine lv_iconst (v := 1) hx hb dX11_swap_17 (by decide) ?_
      refine lv_goto (tgt := 22) hx hb dX11_swap_18 (by decide) ?_
      refine lv_iconst (v := 1) hx hb dX11_swap_22 (by decide) ?_
      obtain ⟨p5, gp5, h⟩ := Option.bind_eq_some_iff.mp h
      refine gw_cz (gw_rV (C := RX11) X hP hS (gc_X11_no l G (1 : Int32) (1 : Int32) p3.2 _ gp5) gk_X11_no gv_1209 ⟨gv_1211, gv_s22⟩ (va_recv hT.2.1 hP (ci := 13) (q0 := 33) rfl rfl) rfl rfl (Nat.le_of_ble_eq_true rfl) hl.1 ⟨rfl, rfl⟩ ⟨Nat.le_of_ble_eq_true rfl, Nat.le_of_ble_eq_true rfl⟩ ⟨Nat.le_of_ble_eq_true rfl, Nat.le_of_ble_eq_true rfl⟩ dX11_swap_23) hS (fun H locs hb_p5 hP hS => ?_)
      refine lv_if_eq (tgt := 31) hx hb dX11_swap_26 (by decide) (fun c => ?_) (fun c => ?_)
      · have h := (if_pos c).symm.trans h
        refine lv_aload_n hx hb dX11_swap_31 rfl (lv_at hl 0 rfl) ?_
        refine va_get (D := G.1) (ci := 13) (v := .ref (G.2.1 37)) (C := RX11) (T := TX11) (N := 5) hx hb hts gx_X11 hown hT.2.1 hP 33 rfl rfl 3 (by decide) (hts _ gv_1178) (fun _ h9 => h9) rfl dX11_swap_32 ?_
        refine lv_iload_n hx hb dX11_swap_35 rfl (lv_at hl 1 rfl) ?_
        exact absurd h (fun h => nomatch h)
      · have h := (if_neg c).symm.trans h
        refine lv_iconst (v := 0) hx hb dX11_swap_29 (by decide) ?_
        exact gw_rz X hP hS rfl h dX11_swap_30
def f_X11_goes (a0 : Int32) (σ : gw_S) : Option (Int32 × gw_S) := ((f_X11_isCondition a0 σ).bind fun p1 => ((f_X11_no p1.1 (1 : Int32) p1.2).bind fun p2 => (if p2.1 = 0 then none else (some ((0 : Int32), p2.2)))))
set_option maxHeartbeats 4000000 in
set_option maxRecDepth 100000 in
theorem gc_X11_goes (l : Launch) (G : gw_G) (a0 : Int32) (σ : gw_S) (o : (Int32 × gw_S)) (h : f_X11_goes a0 σ = some o) : gw_M (fun sz => gw_QI G sz o) l yX11_goes cX11_goes 2 (some .int) { frames := 2, cells := 0, slots := 0, locals := 43 } G [.ref (G.2.1 33), .int a0] σ := by
  refine gw_en (own := RX11) (lv := [(0, .ref (G.2.1 33)), (1, .int a0)]) (by decide +kernel) rfl (Nat.le_of_ble_eq_true rfl) rfl ?_
  intro p e s m below meth c ls X hl hP
  obtain ⟨hx, hb, hml, hown, hts, -, -, hT, hZ, -⟩ := id X
  have hS : va_S (gw_A G s.heap.size) s.heap s.heap [] := va_S.rf
  unfold f_X11_goes at h
  refine lv_aload_n hx hb dX11_goes_0 rfl (lv_at hl 0 rfl) ?_
  refine lv_aload_n hx hb dX11_goes_1 rfl (lv_at hl 0 rfl) ?_
  refine lv_iload_n hx hb dX11_goes_2 rfl (lv_at hl 1 rfl) ?_
  obtain ⟨p1, gp1, h⟩ := Option.bind_eq_some_iff.mp h
  refine gw_cz (gw_rV (C := RX11) X hP hS (gc_X11_isCondition l G a0 σ _ gp1) gk_X11_isCondition gv_1306 ⟨gv_1308, gv_s26⟩ (va_recv hT.2.1 hP (ci := 13) (q0 := 33) rfl rfl) rfl rfl (Nat.le_of_ble_eq_true rfl) hl.1 ⟨rfl, rfl⟩ ⟨Nat.le_of_ble_eq_true rfl, Nat.le_of_ble_eq_true rfl⟩ ⟨Nat.le_of_ble_eq_true rfl, Nat.le_of_ble_eq_true rfl⟩ dX11_goes_3) hS (fun H locs hb_p1 hP hS => ?_)
  refine lv_iconst (v := 1) hx hb dX11_goes_6 (by decide) ?_
  obtain ⟨p2, gp2, h⟩ := Option.bind_eq_some_iff.mp h
  refine gw_cz (gw_rV (C := RX11) X hP hS (gc_X11_no l G p1.1 (1 : Int32) p1.2 _ gp2) gk_X11_no gv_1209 ⟨gv_1211, gv_s22⟩ (va_recv hT.2.1 hP (ci := 13) (q0 := 33) rfl rfl) rfl rfl (Nat.le_of_ble_eq_true rfl) hl.1 ⟨rfl, rfl⟩ ⟨Nat.le_of_ble_eq_true rfl, Nat.le_of_ble_eq_true rfl⟩ ⟨Nat.le_of_ble_eq_true rfl, Nat.le_of_ble_eq_true rfl⟩ dX11_goes_7) hS (fun H locs hb_p2 hP hS => ?_)
  refine lv_if_eq (tgt := 17) hx hb dX11_goes_10 (by decide) (fun c => ?_) (fun c => ?_)
  · have h := (if_pos c).symm.trans h
    refine lv_aload_n hx hb dX11_goes_17 rfl (lv_at hl 0 rfl) ?_
    refine va_get (D := G.1) (ci := 13) (v := .ref (G.2.1 37)) (C := RX11) (T := TX11) (N := 5) hx hb hts gx_X11 hown hT.2.1 hP 33 rfl rfl 3 (by decide) (hts _ gv_1178) (fun _ h9 => h9) rfl dX11_goes_18 ?_
    refine lv_iload_n hx hb dX11_goes_21 rfl (lv_at hl 1 rfl) ?_
    exact absurd h (fun h => nomatch h)
  · have h := (if_neg c).symm.trans h
    refine lv_iconst (v := 0) hx hb dX11_goes_13 (by decide) ?_
    refine lv_goto (tgt := 23) hx hb dX11_goes_14 (by decide) ?_
    exact gw_ri X hP hS h dX11_goes_23
def f_X11_isFixed (a0 : Int32) (σ : gw_S) : Option (Int32 × gw_S) := ((f_X11_isName a0 σ).bind fun p1 => ((f_X11_no p1.1 (1 : Int32) p1.2).bind fun p2 => (if p2.1 = 0 then none else (some ((0 : Int32), p2.2)))))
set_option maxHeartbeats 4000000 in
set_option maxRecDepth 100000 in
theorem gc_X11_isFixed (l : Launch) (G : gw_G) (a0 : Int32) (σ : gw_S) (o : (Int32 × gw_S)) (h : f_X11_isFixed a0 σ = some o) : gw_M (fun sz => gw_QZ G sz o) l yX11_isFixed cX11_isFixed 4 (some .boolean) { frames := 2, cells := 0, slots := 0, locals := 43 } G [.ref (G.2.1 33), .int a0] σ := by
  refine gw_en (own := RX11) (lv := [(0, .ref (G.2.1 33)), (1, .int a0)]) (by decide +kernel) rfl (Nat.le_of_ble_eq_true rfl) rfl ?_
  intro p e s m below meth c ls X hl hP
  obtain ⟨hx, hb, hml, hown, hts, -, -, hT, hZ, -⟩ := id X
  have hS : va_S (gw_A G s.heap.size) s.heap s.heap [] := va_S.rf
  unfold f_X11_isFixed at h
  refine lv_aload_n hx hb dX11_isFixed_0 rfl (lv_at hl 0 rfl) ?_
  refine lv_aload_n hx hb dX11_isFixed_1 rfl (lv_at hl 0 rfl) ?_
  refine lv_iload_n hx hb dX11_isFixed_2 rfl (lv_at hl 1 rfl) ?_
  obtain ⟨p1, gp1, h⟩ := Option.bind_eq_some_iff.mp h
  refine gw_cz (gw_rV (C := RX11) X hP hS (gc_X11_isName l G a0 σ _ gp1) gk_X11_isName gv_1518 ⟨gv_1520, gv_s35⟩ (va_recv hT.2.1 hP (ci := 13) (q0 := 33) rfl rfl) rfl rfl (Nat.le_of_ble_eq_true rfl) hl.1 ⟨rfl, rfl⟩ ⟨Nat.le_of_ble_eq_true rfl, Nat.le_of_ble_eq_true rfl⟩ ⟨Nat.le_of_ble_eq_true rfl, Nat.le_of_ble_eq_true rfl⟩ dX11_isFixed_3) hS (fun H locs hb_p1 hP hS => ?_)
  refine lv_iconst (v := 1) hx hb dX11_isFixed_6 (by decide) ?_
  obtain ⟨p2, gp2, h⟩ := Option.bind_eq_some_iff.mp h
  refine gw_cz (gw_rV (C := RX11) X hP hS (gc_X11_no l G p1.1 (1 : Int32) p1.2 _ gp2) gk_X11_no gv_1209 ⟨gv_1211, gv_s22⟩ (va_recv hT.2.1 hP (ci := 13) (q0 := 33) rfl rfl) rfl rfl (Nat.le_of_ble_eq_true rfl) hl.1 ⟨rfl, rfl⟩ ⟨Nat.le_of_ble_eq_true rfl, Nat.le_of_ble_eq_true rfl⟩ ⟨Nat.le_of_ble_eq_true rfl, Nat.le_of_ble_eq_true rfl⟩ dX11_isFixed_7) hS (fun H locs hb_p2 hP hS => ?_)
  refine lv_if_ne (tgt := 25) hx hb dX11_isFixed_10 (by decide) (fun c => ?_) (fun c => ?_)
  · have h := (if_neg c).symm.trans h
    refine lv_iconst (v := 0) hx hb dX11_isFixed_25 (by decide) ?_
    exact gw_rz X hP hS rfl h dX11_isFixed_26
  · have h := (if_pos c).symm.trans h
    refine lv_aload_n hx hb dX11_isFixed_13 rfl (lv_at hl 0 rfl) ?_
    refine lv_aload_n hx hb dX11_isFixed_14 rfl (lv_at hl 0 rfl) ?_
    exact absurd h (fun h => nomatch h)
def f_X11_clear (σ : gw_S) : Option (Int32 × gw_S) := ((f_Jx4a65c_size_8abf5_36 σ).bind fun p1 => ((f_Jx4a65c_clear_da8c8_36 p1.2).bind fun p2 => (some (p1.1, p2))))
set_option maxHeartbeats 4000000 in
set_option maxRecDepth 100000 in
theorem gc_X11_clear (l : Launch) (G : gw_G) (σ : gw_S) (o : (Int32 × gw_S)) (h : f_X11_clear σ = some o) : gw_M (fun sz => gw_QI G sz o) l yX11_clear cX11_clear 2 (some .int) { frames := 1, cells := 0, slots := 0, locals := 23 } G [.ref (G.2.1 33)] σ := by
  refine gw_en (own := RX11) (lv := [(0, .ref (G.2.1 33))]) (by decide +kernel) rfl (Nat.le_of_ble_eq_true rfl) rfl ?_
  intro p e s m below meth c ls X hl hP
  obtain ⟨hx, hb, hml, hown, hts, -, -, hT, hZ, -⟩ := id X
  have hS : va_S (gw_A G s.heap.size) s.heap s.heap [] := va_S.rf
  unfold f_X11_clear at h
  refine lv_aload_n hx hb dX11_clear_0 rfl (lv_at hl 0 rfl) ?_
  refine va_get (D := G.1) (ci := 13) (v := .ref (G.2.1 36)) (C := RX11) (T := TX11) (N := 5) hx hb hts gx_X11 hown hT.2.1 hP 33 rfl rfl 2 (by decide) (hts _ gv_1177) (fun _ h9 => h9) rfl dX11_clear_1 ?_
  obtain ⟨p1, gp1, h⟩ := Option.bind_eq_some_iff.mp h
  refine gw_fi (gw_rF (x := ⟨"java/util/List", "size", "()I"⟩) (C := RJx4a65c) X (hT.2.1.1 2 _ rfl).2 hP hS (gc_Jx4a65c_size_8abf5_36 l G σ _ gp1) gk_Jx4a65c_size_8abf5 ⟨by decide +kernel, by decide +kernel⟩ gv_1200 ⟨gv_1204, gv_1206⟩ 0 rfl (va_recv hT.2.1 hP (ci := 2) (q0 := 36) rfl rfl) rfl rfl (Nat.le_of_ble_eq_true rfl) hl.1 ⟨rfl, rfl⟩ ⟨Nat.le_of_ble_eq_true rfl, Nat.le_of_ble_eq_true rfl⟩ ⟨Nat.le_of_ble_eq_true rfl, Nat.le_of_ble_eq_true rfl⟩ dX11_clear_4) hS (fun H locs hP hS => ?_)
  refine lv_istore_n (lv' := [(1, .int p1.1), (0, .ref (G.2.1 33))]) hx hb dX11_clear_9 rfl hl (by decide) rfl (fun ls hl => ?_)
  refine lv_aload_n hx hb dX11_clear_10 rfl (lv_at hl 1 rfl) ?_
  refine va_get (D := G.1) (ci := 13) (v := .ref (G.2.1 36)) (C := RX11) (T := TX11) (N := 5) hx hb hts gx_X11 hown hT.2.1 hP 33 rfl rfl 2 (by decide) (hts _ gv_1177) (fun _ h9 => h9) rfl dX11_clear_11 ?_
  obtain ⟨p2, gp2, h⟩ := Option.bind_eq_some_iff.mp h
  refine gw_fv (gw_rF (x := ⟨"java/util/List", "clear", "()V"⟩) (C := RJx4a65c) X (hT.2.1.1 2 _ rfl).2 hP hS (gc_Jx4a65c_clear_da8c8_36 l G p1.2 _ gp2) gk_Jx4a65c_clear_da8c8 ⟨by decide +kernel, by decide +kernel⟩ gv_1764 ⟨gv_1767, gv_1769⟩ 2 rfl (va_recv hT.2.1 hP (ci := 2) (q0 := 36) rfl rfl) rfl rfl (Nat.le_of_ble_eq_true rfl) hl.1 ⟨rfl, rfl⟩ ⟨Nat.le_of_ble_eq_true rfl, Nat.le_of_ble_eq_true rfl⟩ ⟨Nat.le_of_ble_eq_true rfl, Nat.le_of_ble_eq_true rfl⟩ dX11_clear_14) hS (fun H locs hP hS => ?_)
  refine lv_iload_n hx hb dX11_clear_19 rfl (lv_at hl 0 rfl) ?_
  exact gw_ri X hP hS h dX11_clear_20
def f_X11_lastShare (σ : gw_S) : Option (UInt32 × gw_S) := ((f_Jx4a65c_isEmpty_aae02_34 σ).bind fun p1 => (if p1.1 = 0 then ((f_X11_no (1 : Int32) (1 : Int32) p1.2).bind fun p5 => (if p5.1 = 0 then ((f_X11_ends  p5.2).bind fun p6 => ((f_J6_bitCount_0f7a4 p6.1 p6.2).bind fun p7 => none)) else (some (0, p5.2)))) else ((f_X11_no (0 : Int32) (1 : Int32) p1.2).bind fun p2 => (if p2.1 = 0 then ((f_X11_ends  p2.2).bind fun p3 => ((f_J6_bitCount_0f7a4 p3.1 p3.2).bind fun p4 => none)) else (some (0, p2.2))))))
set_option maxHeartbeats 4000000 in
set_option maxRecDepth 100000 in
theorem gc_X11_lastShare (l : Launch) (G : gw_G) (σ : gw_S) (o : (UInt32 × gw_S)) (h : f_X11_lastShare σ = some o) : gw_M (fun sz => gw_QF G sz o) l yX11_lastShare cX11_lastShare 1 (some .float) { frames := 2, cells := 0, slots := 0, locals := 42 } G [.ref (G.2.1 33)] σ := by
  refine gw_en (own := RX11) (lv := [(0, .ref (G.2.1 33))]) (by decide +kernel) rfl (Nat.le_of_ble_eq_true rfl) rfl ?_
  intro p e s m below meth c ls X hl hP
  obtain ⟨hx, hb, hml, hown, hts, -, -, hT, hZ, -⟩ := id X
  have hS : va_S (gw_A G s.heap.size) s.heap s.heap [] := va_S.rf
  unfold f_X11_lastShare at h
  refine lv_aload_n hx hb dX11_lastShare_0 rfl (lv_at hl 0 rfl) ?_
  refine lv_aload_n hx hb dX11_lastShare_1 rfl (lv_at hl 0 rfl) ?_
  refine va_get (D := G.1) (ci := 13) (v := .ref (G.2.1 34)) (C := RX11) (T := TX11) (N := 5) hx hb hts gx_X11 hown hT.2.1 hP 33 rfl rfl 0 (by decide) (hts _ gv_1175) (fun _ h9 => h9) rfl dX11_lastShare_2 ?_
  obtain ⟨p1, gp1, h⟩ := Option.bind_eq_some_iff.mp h
  refine gw_fz (gw_rF (x := ⟨"java/util/List", "isEmpty", "()Z"⟩) (C := RJx4a65c) X (hT.2.1.1 2 _ rfl).2 hP hS (gc_Jx4a65c_isEmpty_aae02_34 l G σ _ gp1) gk_Jx4a65c_isEmpty_aae02 ⟨by decide +kernel, by decide +kernel⟩ gv_1549 ⟨gv_1552, gv_1554⟩ 1 rfl (va_recv hT.2.1 hP (ci := 2) (q0 := 34) rfl rfl) rfl rfl (Nat.le_of_ble_eq_true rfl) hl.1 ⟨rfl, rfl⟩ ⟨Nat.le_of_ble_eq_true rfl, Nat.le_of_ble_eq_true rfl⟩ ⟨Nat.le_of_ble_eq_true rfl, Nat.le_of_ble_eq_true rfl⟩ dX11_lastShare_5) hS (fun H locs hb_p1 hP hS => ?_)
  refine lv_if_ne (tgt := 17) hx hb dX11_lastShare_10 (by decide) (fun c => ?_) (fun c => ?_)
  · have h := (if_neg c).symm.trans h
    refine lv_iconst (v := 0) hx hb dX11_lastShare_17 (by decide) ?_
    refine lv_iconst (v := 1) hx hb dX11_lastShare_18 (by decide) ?_
    obtain ⟨p2, gp2, h⟩ := Option.bind_eq_some_iff.mp h
    refine gw_cz (gw_rV (C := RX11) X hP hS (gc_X11_no l G (0 : Int32) (1 : Int32) p1.2 _ gp2) gk_X11_no gv_1209 ⟨gv_1211, gv_s22⟩ (va_recv hT.2.1 hP (ci := 13) (q0 := 33) rfl rfl) rfl rfl (Nat.le_of_ble_eq_true rfl) hl.1 ⟨rfl, rfl⟩ ⟨Nat.le_of_ble_eq_true rfl, Nat.le_of_ble_eq_true rfl⟩ ⟨Nat.le_of_ble_eq_true rfl, Nat.le_of_ble_eq_true rfl⟩ dX11_lastShare_19) hS (fun H locs hb_p2 hP hS => ?_)
    refine lv_if_eq (tgt := 29) hx hb dX11_lastShare_22 (by decide) (fun c => ?_) (fun c => ?_)
    · have h := (if_pos c).symm.trans h
      refine lv_aload_n hx hb dX11_lastShare_29 rfl (lv_at hl 0 rfl) ?_
      obtain ⟨p3, gp3, h⟩ := Option.bind_eq_some_iff.mp h
      refine gw_ci (gw_rV (C := RX11) X hP hS (gc_X11_ends l G  p2.2 _ gp3) gk_X11_ends gv_1432 ⟨gv_1434, gv_s29⟩ (va_recv hT.2.1 hP (ci := 13) (q0 := 33) rfl rfl) rfl rfl (Nat.le_of_ble_eq_true rfl) hl.1 ⟨rfl, rfl⟩ ⟨Nat.le_of_ble_eq_true rfl, Nat.le_of_ble_eq_true rfl⟩ ⟨Nat.le_of_ble_eq_true rfl, Nat.le_of_ble_eq_true rfl⟩ dX11_lastShare_30) hS (fun H locs hP hS => ?_)
      obtain ⟨p4, gp4, h⟩ := Option.bind_eq_some_iff.mp h
      refine gw_ci (gw_rS X hP hS (gc_J6_bitCount_0f7a4 l G p3.1 p3.2 _ gp4) gk_J6_bitCount_0f7a4 gv_1415 gv_249 rfl rfl (Nat.le_of_ble_eq_true rfl) hl.1 ⟨rfl, rfl⟩ ⟨Nat.le_of_ble_eq_true rfl, Nat.le_of_ble_eq_true rfl⟩ ⟨Nat.le_of_ble_eq_true rfl, Nat.le_of_ble_eq_true rfl⟩ dX11_lastShare_33) hS (fun H locs hP hS => ?_)
      exact absurd h (fun h => nomatch h)
    · have h := (if_neg c).symm.trans h
      refine lv_fconst0 hx hb dX11_lastShare_25 ?_
      refine lv_goto (tgt := 48) hx hb dX11_lastShare_26 (by decide) ?_
      exact gw_rf X hP hS h dX11_lastShare_48
  · have h := (if_pos c).symm.trans h
    refine lv_iconst (v := 1) hx hb dX11_lastShare_13 (by decide) ?_
    refine lv_goto (tgt := 18) hx hb dX11_lastShare_14 (by decide) ?_
    refine lv_iconst (v := 1) hx hb dX11_lastShare_18 (by decide) ?_
    obtain ⟨p5, gp5, h⟩ := Option.bind_eq_some_iff.mp h
    refine gw_cz (gw_rV (C := RX11) X hP hS (gc_X11_no l G (1 : Int32) (1 : Int32) p1.2 _ gp5) gk_X11_no gv_1209 ⟨gv_1211, gv_s22⟩ (va_recv hT.2.1 hP (ci := 13) (q0 := 33) rfl rfl) rfl rfl (Nat.le_of_ble_eq_true rfl) hl.1 ⟨rfl, rfl⟩ ⟨Nat.le_of_ble_eq_true rfl, Nat.le_of_ble_eq_true rfl⟩ ⟨Nat.le_of_ble_eq_true rfl, Nat.le_of_ble_eq_true rfl⟩ dX11_lastShare_19) hS (fun H locs hb_p5 hP hS => ?_)
    refine lv_if_eq (tgt := 29) hx hb dX11_lastShare_22 (by decide) (fun c => ?_) (fun c => ?_)
    · have h := (if_pos c).symm.trans h
      refine lv_aload_n hx hb dX11_lastShare_29 rfl (lv_at hl 0 rfl) ?_
      obtain ⟨p6, gp6, h⟩ := Option.bind_eq_some_iff.mp h
      refine gw_ci (gw_rV (C := RX11) X hP hS (gc_X11_ends l G  p5.2 _ gp6) gk_X11_ends gv_1432 ⟨gv_1434, gv_s29⟩ (va_recv hT.2.1 hP (ci := 13) (q0 := 33) rfl rfl) rfl rfl (Nat.le_of_ble_eq_true rfl) hl.1 ⟨rfl, rfl⟩ ⟨Nat.le_of_ble_eq_true rfl, Nat.le_of_ble_eq_true rfl⟩ ⟨Nat.le_of_ble_eq_true rfl, Nat.le_of_ble_eq_true rfl⟩ dX11_lastShare_30) hS (fun H locs hP hS => ?_)
      obtain ⟨p7, gp7, h⟩ := Option.bind_eq_some_iff.mp h
      refine gw_ci (gw_rS X hP hS (gc_J6_bitCount_0f7a4 l G p6.1 p6.2 _ gp7) gk_J6_bitCount_0f7a4 gv_1415 gv_249 rfl rfl (Nat.le_of_ble_eq_true rfl) hl.1 ⟨rfl, rfl⟩ ⟨Nat.le_of_ble_eq_true rfl, Nat.le_of_ble_eq_true rfl⟩ ⟨Nat.le_of_ble_eq_true rfl, Nat.le_of_ble_eq_true rfl⟩ dX11_lastShare_33) hS (fun H locs hP hS => ?_)
      exact absurd h (fun h => nomatch h)
    · have h := (if_neg c).symm.trans h
      refine lv_fconst0 hx hb dX11_lastShare_25 ?_
      refine lv_goto (tgt := 48) hx hb dX11_lastShare_26 (by decide) ?_
      exact gw_rf X hP hS h dX11_lastShare_48
def f_X11_meanRank_L4 : Nat → Int32 → Int32 → gw_S → Option (UInt64 × gw_S)
  | 0, _, _, _ => none
  | n + 1, v4_1, v4_2, σ => ((f_Jx4a65c_size_8abf5_35 σ).bind fun p1 => (if p1.1 ≤ v4_2 then ((f_Jx4a65c_isEmpty_aae02_35 p1.2).bind fun p2 => (if p2.1 = 0 then ((f_X11_no (1 : Int32) (1 : Int32) p2.2).bind fun p4 => (if p4.1 = 0 then none else (some (0, p4.2)))) else ((f_X11_no (0 : Int32) (1 : Int32) p2.2).bind fun p3 => (if p3.1 = 0 then none else (some (0, p3.2)))))) else none))
def f_X11_meanRank (σ : gw_S) : Option (UInt64 × gw_S) := (f_X11_meanRank_L4 64 (0 : Int32) (0 : Int32) σ)
set_option maxHeartbeats 4000000 in
set_option maxRecDepth 100000 in
theorem gc_X11_meanRank (l : Launch) (G : gw_G) (σ : gw_S) (o : (UInt64 × gw_S)) (h : f_X11_meanRank σ = some o) : gw_M (fun sz => gw_QD G sz o) l yX11_meanRank cX11_meanRank 3 (some .double) { frames := 1, cells := 0, slots := 0, locals := 22 } G [.ref (G.2.1 33)] σ := by
  refine gw_en (own := RX11) (lv := [(0, .ref (G.2.1 33))]) (by decide +kernel) rfl (Nat.le_of_ble_eq_true rfl) rfl ?_
  intro p e s m below meth c ls X hl hP
  obtain ⟨hx, hb, hml, hown, hts, -, -, hT, hZ, -⟩ := id X
  have hS : va_S (gw_A G s.heap.size) s.heap s.heap [] := va_S.rf
  have L4 : ∀ (n : Nat) (v4_1 : Int32) (v4_2 : Int32) (σ : gw_S) (H : Heap) (locs : List Loc) (ls : Array Slot), f_X11_meanRank_L4 n v4_1 v4_2 σ = some o → gw_P G σ H → va_S (gw_A G s.heap.size) s.heap H locs → lv_has ls 3 [(0, .ref (G.2.1 33)), (1, .int v4_1), (2, .int v4_2)] → W p l e { frames := 1, cells := 0, slots := 0, locals := 22 } s m [.ref (G.2.1 33)].toArray below meth c H locs 0 0 (MQ below (gw_QD G s.heap.size o) [.ref (G.2.1 33)].toArray s 0 0 (gw_A G s.heap.size)) (F0 m 4 ls []) := by
    intro n
    induction n with
    | zero =>
      intro v4_1 v4_2 σ H locs ls h
      exact absurd h (by rw [f_X11_meanRank_L4.eq_1]; exact fun h => nomatch h)
    | succ n ih =>
      intro v4_1 v4_2 σ H locs ls h hP hS hl
      rw [f_X11_meanRank_L4.eq_2] at h
      refine lv_iload_n hx hb dX11_meanRank_4 rfl (lv_at hl 2 rfl) ?_
      refine lv_aload_n hx hb dX11_meanRank_5 rfl (lv_at hl 0 rfl) ?_
      refine va_get (D := G.1) (ci := 13) (v := .ref (G.2.1 35)) (C := RX11) (T := TX11) (N := 5) hx hb hts gx_X11 hown hT.2.1 hP 33 rfl rfl 1 (by decide) (hts _ gv_1176) (fun _ h9 => h9) rfl dX11_meanRank_6 ?_
      obtain ⟨p1, gp1, h⟩ := Option.bind_eq_some_iff.mp h
      refine gw_fi (gw_rF (x := ⟨"java/util/List", "size", "()I"⟩) (C := RJx4a65c) X (hT.2.1.1 2 _ rfl).2 hP hS (gc_Jx4a65c_size_8abf5_35 l G σ _ gp1) gk_Jx4a65c_size_8abf5 ⟨by decide +kernel, by decide +kernel⟩ gv_1200 ⟨gv_1204, gv_1206⟩ 0 rfl (va_recv hT.2.1 hP (ci := 2) (q0 := 35) rfl rfl) rfl rfl (Nat.le_of_ble_eq_true rfl) hl.1 ⟨rfl, rfl⟩ ⟨Nat.le_of_ble_eq_true rfl, Nat.le_of_ble_eq_true rfl⟩ ⟨Nat.le_of_ble_eq_true rfl, Nat.le_of_ble_eq_true rfl⟩ dX11_meanRank_9) hS (fun H locs hP hS => ?_)
      refine lv_icmp_ge (tgt := 31) hx hb dX11_meanRank_14 (by decide) (fun c => ?_) (fun c => ?_)
      · have h := (if_pos c).symm.trans h
        refine lv_aload_n hx hb dX11_meanRank_31 rfl (lv_at hl 0 rfl) ?_
        refine lv_aload_n hx hb dX11_meanRank_32 rfl (lv_at hl 0 rfl) ?_
        refine va_get (D := G.1) (ci := 13) (v := .ref (G.2.1 35)) (C := RX11) (T := TX11) (N := 5) hx hb hts gx_X11 hown hT.2.1 hP 33 rfl rfl 1 (by decide) (hts _ gv_1176) (fun _ h9 => h9) rfl dX11_meanRank_33 ?_
        obtain ⟨p2, gp2, h⟩ := Option.bind_eq_some_iff.mp h
        refine gw_fz (gw_rF (x := ⟨"java/util/List", "isEmpty", "()Z"⟩) (C := RJx4a65c) X (hT.2.1.1 2 _ rfl).2 hP hS (gc_Jx4a65c_isEmpty_aae02_35 l G p1.2 _ gp2) gk_Jx4a65c_isEmpty_aae02 ⟨by decide +kernel, by decide +kernel⟩ gv_1549 ⟨gv_1552, gv_1554⟩ 1 rfl (va_recv hT.2.1 hP (ci := 2) (q0 := 35) rfl rfl) rfl rfl (Nat.le_of_ble_eq_true rfl) hl.1 ⟨rfl, rfl⟩ ⟨Nat.le_of_ble_eq_true rfl, Nat.le_of_ble_eq_true rfl⟩ ⟨Nat.le_of_ble_eq_true rfl, Nat.le_of_ble_eq_true rfl⟩ dX11_meanRank_36) hS (fun H locs hb_p2 hP hS => ?_)
        refine lv_if_ne (tgt := 48) hx hb dX11_meanRank_41 (by decide) (fun c => ?_) (fun c => ?_)
        · have h := (if_neg c).symm.trans h
          refine lv_iconst (v := 0) hx hb dX11_meanRank_48 (by decide) ?_
          refine lv_iconst (v := 1) hx hb dX11_meanRank_49 (by decide) ?_
          obtain ⟨p3, gp3, h⟩ := Option.bind_eq_some_iff.mp h
          refine gw_cz (gw_rV (C := RX11) X hP hS (gc_X11_no l G (0 : Int32) (1 : Int32) p2.2 _ gp3) gk_X11_no gv_1209 ⟨gv_1211, gv_s22⟩ (va_recv hT.2.1 hP (ci := 13) (q0 := 33) rfl rfl) rfl rfl (Nat.le_of_ble_eq_true rfl) hl.1 ⟨rfl, rfl⟩ ⟨Nat.le_of_ble_eq_true rfl, Nat.le_of_ble_eq_true rfl⟩ ⟨Nat.le_of_ble_eq_true rfl, Nat.le_of_ble_eq_true rfl⟩ dX11_meanRank_50) hS (fun H locs hb_p3 hP hS => ?_)
          refine lv_if_eq (tgt := 60) hx hb dX11_meanRank_53 (by decide) (fun c => ?_) (fun c => ?_)
          · have h := (if_pos c).symm.trans h
            refine lv_iload_n hx hb dX11_meanRank_60 rfl (lv_at hl 1 rfl) ?_
            exact absurd h (fun h => nomatch h)
          · have h := (if_neg c).symm.trans h
            refine lv_dconst0 hx hb dX11_meanRank_56 ?_
            refine lv_goto (tgt := 73) hx hb dX11_meanRank_57 (by decide) ?_
            exact gw_rd X hP hS h dX11_meanRank_73
        · have h := (if_pos c).symm.trans h
          refine lv_iconst (v := 1) hx hb dX11_meanRank_44 (by decide) ?_
          refine lv_goto (tgt := 49) hx hb dX11_meanRank_45 (by decide) ?_
          refine lv_iconst (v := 1) hx hb dX11_meanRank_49 (by decide) ?_
          obtain ⟨p4, gp4, h⟩ := Option.bind_eq_some_iff.mp h
          refine gw_cz (gw_rV (C := RX11) X hP hS (gc_X11_no l G (1 : Int32) (1 : Int32) p2.2 _ gp4) gk_X11_no gv_1209 ⟨gv_1211, gv_s22⟩ (va_recv hT.2.1 hP (ci := 13) (q0 := 33) rfl rfl) rfl rfl (Nat.le_of_ble_eq_true rfl) hl.1 ⟨rfl, rfl⟩ ⟨Nat.le_of_ble_eq_true rfl, Nat.le_of_ble_eq_true rfl⟩ ⟨Nat.le_of_ble_eq_true rfl, Nat.le_of_ble_eq_true rfl⟩ dX11_meanRank_50) hS (fun H locs hb_p4 hP hS => ?_)
          refine lv_if_eq (tgt := 60) hx hb dX11_meanRank_53 (by decide) (fun c => ?_) (fun c => ?_)
          · have h := (if_pos c).symm.trans h
            refine lv_iload_n hx hb dX11_meanRank_60 rfl (lv_at hl 1 rfl) ?_
            exact absurd h (fun h => nomatch h)
          · have h := (if_neg c).symm.trans h
            refine lv_dconst0 hx hb dX11_meanRank_56 ?_
            refine lv_goto (tgt := 73) hx hb dX11_meanRank_57 (by decide) ?_
            exact gw_rd X hP hS h dX11_meanRank_73
      · have h := (if_neg c).symm.trans h
        refine lv_iload_n hx hb dX11_meanRank_17 rfl (lv_at hl 1 rfl) ?_
        refine lv_aload_n hx hb dX11_meanRank_18 rfl (lv_at hl 0 rfl) ?_
        refine lv_iload_n hx hb dX11_meanRank_19 rfl (lv_at hl 2 rfl) ?_
        exact absurd h (fun h => nomatch h)
  unfold f_X11_meanRank at h
  refine lv_iconst (v := 0) hx hb dX11_meanRank_0 (by decide) ?_
  refine lv_istore_n (lv' := [(1, .int (0 : Int32)), (0, .ref (G.2.1 33))]) hx hb dX11_meanRank_1 rfl hl (by decide) rfl (fun ls hl => ?_)
  refine lv_iconst (v := 0) hx hb dX11_meanRank_2 (by decide) ?_
  refine lv_istore_n (lv' := [(2, .int (0 : Int32)), (1, .int (0 : Int32)), (0, .ref (G.2.1 33))]) hx hb dX11_meanRank_3 rfl hl (by decide) rfl (fun ls hl => ?_)
  exact L4 64 (0 : Int32) (0 : Int32) σ _ _ _ h hP hS (lv_sub hl [2, 1, 0] rfl)
def f_X11_isSound (σ : gw_S) : Option (Int32 × gw_S) := (some ((1 : Int32), σ))
set_option maxHeartbeats 4000000 in
set_option maxRecDepth 100000 in
theorem gc_X11_isSound (l : Launch) (G : gw_G) (σ : gw_S) (o : (Int32 × gw_S)) (h : f_X11_isSound σ = some o) : gw_M (fun sz => gw_QZ G sz o) l yX11_isSound cX11_isSound 1 (some .boolean) { frames := 0, cells := 0, slots := 0, locals := 0 } G [.ref (G.2.1 33)] σ := by
  refine gw_en (own := RX11) (lv := [(0, .ref (G.2.1 33))]) (by decide +kernel) rfl (Nat.le_of_ble_eq_true rfl) rfl ?_
  intro p e s m below meth c ls X hl hP
  obtain ⟨hx, hb, hml, hown, hts, -, -, hT, hZ, -⟩ := id X
  have hS : va_S (gw_A G s.heap.size) s.heap s.heap [] := va_S.rf
  unfold f_X11_isSound at h
  refine lv_iconst (v := 1) hx hb dX11_isSound_0 (by decide) ?_
  exact gw_rz X hP hS rfl h dX11_isSound_1
