
def f_X11_isDense (a0 : Int32) (σ : gw_S) : Option (Int32 × gw_S) := ((f_X11_isSet a0 σ).bind fun p1 => ((f_X11_no p1.1 (1 : Int32) p1.2).bind fun p2 => (if p2.1 = 0 then none else (some ((0 : Int32), p2.2)))))
set_option maxHeartbeats 4000000 in
set_option maxRecDepth 100000 in
theorem gc_X11_isDense (l : Launch) (G : gw_G) (a0 : Int32) (σ : gw_S) (o : (Int32 × gw_S)) (h : f_X11_isDense a0 σ = some o) : gw_M (fun sz => gw_QZ G sz o) l yX11_isDense cX11_isDense 5 (some .boolean) { frames := 2, cells := 0, slots := 0, locals := 43 } G [.ref (G.2.1 33), .int a0] σ := by
  refine gw_en (own := RX11) (lv := [(0, .ref (G.2.1 33)), (1, .int a0)]) (by decide +kernel) rfl (Nat.le_of_ble_eq_true rfl) rfl ?_
  intro p e s m below meth c ls X hl hP
  obtain ⟨hx, hb, hml, hown, hts, -, -, hT, hZ, -⟩ := id X
  have hS : va_S (gw_A G s.heap.size) s.heap s.heap [] := va_S.rf
  unfold f_X11_isDense at h
  refine lv_aload_n hx hb dX11_isDense_0 rfl (lv_at hl 0 rfl) ?_
  refine lv_aload_n hx hb dX11_isDense_1 rfl (lv_at hl 0 rfl) ?_
  refine lv_iload_n hx hb dX11_isDense_2 rfl (lv_at hl 1 rfl) ?_
  obtain ⟨p1, gp1, h⟩ := Option.bind_eq_some_iff.mp h
  refine gw_cz (gw_rV (C := RX11) X hP hS (gc_X11_isSet l G a0 σ _ gp1) gk_X11_isSet gv_1440 ⟨gv_1442, gv_s30⟩ (va_recv hT.2.1 hP (ci := 13) (q0 := 33) rfl rfl) rfl rfl (Nat.le_of_ble_eq_true rfl) hl.1 ⟨rfl, rfl⟩ ⟨Nat.le_of_ble_eq_true rfl, Nat.le_of_ble_eq_true rfl⟩ ⟨Nat.le_of_ble_eq_true rfl, Nat.le_of_ble_eq_true rfl⟩ dX11_isDense_3) hS (fun H locs hb_p1 hP hS => ?_)
  refine lv_iconst (v := 1) hx hb dX11_isDense_6 (by decide) ?_
  obtain ⟨p2, gp2, h⟩ := Option.bind_eq_some_iff.mp h
  refine gw_cz (gw_rV (C := RX11) X hP hS (gc_X11_no l G p1.1 (1 : Int32) p1.2 _ gp2) gk_X11_no gv_1209 ⟨gv_1211, gv_s22⟩ (va_recv hT.2.1 hP (ci := 13) (q0 := 33) rfl rfl) rfl rfl (Nat.le_of_ble_eq_true rfl) hl.1 ⟨rfl, rfl⟩ ⟨Nat.le_of_ble_eq_true rfl, Nat.le_of_ble_eq_true rfl⟩ ⟨Nat.le_of_ble_eq_true rfl, Nat.le_of_ble_eq_true rfl⟩ dX11_isDense_7) hS (fun H locs hb_p2 hP hS => ?_)
  refine lv_if_eq (tgt := 15) hx hb dX11_isDense_10 (by decide) (fun c => ?_) (fun c => ?_)
  · have h := (if_pos c).symm.trans h
    refine lv_iconst (v := 1) hx hb dX11_isDense_15 (by decide) ?_
    refine lv_istore_n (lv' := [(2, .int (1 : Int32)), (0, .ref (G.2.1 33)), (1, .int a0)]) hx hb dX11_isDense_16 rfl hl (by decide) rfl (fun ls hl => ?_)
    refine lv_aload_n hx hb dX11_isDense_17 rfl (lv_at hl 1 rfl) ?_
    refine va_get (D := G.1) (ci := 13) (v := .ref (G.2.1 34)) (C := RX11) (T := TX11) (N := 5) hx hb hts gx_X11 hown hT.2.1 hP 33 rfl rfl 0 (by decide) (hts _ gv_1175) (fun _ h9 => h9) rfl dX11_isDense_18 ?_
    exact absurd h (fun h => nomatch h)
  · have h := (if_neg c).symm.trans h
    refine lv_iconst (v := 0) hx hb dX11_isDense_13 (by decide) ?_
    exact gw_rz X hP hS rfl h dX11_isDense_14
