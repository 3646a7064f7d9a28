theorem ic_set0 {σ : gw_S} (h2 : σ 34 2 = 0) : f_X11_isSet 0 σ = some (1, σ) := by
  unfold f_X11_isSet f_Jx4a65c_size_8abf5_34
  show ((f_X11_isIn 0 0 (((1 : Int32) <<< ((σ 34 2) &&& 31)) - (1 : Int32)) σ).bind _) = _
  rw [h2]
  rfl
set_option maxHeartbeats 4000000 in
set_option maxRecDepth 100000 in
theorem lm_isDense (l : Launch) (G : gw_G) (σ : gw_S) (h0 : σ 34 0 = 0) (h2 : σ 34 2 = 0) : ∀ sz : Nat, Met l yX11_isDense (.code yX11_isDense cX11_isDense 5 (some .boolean) :: gw_L) { frames := 6, cells := 1, slots := 4, locals := 200 } (va_Pc [.ref (G.2.1 33), .int 0] (lm_Pre G sz σ)) (va_Qi (fun r (_ : Unit) => r = 1) (fun _ t => va_P G.1 vwCl (lm_W3 G 0) t.heap) (gw_A G sz)) 1 4 (gw_A G sz) := by
  refine lm_en (own := RX11) (lv := [(0, .ref (G.2.1 33)), (1, .int 0)]) (Qc := fun sz => va_Qi (fun r (_ : Unit) => r = 1) (fun _ t => va_P G.1 vwCl (lm_W3 G 0) t.heap) (gw_A G sz)) (by decide +kernel) rfl (Nat.le_of_ble_eq_true rfl) rfl ?_
  intro p e s m below meth c ls X hl hP hY
  obtain ⟨hx, hb, hml, hown, hts, hr, hlocks, hT, hZ, -⟩ := id X
  have hS : va_S (gw_A G s.heap.size) s.heap s.heap [] := va_S.rf
  refine lv_aload_n hx hb dX11_isDense_0 rfl (lv_at hl 0 rfl) ?_
  refine lv_aload_n hx hb dX11_isDense_1 rfl (lv_at hl 0 rfl) ?_
  refine lv_iload_n hx hb dX11_isDense_2 rfl (lv_at hl 1 rfl) ?_
  refine gw_cz (gw_rV (C := RX11) X hP hS (gc_X11_isSet l G 0 σ (1, σ) (ic_set0 h2)) gk_X11_isSet gv_1440 ⟨gv_1442, gv_s30⟩ (va_recv hT.2.1 hP (ci := 13) (q0 := 33) rfl rfl) rfl rfl (Nat.le_of_ble_eq_true rfl) hl.1 ⟨rfl, rfl⟩ ⟨Nat.le_of_ble_eq_true rfl, Nat.le_of_ble_eq_true rfl⟩ ⟨Nat.le_of_ble_eq_true rfl, Nat.le_of_ble_eq_true rfl⟩ dX11_isDense_3) hS (fun H locs _ hP hS => ?_)
  refine lv_iconst (v := 1) hx hb dX11_isDense_6 (by decide) ?_
  refine gw_cz (gw_rV (C := RX11) X hP hS (gc_X11_no l G (1 : Int32) (1 : Int32) σ (0, gw_up σ 33 4 0) rfl) gk_X11_no gv_1209 ⟨gv_1211, gv_s22⟩ (va_recv hT.2.1 hP (ci := 13) (q0 := 33) rfl rfl) rfl rfl (Nat.le_of_ble_eq_true rfl) hl.1 ⟨rfl, rfl⟩ ⟨Nat.le_of_ble_eq_true rfl, Nat.le_of_ble_eq_true rfl⟩ ⟨Nat.le_of_ble_eq_true rfl, Nat.le_of_ble_eq_true rfl⟩ dX11_isDense_7) hS (fun H locs _ hP hS => ?_)
  have hP : gw_P G (gw_up σ 33 4 0) H := hP
  refine lv_if_eq (tgt := 15) hx hb dX11_isDense_10 (by decide) (fun _ => ?_) (fun z => absurd rfl z)
  refine lv_iconst (v := 1) hx hb dX11_isDense_15 (by decide) ?_
  refine lv_istore_n (lv' := [(2, .int 1), (0, .ref (G.2.1 33)), (1, .int 0)]) hx hb dX11_isDense_16 rfl hl (by decide) rfl (fun ls hl => ?_)
  refine lv_aload_n hx hb dX11_isDense_17 rfl (lv_at hl 1 rfl) ?_
  refine va_get (D := G.1) (ci := 13) (v := .ref (G.2.1 34)) (C := RX11) (T := TX11) (N := 5) hx hb hts gx_X11 hown hT.2.1 hP 33 rfl rfl 0 (by decide) (hts _ gv_1175) (fun _ h9 => h9) rfl dX11_isDense_18 ?_
  have hPl : va_P G.1 vwCl [(G.2.1 34, .inr (2, [.int (σ 34 0), .ref (G.2.1 99), .int (σ 34 2)]))] H := hP.sub [34] rfl
  rw [h0, h2] at hPl
  have hP3 : va_P G.1 vwCl (lm_W3 G 0) H := hP.sub [33] rfl
  refine ib_iter (rest := []) X hPl (Or.inl ⟨34, by decide, rfl⟩) hS rfl (Nat.le_of_ble_eq_true rfl) hl.1 ⟨Nat.le_of_ble_eq_true rfl, Nat.le_of_ble_eq_true rfl⟩ ⟨Nat.le_of_ble_eq_true rfl, Nat.le_of_ble_eq_true rfl⟩ dX11_isDense_21 (fun it H1 locs hPi hit hk hS => ?_)
  have h34 : G.2.1 34 < H.size := (hPl 0 _ rfl).lt
  have h33 : G.2.1 33 < H.size := (hP3 0 _ rfl).lt
  have hP3 : va_P G.1 vwCl (lm_W3 G 0) H1 := ib_kept hP3 (fun hlt z => z.elim (fun z => absurd (hT.1 33 34 (by decide) (by decide) z) (by decide)) (fun z => absurd hlt (Nat.not_lt.mpr z))) hk
  refine lv_astore_n (lv' := [(3, .ref it), (2, .int 1), (0, .ref (G.2.1 33)), (1, .int 0)]) hx hb dX11_isDense_26 rfl hl (by decide) rfl (fun ls hl => ?_)
  refine lv_aload_n hx hb dX11_isDense_27 rfl (lv_at hl 0 rfl) ?_
  refine ib_next (rest := []) X hPi (fun z => absurd h34 (by rw [← z]; exact Nat.not_lt.mpr hit)) hS rfl (Nat.le_of_ble_eq_true rfl) hl.1 ⟨Nat.le_of_ble_eq_true rfl, Nat.le_of_ble_eq_true rfl⟩ ⟨Nat.le_of_ble_eq_true rfl, Nat.le_of_ble_eq_true rfl⟩ dX11_isDense_28 (fun H2 locs hk2 hS => ?_)
  have hP3 : va_P G.1 vwCl (lm_W3 G 0) H2 := ib_kept (A := fun _ => False) hP3 (fun _ z => z) (fun q hq _ => hk2 q hq)
  refine lv_if_eq (tgt := 68) hx hb dX11_isDense_33 (by decide) (fun _ => ?_) (fun z => absurd rfl z)
  refine lv_iload_n hx hb dX11_isDense_68 rfl (lv_at hl 1 rfl) ?_
  exact W.zret (v := 1) hx hb hr rfl (fun t ht _ => ⟨⟨_, (), rfl, rfl, by show va_P G.1 vwCl (lm_W3 G 0) t.heap; rw [ht]; exact hP3⟩, hS.F ht⟩) hS.2.2 dX11_isDense_69
