set_option maxHeartbeats 4000000 in
set_option maxRecDepth 100000 in
theorem lm_checksum (l : Launch) (G : gw_G) (σ : gw_S) (h0 : σ 34 0 = 0) (h2 : σ 34 2 = 0) (h3 : σ 35 2 = 0) (h4 : σ 36 2 = 0) : ∀ sz : Nat, Met l yX11_checksum (.code yX11_checksum cX11_checksum 6 (some .long) :: gw_L) { frames := 6, cells := 1, slots := 4, locals := 200 } (va_Pc [.ref (G.2.1 33)] (lm_Pre G sz σ)) (va_Ql (fun r (_ : Unit) => r = 217) (fun _ _ => True) (gw_A G sz)) 1 4 (gw_A G sz) := by
  refine lm_en (own := RX11) (lv := [(0, .ref (G.2.1 33))]) (Qc := fun sz => va_Ql (fun r (_ : Unit) => r = 217) (fun _ _ => True) (gw_A G sz)) (by decide +kernel) rfl (Nat.le_of_ble_eq_true rfl) rfl ?_
  intro p e s m below meth c ls X hl hP hY
  obtain ⟨hx, hb, hml, hown, hts, hr, hlocks, hT, hZ, -⟩ := id X
  have hS : va_S (gw_A G s.heap.size) s.heap s.heap [] := va_S.rf
  refine lv_ldc2 (v := 7) hx hb hown (hts _ (show Cond.constantLong RX11 244 7 ∈ gw_L from gw_tab 1776 (by decide +kernel) (by decide +kernel))) dX11_checksum_0 ?_
  refine lv_lstore_n (lv' := [(1, .long 7), (0, .ref (G.2.1 33))]) hx hb dX11_checksum_3 rfl hl (by decide) rfl (fun ls hl => ?_)
  refine lv_aload_n hx hb dX11_checksum_4 rfl (lv_at hl 1 rfl) ?_
  refine va_get (D := G.1) (ci := 13) (v := .ref (G.2.1 34)) (C := RX11) (T := TX11) (N := 5) hx hb hts gx_X11 hown hT.2.1 hP 33 rfl rfl 0 (by decide) (hts _ gv_1175) (fun _ h9 => h9) rfl dX11_checksum_5 ?_
  have hPl : va_P G.1 vwCl [(G.2.1 34, .inr (2, [.int (σ 34 0), .ref (G.2.1 99), .int (σ 34 2)]))] s.heap := hP.sub [34] rfl
  rw [h0, h2] at hPl
  have hP3 : va_P G.1 vwCl (lm_W3 G (σ 33 4)) s.heap := hP.sub [33] rfl
  have hPn : va_P G.1 vwCl [(G.2.1 35, .inr (2, [.int (σ 35 0), .ref (G.2.1 99), .int (σ 35 2)]))] s.heap := hP.sub [35] rfl
  have hPf : va_P G.1 vwCl [(G.2.1 36, .inr (2, [.int (σ 36 0), .ref (G.2.1 99), .int (σ 36 2)]))] s.heap := hP.sub [36] rfl
  rw [h3] at hPn
  rw [h4] at hPf
  refine ib_iter (rest := []) X hPl (Or.inl ⟨34, by decide, rfl⟩) hS rfl (Nat.le_of_ble_eq_true rfl) hl.1 ⟨Nat.le_of_ble_eq_true rfl, Nat.le_of_ble_eq_true rfl⟩ ⟨Nat.le_of_ble_eq_true rfl, Nat.le_of_ble_eq_true rfl⟩ dX11_checksum_8 (fun it H1 locs hPi hit hk hS => ?_)
  have h34 : G.2.1 34 < s.heap.size := (hPl 0 _ rfl).lt
  have hP3 : va_P G.1 vwCl (lm_W3 G (σ 33 4)) H1 := ib_kept hP3 (fun hlt z => z.elim (fun z => absurd (hT.1 33 34 (by decide) (by decide) z) (by decide)) (fun z => absurd hlt (Nat.not_lt.mpr z))) hk
  have hPn : va_P G.1 vwCl [(G.2.1 35, .inr (2, [.int (σ 35 0), .ref (G.2.1 99), .int 0]))] H1 := ib_kept hPn (fun hlt z => z.elim (fun z => absurd (hT.1 35 34 (by decide) (by decide) z) (by decide)) (fun z => absurd hlt (Nat.not_lt.mpr z))) hk
  have hPf : va_P G.1 vwCl [(G.2.1 36, .inr (2, [.int (σ 36 0), .ref (G.2.1 99), .int 0]))] H1 := ib_kept hPf (fun hlt z => z.elim (fun z => absurd (hT.1 36 34 (by decide) (by decide) z) (by decide)) (fun z => absurd hlt (Nat.not_lt.mpr z))) hk
  refine lv_astore_n (lv' := [(3, .ref it), (1, .long 7), (0, .ref (G.2.1 33))]) hx hb dX11_checksum_13 rfl hl (by decide) rfl (fun ls hl => ?_)
  refine lv_aload_n hx hb dX11_checksum_14 rfl (lv_at hl 0 rfl) ?_
  refine ib_next (rest := []) X hPi (fun z => absurd h34 (by rw [← z]; exact Nat.not_lt.mpr hit)) hS rfl (Nat.le_of_ble_eq_true rfl) hl.1 ⟨Nat.le_of_ble_eq_true rfl, Nat.le_of_ble_eq_true rfl⟩ ⟨Nat.le_of_ble_eq_true rfl, Nat.le_of_ble_eq_true rfl⟩ dX11_checksum_15 (fun H2 locs hk2 hS => ?_)
  have hP3 : va_P G.1 vwCl (lm_W3 G (σ 33 4)) H2 := ib_kept (A := fun _ => False) hP3 (fun _ z => z) (fun q hq _ => hk2 q hq)
  have hPn : va_P G.1 vwCl [(G.2.1 35, .inr (2, [.int (σ 35 0), .ref (G.2.1 99), .int 0]))] H2 := ib_kept (A := fun _ => False) hPn (fun _ z => z) (fun q hq _ => hk2 q hq)
  have hPf : va_P G.1 vwCl [(G.2.1 36, .inr (2, [.int (σ 36 0), .ref (G.2.1 99), .int 0]))] H2 := ib_kept (A := fun _ => False) hPf (fun _ z => z) (fun q hq _ => hk2 q hq)
  refine lv_if_eq (tgt := 50) hx hb dX11_checksum_20 (by decide) (fun _ => ?_) (fun z => absurd rfl z)
  refine lv_iconst (v := 0) hx hb dX11_checksum_50 (by decide) ?_
  refine lv_istore_n (lv' := [(3, .int 0), (1, .long 7), (0, .ref (G.2.1 33))]) hx hb dX11_checksum_51 rfl hl (by decide) rfl (fun ls hl => ?_)
  refine lv_iload_n hx hb dX11_checksum_52 rfl (lv_at hl 0 rfl) ?_
  refine lv_aload_n hx hb dX11_checksum_53 rfl (lv_at hl 2 rfl) ?_
  refine va_get (D := G.1) (ci := 13) (v := .ref (G.2.1 35)) (C := RX11) (T := TX11) (N := 5) hx hb hts gx_X11 hown hT.2.1 hP3 0 rfl rfl 1 (by decide) (hts _ gv_1176) (fun _ h9 => h9) rfl dX11_checksum_54 ?_
  refine va_callFi (va_runF (x := ⟨"java/util/List", "size", "()I"⟩) (C := RJx4a65c) (As := []) (rest := [.int 0]) (hT.2.1.1 2 _ rfl).2 (gw_fix X) (la_size l G.1 (G.2.1 35) (G.2.1 99) (σ 35 0) 0 H2.size) (la_cF hts (hT.2.2.2 0 _ rfl) gk_Jx4a65c_size_8abf5 ⟨by decide +kernel, by decide +kernel⟩ gv_1200 ⟨gv_1204, gv_1206⟩ rfl rfl ⟨Nat.le_of_ble_eq_true rfl, Nat.le_of_ble_eq_true rfl⟩) ⟨la_blindS _ _ _ _, va_recv (hT.2.1.sub (tys' := []) [] rfl) hPn (ci := 2) (q0 := 0) rfl rfl, fun U hU hW => ⟨rfl, by rw [hU], by rw [hU]; exact hPn, (hT.2.1.sub [] rfl).moved hW.alike⟩⟩ rfl rfl hl.1 rfl (lv_room (Nat.le_of_ble_eq_true rfl)) dX11_checksum_57 ⟨Nat.le_of_ble_eq_true rfl, Nat.le_of_ble_eq_true rfl⟩) hS (fun _ _ z => z.elim) (fun _ z => z.elim) (fun r2 _ t3 H3 locs3 ht3 hvm3 hr2 _ hz3 hk3 hS => ?_)
  have hr2 : r2 = 0 := hr2
  subst hr2
  have hP3 : va_P G.1 vwCl (lm_W3 G (σ 33 4)) H3 := ib_kept (A := fun _ => False) hP3 (fun _ z => z) (fun q hq _ => hk3 q hq (fun z => z))
  have hPf : va_P G.1 vwCl [(G.2.1 36, .inr (2, [.int (σ 36 0), .ref (G.2.1 99), .int 0]))] H3 := ib_kept (A := fun _ => False) hPf (fun _ z => z) (fun q hq _ => hk3 q hq (fun z => z))
  refine lv_icmp_ge (tgt := 154) hx hb dX11_checksum_62 (by decide) (fun _ => ?_) (fun z => absurd (by decide) z)
  refine lv_ldc2 (v := 31) hx hb hown (hts _ (show Cond.constantLong RX11 246 31 ∈ gw_L from gw_tab 1777 (by decide +kernel) (by decide +kernel))) dX11_checksum_154 ?_
  refine lv_lload_n hx hb dX11_checksum_157 rfl (lv_at hl 1 rfl) ?_
  refine lv_lmul hx hb dX11_checksum_158 ?_
  refine lv_aload_n hx hb dX11_checksum_159 rfl (lv_at hl 2 rfl) ?_
  refine va_get (D := G.1) (ci := 13) (v := .ref (G.2.1 36)) (C := RX11) (T := TX11) (N := 5) hx hb hts gx_X11 hown hT.2.1 hP3 0 rfl rfl 2 (by decide) (hts _ gv_1177) (fun _ h9 => h9) rfl dX11_checksum_160 ?_
  refine va_callFi (va_runF (x := ⟨"java/util/List", "size", "()I"⟩) (C := RJx4a65c) (As := []) (rest := [.long (31 * 7)]) (hT.2.1.1 2 _ rfl).2 (gw_fix X) (la_size l G.1 (G.2.1 36) (G.2.1 99) (σ 36 0) 0 H3.size) (la_cF hts (hT.2.2.2 0 _ rfl) gk_Jx4a65c_size_8abf5 ⟨by decide +kernel, by decide +kernel⟩ gv_1200 ⟨gv_1204, gv_1206⟩ rfl rfl ⟨Nat.le_of_ble_eq_true rfl, Nat.le_of_ble_eq_true rfl⟩) ⟨la_blindS _ _ _ _, va_recv (hT.2.1.sub (tys' := []) [] rfl) hPf (ci := 2) (q0 := 0) rfl rfl, fun U hU hW => ⟨rfl, by rw [hU], by rw [hU]; exact hPf, (hT.2.1.sub [] rfl).moved hW.alike⟩⟩ rfl rfl hl.1 rfl (lv_room (Nat.le_of_ble_eq_true rfl)) dX11_checksum_163 ⟨Nat.le_of_ble_eq_true rfl, Nat.le_of_ble_eq_true rfl⟩) hS (fun _ _ z => z.elim) (fun _ z => z.elim) (fun r2 _ t4 H4 locs4 ht4 hvm4 hr2 _ hz4 hk4 hS => ?_)
  have hr2 : r2 = 0 := hr2
  subst hr2
  refine lv_i2l (v := 0) hx hb dX11_checksum_168 rfl ?_
  refine lv_ladd hx hb dX11_checksum_169 ?_
  exact W.lret (v := 31 * 7 + 0) hx hb hr (fun t ht _ => ⟨⟨_, (), rfl, by decide, trivial⟩, hS.F ht⟩) hS.2.2 dX11_checksum_170
