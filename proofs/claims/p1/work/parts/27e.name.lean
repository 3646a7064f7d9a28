set_option maxHeartbeats 4000000 in
set_option maxRecDepth 100000 in
theorem lm_name (l : Launch) (G : gw_G) (σ : gw_S) (h0 : σ 35 0 = 0) (h2 : σ 35 2 = 0) : ∀ sz : Nat, Met l yX11_name (.code yX11_name cX11_name 1 (some .int) :: gw_L) { frames := 6, cells := 3, slots := 15, locals := 200 } (va_Pc [.ref (G.2.1 33)] (lm_Pre G sz σ)) (va_Qi (fun r (_ : Unit) => r = 0) (fun _ t => va_P G.1 vwCl (lm_W3 G 0) t.heap) (gw_A G sz)) 3 15 (gw_A G sz) := by
  refine lm_en (own := RX11) (lv := [(0, .ref (G.2.1 33))]) (Qc := fun sz => va_Qi (fun r (_ : Unit) => r = 0) (fun _ t => va_P G.1 vwCl (lm_W3 G 0) t.heap) (gw_A G sz)) (by decide +kernel) rfl (Nat.le_of_ble_eq_true rfl) rfl ?_
  intro p e s m below meth c ls X hl hP hY
  obtain ⟨hx, hb, hml, hown, hts, hr, hlocks, hT, hZ, -⟩ := id X
  have hS : va_S (gw_A G s.heap.size) s.heap s.heap [] := va_S.rf
  refine lv_aload_n hx hb dX11_name_0 rfl (lv_at hl 0 rfl) ?_
  refine lv_aload_n hx hb dX11_name_1 rfl (lv_at hl 0 rfl) ?_
  refine va_get (D := G.1) (ci := 13) (v := .ref (G.2.1 35)) (C := RX11) (T := TX11) (N := 5) hx hb hts gx_X11 hown hT.2.1 hP 33 rfl rfl 1 (by decide) (hts _ gv_1176) (fun _ h9 => h9) rfl dX11_name_2 ?_
  refine gw_fi (gw_rF (x := ⟨"java/util/List", "size", "()I"⟩) (C := RJx4a65c) X (hT.2.1.1 2 _ rfl).2 hP hS (gc_Jx4a65c_size_8abf5_35 l G σ _ rfl) gk_Jx4a65c_size_8abf5 ⟨by decide +kernel, by decide +kernel⟩ gv_1200 ⟨gv_1204, gv_1206⟩ 0 rfl (va_recv hT.2.1 hP (ci := 2) (q0 := 35) rfl rfl) rfl rfl (Nat.le_of_ble_eq_true rfl) hl.1 ⟨rfl, rfl⟩ ⟨Nat.le_of_ble_eq_true rfl, Nat.le_of_ble_eq_true rfl⟩ ⟨Nat.le_of_ble_eq_true rfl, Nat.le_of_ble_eq_true rfl⟩ dX11_name_5) hS (fun H locs hP hS => ?_)
  show W _ _ _ _ _ _ _ _ _ _ _ _ _ _ _ (F0 m 10 ls (.int (σ 35 2) :: _))
  rw [h2]
  refine lv_bipush (v := 12) hx hb dX11_name_10 (by decide) ?_
  refine lv_icmp_ge (tgt := 19) hx hb dX11_name_12 (by decide) (fun z => absurd z (by decide)) (fun _ => ?_)
  refine lv_iconst (v := 1) hx hb dX11_name_15 (by decide) ?_
  refine lv_goto (tgt := 20) hx hb dX11_name_16 (by decide) ?_
  refine lv_iconst (v := 1) hx hb dX11_name_20 (by decide) ?_
  refine gw_cz (gw_rV (C := RX11) X hP hS (gc_X11_no l G (1 : Int32) (1 : Int32) σ (0, gw_up σ 33 4 0) rfl) gk_X11_no gv_1209 ⟨gv_1211, gv_s22⟩ (va_recv hT.2.1 hP (ci := 13) (q0 := 33) rfl rfl) rfl rfl (Nat.le_of_ble_eq_true rfl) hl.1 ⟨rfl, rfl⟩ ⟨Nat.le_of_ble_eq_true rfl, Nat.le_of_ble_eq_true rfl⟩ ⟨Nat.le_of_ble_eq_true rfl, Nat.le_of_ble_eq_true rfl⟩ dX11_name_21) hS (fun H locs _ hP hS => ?_)
  have hP : gw_P G (gw_up σ 33 4 0) H := hP
  refine lv_if_eq (tgt := 29) hx hb dX11_name_24 (by decide) (fun _ => ?_) (fun z => absurd rfl z)
  refine lv_aload_n hx hb dX11_name_29 rfl (lv_at hl 0 rfl) ?_
  refine va_get (D := G.1) (ci := 13) (v := .ref (G.2.1 35)) (C := RX11) (T := TX11) (N := 5) hx hb hts gx_X11 hown hT.2.1 hP 33 rfl rfl 1 (by decide) (hts _ gv_1176) (fun _ h9 => h9) rfl dX11_name_30 ?_
  have hD := (gw_D hT.1 s.heap.size (gw_up σ 33 4 0)).sub (ws' := [(G.2.1 33, .inr (13, [.ref (G.2.1 34), .ref (G.2.1 35), .ref (G.2.1 36), .ref (G.2.1 37), .int 0])), (G.2.1 35, .inr (2, [.int (σ 35 0), .ref (G.2.1 99), .int (σ 35 2)]))]) [33, 35] (by decide) rfl
  have hP : va_P G.1 vwCl [(G.2.1 33, .inr (13, [.ref (G.2.1 34), .ref (G.2.1 35), .ref (G.2.1 36), .ref (G.2.1 37), .int 0])), (G.2.1 35, .inr (2, [.int (σ 35 0), .ref (G.2.1 99), .int (σ 35 2)]))] H := hP.sub [33, 35] rfl
  rw [h0, h2] at hP hD
  refine va_new (ci := 12) (fs := [.null, .int 0]) (C := RX10) (T := TX10) (N := 2) hx hb hts gx_X10 tyX10 tyX10_ok hown (hts _ (gw_tab 1497 (by decide +kernel) (by decide +kernel))) (hts _ (gw_tab 1498 (by decide +kernel) (by decide +kernel))) (hts _ (gw_tab 32 (by decide +kernel) (by decide +kernel))) hT.2.1 hP hD hS gw_Asz rfl gi_dfX10 (Nat.le_of_ble_eq_true rfl) (Nat.le_of_ble_eq_true rfl) dX11_name_33 (fun q H hP hD hS => ?_)
  have hP : va_P G.1 vwCl [(G.2.1 33, .inr (13, [.ref (G.2.1 34), .ref (G.2.1 35), .ref (G.2.1 36), .ref (G.2.1 37), .int 0])), (G.2.1 35, .inr (2, [.int 0, .ref (G.2.1 99), .int 0])), (q, .inr (12, [.null, .int 0]))] H := hP
  have hD : va_D (gw_A G s.heap.size) [(G.2.1 33, .inr (13, [.ref (G.2.1 34), .ref (G.2.1 35), .ref (G.2.1 36), .ref (G.2.1 37), .int 0])), (G.2.1 35, .inr (2, [.int 0, .ref (G.2.1 99), .int 0])), (q, .inr (12, [.null, .int 0]))] := hD
  refine W.widen (k := 1) (n := 2) (Nat.le_of_ble_eq_true rfl) (Nat.le_of_ble_eq_true rfl) ?_
  refine lv_dup hx hb dX11_name_36 rfl ?_
  have hPc := hP.sub (ws' := [(q, .inr (12, [.null, .int 0]))]) [2] rfl
  have hDc := hD.sub (ws' := [(q, .inr (12, [.null, .int 0]))]) [2] (by decide) rfl
  have hFc := va_free (wc := [(q, .inr (12, [.null, .int 0]))]) hD hS gw_Asz [2] rfl
  refine va_callv (va_runIN (host := "GenericwoodModel") (As := []) (rest := [.ref q, .ref (G.2.1 35)]) ⟨hx, hb, hml, hown, hts⟩ (gi_X10_init l G.1 G.2.2.1 (G.2.1 99) q H.size) (gi_cwN hts ⟨(gw_tab 1501 (by decide +kernel) (by decide +kernel)), (gw_tab 32 (by decide +kernel) (by decide +kernel)), by decide +kernel, by decide +kernel⟩ (gw_tab 1499 (by decide +kernel) (by decide +kernel)) (gw_tab 1500 (by decide +kernel) (by decide +kernel)) (by decide +kernel) rfl rfl ⟨Nat.le_of_ble_eq_true rfl, Nat.le_of_ble_eq_true rfl⟩) ⟨ml_blind _ _ _ _ _ _, fun U hU hW => ⟨rfl, ml_pre hPc hT.2.1 hDc hY.1.1 hS hFc U hU hW⟩⟩ rfl rfl hl.1 rfl (lv_room (Nat.le_of_ble_eq_true rfl)) dX11_name_37 ⟨Nat.le_of_ble_eq_true rfl, Nat.le_of_ble_eq_true rfl⟩) hS (fun q _ h => hFc q h) hFc (fun u t H1 locs ht hvm hw hB hz1 hk1 hS => ?_)
  obtain ⟨q5, hP1, hD1⟩ := hB
  rw [ht] at hP1
  obtain ⟨hP, hD⟩ := va_join (wr := [(G.2.1 33, .inr (13, [.ref (G.2.1 34), .ref (G.2.1 35), .ref (G.2.1 36), .ref (G.2.1 37), .int 0])), (G.2.1 35, .inr (2, [.int 0, .ref (G.2.1 99), .int 0]))]) (w1 := [(q, .inr (12, [.ref q5, .int (-1)])), (q5, .inr (2, [.int 0, .ref (G.2.1 99), .int 0]))]) hP hD [2] [0, 1] rfl rfl (by decide) (by decide) hk1 hFc hP1 hD1
  have hP : va_P G.1 vwCl [(G.2.1 33, .inr (13, [.ref (G.2.1 34), .ref (G.2.1 35), .ref (G.2.1 36), .ref (G.2.1 37), .int 0])), (G.2.1 35, .inr (2, [.int 0, .ref (G.2.1 99), .int 0])), (q, .inr (12, [.ref q5, .int (-1)])), (q5, .inr (2, [.int 0, .ref (G.2.1 99), .int 0]))] H1 := hP
  have hD : va_D (gw_A G s.heap.size) [(G.2.1 33, .inr (13, [.ref (G.2.1 34), .ref (G.2.1 35), .ref (G.2.1 36), .ref (G.2.1 37), .int 0])), (G.2.1 35, .inr (2, [.int 0, .ref (G.2.1 99), .int 0])), (q, .inr (12, [.ref q5, .int (-1)])), (q5, .inr (2, [.int 0, .ref (G.2.1 99), .int 0]))] := hD
  refine W.widen (k := 2) (n := 5) (Nat.le_of_ble_eq_true rfl) (Nat.le_of_ble_eq_true rfl) ?_
  have hAny : va_Any "java/lang/Object" s H1 q := va_rAny hT.2.1 hP (q0 := 2) (ci := 12) rfl rfl (vb_asgC (va_Nw.of rfl (hts _ (gw_tab 1817 (by decide +kernel) (by decide +kernel)))))
  have hvlt : q < H1.size := (hP 2 _ rfl).lt
  have hvne : q ≠ G.2.1 35 := fun z => absurd (hD.1 2 1 _ _ rfl rfl z) (by decide)
  have hPl : va_P G.1 vwCl [(G.2.1 35, .inr (2, [.int 0, .ref (G.2.1 99), .int 0]))] H1 := hP.sub [1] rfl
  have hP3 : va_P G.1 vwCl (lm_W3 G 0) H1 := hP.sub [0] rfl
  have hDl : va_D (gw_A G s.heap.size) [(G.2.1 35, .inr (2, [.int 0, .ref (G.2.1 99), .int 0]))] := ib_one (Or.inl ⟨35, by decide, rfl⟩)
  have hA1 : ∀ q : Nat, (q = G.2.1 35 ∨ H1.size ≤ q) → gw_A G s.heap.size q := fun q z => la_A34 (by decide) q (z.imp id (fun z => Nat.le_trans hS.1 z))
  refine va_callFi (va_runF (x := ⟨"java/util/List", "add", "(Ljava/lang/Object;)Z"⟩) (C := RJx4a65c) (As := [.ref q]) (rest := []) (hT.2.1.1 2 _ rfl).2 (gw_fix X) (la_add l G.1 (G.2.1 99) (G.2.1 35) q 0 H1.size) (la_cF hts (hT.2.2.2 3 _ rfl) ga_k4 ⟨by decide +kernel, by decide +kernel⟩ ga_1234 ⟨ga_1237, ga_1239⟩ rfl rfl ⟨Nat.le_of_ble_eq_true rfl, Nat.le_of_ble_eq_true rfl⟩) ⟨la_blindV _ _ _ _ _ _ _, va_recv (hT.2.1.sub (tys' := []) [] rfl) hPl (ci := 2) (q0 := 0) rfl rfl, fun U hU hW => ⟨rfl, la_pre hPl (hT.2.1.sub [] rfl) hY.2.1 hDl hY.1 hS (fun q z => hA1 q ((la_Ah _ _ _ q).mp z)) U hU hW, by rw [hU]; exact va_Any_go hAny rfl hW.alike, hvne, hvlt⟩⟩ rfl rfl hl.1 rfl (lv_room (Nat.le_of_ble_eq_true rfl)) dX11_name_40 ⟨Nat.le_of_ble_eq_true rfl, Nat.le_of_ble_eq_true rfl⟩) hS (fun q _ z => hA1 q z) hA1 (fun r _ t2 H2 locs2 ht2 hvm2 _ hB hz2 hk2 hS => ?_)
  obtain ⟨a, hB⟩ := hB
  rw [ht2] at hB
  have hP3 : va_P G.1 vwCl (lm_W3 G 0) H2 := ib_kept hP3 (fun hlt z => z.elim (fun z => absurd (hT.1 33 35 (by decide) (by decide) z) (by decide)) (fun z => absurd hlt (Nat.not_lt.mpr z))) hk2
  refine lv_pop hx hb dX11_name_45 rfl ?_
  refine lv_aload_n hx hb dX11_name_46 rfl (lv_at hl 0 rfl) ?_
  refine va_get (D := G.1) (ci := 13) (v := .ref (G.2.1 35)) (C := RX11) (T := TX11) (N := 5) hx hb hts gx_X11 hown hT.2.1 hP3 0 rfl rfl 1 (by decide) (hts _ gv_1176) (fun _ h9 => h9) rfl dX11_name_47 ?_
  refine va_callFi (va_runF (x := ⟨"java/util/List", "size", "()I"⟩) (C := RJx4a65c) (As := []) (rest := []) (hT.2.1.1 2 _ rfl).2 (gw_fix X) (la_size l G.1 (G.2.1 35) a (0 + 1) 1 H2.size) (la_cF hts (hT.2.2.2 0 _ rfl) gk_Jx4a65c_size_8abf5 ⟨by decide +kernel, by decide +kernel⟩ gv_1200 ⟨gv_1204, gv_1206⟩ rfl rfl ⟨Nat.le_of_ble_eq_true rfl, Nat.le_of_ble_eq_true rfl⟩) ⟨la_blindS _ _ _ _, va_recv (hT.2.1.sub (tys' := []) [] rfl) hB (ci := 2) (q0 := 0) rfl rfl, fun U hU hW => ⟨rfl, by rw [hU], by rw [hU]; exact hB, (hT.2.1.sub [] rfl).moved hW.alike⟩⟩ rfl rfl hl.1 rfl (lv_room (Nat.le_of_ble_eq_true rfl)) dX11_name_50 ⟨Nat.le_of_ble_eq_true rfl, Nat.le_of_ble_eq_true rfl⟩) hS (fun _ _ z => z.elim) (fun _ z => z.elim) (fun r2 _ t3 H3 locs3 ht3 hvm3 hr2 _ hz3 hk3 hS => ?_)
  have hr2 : r2 = 1 := hr2
  subst hr2
  have hP3 : va_P G.1 vwCl (lm_W3 G 0) H3 := ib_kept (A := fun _ => False) hP3 (fun _ z => z) (fun q hq _ => hk3 q hq (fun z => z))
  refine lv_iconst (v := 1) hx hb dX11_name_55 (by decide) ?_
  refine lv_isub hx hb dX11_name_56 ?_
  exact W.iret (v := 1 - 1) hx hb hr (fun t ht _ => ⟨⟨_, (), rfl, by decide, by show va_P G.1 vwCl (lm_W3 G 0) t.heap; rw [ht]; exact hP3⟩, hS.F ht⟩) hS.2.2 dX11_name_57
