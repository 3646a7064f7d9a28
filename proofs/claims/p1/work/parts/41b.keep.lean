theorem gv_1644 : Cond.methodLink RX11 171 yX11_keep ∈ gw_L := gw_tab 1644 (by decide +kernel) (by decide +kernel)
theorem gv_1646 : Cond.instanceMethod yX11_keep ∈ gw_L := gw_tab 1646 (by decide +kernel) (by decide +kernel)
theorem gv_s43 : Cond.selects RX11 yX11_keep yX11_keep ∈ gw_L := gw_sel 43 (by decide +kernel) (by decide +kernel)
theorem gv_1647 : Cond.code yX11_keep cX11_keep 3 (some .int) ∈ gw_L := gw_tab 1647 (by decide +kernel) (by decide +kernel)
theorem gk_X11_keep : gw_K yX11_keep cX11_keep 3 (some .int) 2 := ⟨gv_1647, gv_10, by decide +kernel, by decide +kernel⟩
theorem gv_1630 : Cond.fieldLink RX11 160 "GenericwoodModel$Formula" "depth" "I" ∈ gw_L := gw_tab 1630 (by decide +kernel) (by decide +kernel)
theorem gv_1818 : Cond.castable "GenericwoodModel$Formula" "java/lang/Object" ∈ gw_L := gw_tab 1818 (by decide +kernel) (by decide +kernel)
theorem gv_1613 : Cond.classLink RX11 161 RX9 ∈ gw_L := gw_tab 1613 (by decide +kernel) (by decide +kernel)
theorem gv_1614 : Cond.instantiable RX9 6 ∈ gw_L := gw_tab 1614 (by decide +kernel) (by decide +kernel)
theorem gv_33 : Cond.initialized RX9 ∈ gw_L := gw_tab 33 (by decide +kernel) (by decide +kernel)
theorem gv_1617 : Cond.code yX9_init cX9_init 6 none ∈ gw_L := gw_tab 1617 (by decide +kernel) (by decide +kernel)
theorem gk_X9_init : gw_K yX9_init cX9_init 6 none 5 := ⟨gv_1617, gv_33, by decide +kernel, by decide +kernel⟩
theorem gv_1615 : Cond.methodLink RX11 168 yX9_init ∈ gw_L := gw_tab 1615 (by decide +kernel) (by decide +kernel)
theorem gv_1616 : Cond.instanceMethod yX9_init ∈ gw_L := gw_tab 1616 (by decide +kernel) (by decide +kernel)
/-- a formula that is kept, in a list that was empty -/
def lk_Pre (G : gw_G) (A : Nat → Prop) (sz : Nat) (ws : va_W) (U : State) : Prop := U.heap.size = sz ∧ va_P G.1 vwCl ws U.heap ∧ gw_T G U ∧ lm_Y (G.2.1 99) A U U.heap ∧ va_D A ws ∧ ∀ p : Nat, sz ≤ p → A p
theorem lk_blind (As : List Value) (G : gw_G) (A : Nat → Prop) (sz : Nat) (ws : va_W) : FrameBlind (va_Pc As (lk_Pre G A sz ws)) := fun _ _ _ _ q => ⟨q.1, q.2.1, q.2.2.1, q.2.2.2.1.call, q.2.2.2.2.1.call, q.2.2.2.2.2⟩
set_option maxHeartbeats 4000000 in
set_option maxRecDepth 100000 in
theorem lm_keep (l : Launch) (G : gw_G) (A : Nat → Prop) (q : Nat) (c0 a0 b0 : Int32) (sz : Nat) : Met l yX11_keep (.code yX11_keep cX11_keep 3 (some .int) :: gw_L) { frames := 6, cells := 1, slots := 10, locals := 200 } (va_Pc [.ref (G.2.1 33), .ref q, .int 1] (lk_Pre G A sz [(G.2.1 33, .inr (13, [.ref (G.2.1 34), .ref (G.2.1 35), .ref (G.2.1 36), .ref (G.2.1 37), .int 0])), (G.2.1 36, .inr (2, [.int 0, .ref (G.2.1 99), .int 0])), (q, .inr (11, [.int c0, .int a0, .int b0, .int 0, .int 0, .int 1]))])) (va_Qi (fun r (_ : Unit) => r = 0) (fun _ t => va_P G.1 vwCl (lm_W3 G 0) t.heap) A) 1 10 A := by
  refine Met.ofW (cc := cX11_keep) (maxL := 3) (ret := some .int) (by decide +kernel) rfl ?_
  intro p e s m args below meth c s₁ B hml hv
  obtain ⟨rfl, hsz, hP, hT, hY, hD, hA⟩ := hv
  have hx := B.exec
  have hb := B.bytes
  have hr := B.returns
  have hts0 := atoms_spec (ws := .code yX11_keep cX11_keep 3 (some .int) :: gw_L) B.pre
  have hts : ∀ w ∈ gw_L, w.before _ s = true := fun w hw => hts0 w (List.mem_cons_of_mem _ hw)
  have hown : s.vm.findClass RX11 = some m.cls := findClass_of_methodNamed B.named
  have hlocks := B.notSynchronized
  subst hsz
  have hS : va_S A s.heap s.heap [] := va_S.rf
  have hl := lv_entry ([.ref (G.2.1 33), .ref q, .int 1]) (n := 3) (Nat.le_of_ble_eq_true rfl)
  rw [lg_entry_eq]
  generalize (lg_sl ([.ref (G.2.1 33), .ref q, .int 1]) ++ List.replicate (3 - (lg_sl ([.ref (G.2.1 33), .ref q, .int 1])).length) Slot.unset).toArray = ls at hl ⊢
  have hl : lv_has ls 3 [(0, .ref (G.2.1 33)), (1, .ref q), (2, .int 1)] := hl
  refine lv_aload_n hx hb dX11_keep_0 rfl (lv_at hl 1 rfl) ?_
  refine lv_iload_n hx hb dX11_keep_1 rfl (lv_at hl 2 rfl) ?_
  refine va_put (D := G.1) (ci := 11) (v := .int 1) (ty := .int) (C := RX9) (T := TX9) (N := 6) hx hb hts gx_X9 tyX9 tyX9_ok nmX9 hown hT.2.1 hP hD hS 2 rfl rfl 5 (by decide) (hts _ gv_1630) (fun _ h9 => h9) rfl gx_pI rfl rfl (Nat.le_of_ble_eq_true rfl) dX11_keep_2 (fun H locs hP hD hS => ?_)
  have hP : va_P G.1 vwCl [(G.2.1 33, .inr (13, [.ref (G.2.1 34), .ref (G.2.1 35), .ref (G.2.1 36), .ref (G.2.1 37), .int 0])), (G.2.1 36, .inr (2, [.int 0, .ref (G.2.1 99), .int 0])), (q, .inr (11, [.int c0, .int a0, .int b0, .int 0, .int 0, .int 1]))] H := hP
  have hD : va_D A [(G.2.1 33, .inr (13, [.ref (G.2.1 34), .ref (G.2.1 35), .ref (G.2.1 36), .ref (G.2.1 37), .int 0])), (G.2.1 36, .inr (2, [.int 0, .ref (G.2.1 99), .int 0])), (q, .inr (11, [.int c0, .int a0, .int b0, .int 0, .int 0, .int 1]))] := hD
  refine lv_aload_n hx hb dX11_keep_5 rfl (lv_at hl 0 rfl) ?_
  refine va_get (D := G.1) (ci := 13) (v := .ref (G.2.1 36)) (C := RX11) (T := TX11) (N := 5) hx hb hts gx_X11 hown hT.2.1 hP 0 rfl rfl 2 (by decide) (hts _ gv_1177) (fun _ h9 => h9) rfl dX11_keep_6 ?_
  refine lv_aload_n hx hb dX11_keep_9 rfl (lv_at hl 1 rfl) ?_
  have hAny : va_Any "java/lang/Object" s H q := va_rAny hT.2.1 hP (q0 := 2) (ci := 11) rfl rfl (vb_asgC (va_Nw.of rfl (hts _ gv_1818)))
  have hvlt : q < H.size := (hP 2 _ rfl).lt
  have hvne : q ≠ G.2.1 36 := fun z => absurd (hD.1 2 1 _ _ rfl rfl z) (by decide)
  have hne3 : G.2.1 33 ≠ G.2.1 36 := fun z => absurd (hD.1 0 1 _ _ rfl rfl z) (by decide)
  have hPl : va_P G.1 vwCl [(G.2.1 36, .inr (2, [.int 0, .ref (G.2.1 99), .int 0]))] H := hP.sub [1] rfl
  have hP3 : va_P G.1 vwCl (lm_W3 G 0) H := hP.sub [0] rfl
  have hA36 : A (G.2.1 36) := hD.2 1 _ rfl
  have hDl : va_D A [(G.2.1 36, .inr (2, [.int 0, .ref (G.2.1 99), .int 0]))] := ib_one hA36
  have hA1 : ∀ p : Nat, (p = G.2.1 36 ∨ H.size ≤ p) → A p := fun p z => z.elim (fun z => by rw [z]; exact hA36) (fun z => hA p (Nat.le_trans hS.1 z))
  refine va_callFi (va_runF (x := ⟨"java/util/List", "add", "(Ljava/lang/Object;)Z"⟩) (C := RJx4a65c) (As := [.ref q]) (rest := []) (hT.2.1.1 2 _ rfl).2 ⟨hx, hb, hml, hown, hts⟩ (la_add l G.1 (G.2.1 99) (G.2.1 36) q 0 H.size) (la_cF hts (hT.2.2.2 3 _ rfl) ga_k4 ⟨by decide +kernel, by decide +kernel⟩ ga_1234 ⟨ga_1237, ga_1239⟩ rfl rfl ⟨Nat.le_of_ble_eq_true rfl, Nat.le_of_ble_eq_true rfl⟩) ⟨la_blindV _ _ _ _ _ _ _, va_recv (hT.2.1.sub (tys' := []) [] rfl) hPl (ci := 2) (q0 := 0) rfl rfl, fun U hU hW => ⟨rfl, la_pre hPl (hT.2.1.sub [] rfl) hY.2.1 hDl hY.1 hS (fun q z => hA1 q ((la_Ah _ _ _ q).mp z)) U hU hW, by rw [hU]; exact va_Any_go hAny rfl hW.alike, hvne, hvlt⟩⟩ rfl rfl hl.1 rfl (lv_room (Nat.le_of_ble_eq_true rfl)) dX11_keep_10 ⟨Nat.le_of_ble_eq_true rfl, Nat.le_of_ble_eq_true rfl⟩) hS (fun q _ z => hA1 q z) hA1 (fun r _ t2 H2 locs2 ht2 hvm2 _ hB hz2 hk2 hS => ?_)
  obtain ⟨a, hB⟩ := hB
  rw [ht2] at hB
  have hP3 : va_P G.1 vwCl (lm_W3 G 0) H2 := ib_kept hP3 (fun hlt z => z.elim hne3 (fun z => absurd hlt (Nat.not_lt.mpr z))) hk2
  refine lv_pop hx hb dX11_keep_15 rfl ?_
  refine lv_aload_n hx hb dX11_keep_16 rfl (lv_at hl 0 rfl) ?_
  refine va_get (D := G.1) (ci := 13) (v := .ref (G.2.1 36)) (C := RX11) (T := TX11) (N := 5) hx hb hts gx_X11 hown hT.2.1 hP3 0 rfl rfl 2 (by decide) (hts _ gv_1177) (fun _ h9 => h9) rfl dX11_keep_17 ?_
  refine va_callFi (va_runF (x := ⟨"java/util/List", "size", "()I"⟩) (C := RJx4a65c) (As := []) (rest := []) (hT.2.1.1 2 _ rfl).2 ⟨hx, hb, hml, hown, hts⟩ (la_size l G.1 (G.2.1 36) a (0 + 1) 1 H2.size) (la_cF hts (hT.2.2.2 0 _ rfl) gk_Jx4a65c_size_8abf5 ⟨by decide +kernel, by decide +kernel⟩ gv_1200 ⟨gv_1204, gv_1206⟩ rfl rfl ⟨Nat.le_of_ble_eq_true rfl, Nat.le_of_ble_eq_true rfl⟩) ⟨la_blindS _ _ _ _, va_recv (hT.2.1.sub (tys' := []) [] rfl) hB (ci := 2) (q0 := 0) rfl rfl, fun U hU hW => ⟨rfl, by rw [hU], by rw [hU]; exact hB, (hT.2.1.sub [] rfl).moved hW.alike⟩⟩ rfl rfl hl.1 rfl (lv_room (Nat.le_of_ble_eq_true rfl)) dX11_keep_20 ⟨Nat.le_of_ble_eq_true rfl, Nat.le_of_ble_eq_true rfl⟩) hS (fun _ _ z => z.elim) (fun _ z => z.elim) (fun r2 _ t3 H3 locs3 ht3 hvm3 hr2 _ hz3 hk3 hS => ?_)
  have hr2 : r2 = 1 := hr2
  subst hr2
  have hP3 : va_P G.1 vwCl (lm_W3 G 0) H3 := ib_kept (A := fun _ => False) hP3 (fun _ z => z) (fun q hq _ => hk3 q hq (fun z => z))
  refine lv_iconst (v := 1) hx hb dX11_keep_25 (by decide) ?_
  refine lv_isub hx hb dX11_keep_26 ?_
  exact W.iret (v := 1 - 1) hx hb hr (fun t ht _ => ⟨⟨_, (), rfl, by decide, by show va_P G.1 vwCl (lm_W3 G 0) t.heap; rw [ht]; exact hP3⟩, hS.F ht⟩) hS.2.2 dX11_keep_27
set_option maxHeartbeats 4000000 in
set_option maxRecDepth 100000 in
theorem lm_atom (l : Launch) (G : gw_G) (c0 a0 b0 : Int32) (σ : gw_S) (hc : c0 = 101 ∨ c0 = 61) (hta : f_X11_isTerm a0 σ = some (1, σ)) (htb : f_X11_isTerm b0 σ = some (1, σ)) (h0 : σ 36 0 = 0) (h2 : σ 36 2 = 0) : ∀ sz : Nat, Met l yX11_atom (.code yX11_atom cX11_atom 4 (some .int) :: gw_L) { frames := 8, cells := 2, slots := 16, locals := 400 } (va_Pc [.ref (G.2.1 33), .int c0, .int a0, .int b0] (lm_Pre G sz σ)) (va_Qi (fun r (_ : Unit) => r = 0) (fun _ t => va_P G.1 vwCl (lm_W3 G 0) t.heap) (gw_A G sz)) 2 16 (gw_A G sz) := by
  refine lm_en (own := RX11) (lv := [(0, .ref (G.2.1 33)), (1, .int c0), (2, .int a0), (3, .int b0)]) (Qc := fun sz => va_Qi (fun r (_ : Unit) => r = 0) (fun _ t => va_P G.1 vwCl (lm_W3 G 0) t.heap) (gw_A G sz)) (by decide +kernel) rfl (Nat.le_of_ble_eq_true rfl) rfl ?_
  intro p e s m below meth c ls X hl hP hY
  obtain ⟨hx, hb, hml, hown, hts, hr, hlocks, hT, hZ, -⟩ := id X
  have hS : va_S (gw_A G s.heap.size) s.heap s.heap [] := va_S.rf
  have hch : narrow .char (.int c0) = .int c0 ∧ fits .char (.int c0) = true := by rcases hc with z | z <;> rw [z] <;> exact ⟨rfl, rfl⟩
  have hcont : W p l e { frames := 8, cells := 2, slots := 16, locals := 400 } s m #[.ref (G.2.1 33), .int c0, .int a0, .int b0] below meth c s.heap [] 0 0 (MQ below (va_Qi (fun r (_ : Unit) => r = 0) (fun _ t => va_P G.1 vwCl (lm_W3 G 0) t.heap) (gw_A G s.heap.size)) #[.ref (G.2.1 33), .int c0, .int a0, .int b0] s 2 16 (gw_A G s.heap.size)) (F0 m 13 ls [.ref (G.2.1 33)]) := by
    refine lv_aload_n hx hb dX11_atom_13 rfl (lv_at hl 0 rfl) ?_
    refine lv_iload_n hx hb dX11_atom_14 rfl (lv_at hl 2 rfl) ?_
    refine gw_cz (gw_rV (C := RX11) X hP hS (gc_X11_isTerm l G a0 σ _ hta) gk_X11_isTerm gv_1609 ⟨gv_1611, gv_s42⟩ (va_recv hT.2.1 hP (ci := 13) (q0 := 33) rfl rfl) rfl rfl (Nat.le_of_ble_eq_true rfl) hl.1 ⟨rfl, rfl⟩ ⟨Nat.le_of_ble_eq_true rfl, Nat.le_of_ble_eq_true rfl⟩ ⟨Nat.le_of_ble_eq_true rfl, Nat.le_of_ble_eq_true rfl⟩ dX11_atom_15) hS (fun H locs _ hP hS => ?_)
    refine lv_if_eq (tgt := 33) hx hb dX11_atom_18 (by decide) (fun z => absurd z (show ¬ (1 : Int32) = 0 by decide)) (fun _ => ?_)
    refine lv_aload_n hx hb dX11_atom_21 rfl (lv_at hl 0 rfl) ?_
    refine lv_iload_n hx hb dX11_atom_22 rfl (lv_at hl 3 rfl) ?_
    refine gw_cz (gw_rV (C := RX11) X hP hS (gc_X11_isTerm l G b0 σ _ htb) gk_X11_isTerm gv_1609 ⟨gv_1611, gv_s42⟩ (va_recv hT.2.1 hP (ci := 13) (q0 := 33) rfl rfl) rfl rfl (Nat.le_of_ble_eq_true rfl) hl.1 ⟨rfl, rfl⟩ ⟨Nat.le_of_ble_eq_true rfl, Nat.le_of_ble_eq_true rfl⟩ ⟨Nat.le_of_ble_eq_true rfl, Nat.le_of_ble_eq_true rfl⟩ dX11_atom_23) hS (fun H locs _ hP hS => ?_)
    refine lv_if_eq (tgt := 33) hx hb dX11_atom_26 (by decide) (fun z => absurd z (show ¬ (1 : Int32) = 0 by decide)) (fun _ => ?_)
    refine lv_iconst (v := 1) hx hb dX11_atom_29 (by decide) ?_
    refine lv_goto (tgt := 34) hx hb dX11_atom_30 (by decide) ?_
    refine lv_iconst (v := 1) hx hb dX11_atom_34 (by decide) ?_
    refine gw_cz (gw_rV (C := RX11) X hP hS (gc_X11_no l G (1 : Int32) (1 : Int32) σ (0, gw_up σ 33 4 0) rfl) gk_X11_no gv_1209 ⟨gv_1211, gv_s22⟩ (va_recv hT.2.1 hP (ci := 13) (q0 := 33) rfl rfl) rfl rfl (Nat.le_of_ble_eq_true rfl) hl.1 ⟨rfl, rfl⟩ ⟨Nat.le_of_ble_eq_true rfl, Nat.le_of_ble_eq_true rfl⟩ ⟨Nat.le_of_ble_eq_true rfl, Nat.le_of_ble_eq_true rfl⟩ dX11_atom_35) hS (fun H locs _ hP hS => ?_)
    have hP : gw_P G (gw_up σ 33 4 0) H := hP
    refine lv_if_ne (tgt := 68) hx hb dX11_atom_38 (by decide) (fun z => absurd rfl z) (fun _ => ?_)
    refine lv_aload_n hx hb dX11_atom_41 rfl (lv_at hl 0 rfl) ?_
    refine lv_aload_n hx hb dX11_atom_42 rfl (lv_at hl 0 rfl) ?_
    refine va_get (D := G.1) (ci := 13) (v := .ref (G.2.1 36)) (C := RX11) (T := TX11) (N := 5) hx hb hts gx_X11 hown hT.2.1 hP 33 rfl rfl 2 (by decide) (hts _ gv_1177) (fun _ h9 => h9) rfl dX11_atom_43 ?_
    refine gw_fi (gw_rF (x := ⟨"java/util/List", "size", "()I"⟩) (C := RJx4a65c) X (hT.2.1.1 2 _ rfl).2 hP hS (gc_Jx4a65c_size_8abf5_36 l G (gw_up σ 33 4 0) _ rfl) gk_Jx4a65c_size_8abf5 ⟨by decide +kernel, by decide +kernel⟩ gv_1200 ⟨gv_1204, gv_1206⟩ 0 rfl (va_recv hT.2.1 hP (ci := 2) (q0 := 36) rfl rfl) rfl rfl (Nat.le_of_ble_eq_true rfl) hl.1 ⟨rfl, rfl⟩ ⟨Nat.le_of_ble_eq_true rfl, Nat.le_of_ble_eq_true rfl⟩ ⟨Nat.le_of_ble_eq_true rfl, Nat.le_of_ble_eq_true rfl⟩ dX11_atom_46) hS (fun H locs hP hS => ?_)
    have hP : gw_P G (gw_up σ 33 4 0) H := hP
    show W _ _ _ _ _ _ _ _ _ _ _ _ _ _ _ (F0 m 51 ls (.int (σ 36 2) :: _))
    rw [h2]
    refine lv_bipush (v := 16) hx hb dX11_atom_51 (by decide) ?_
    refine lv_icmp_ge (tgt := 60) hx hb dX11_atom_53 (by decide) (fun z => absurd z (by decide)) (fun _ => ?_)
    refine lv_iconst (v := 1) hx hb dX11_atom_56 (by decide) ?_
    refine lv_goto (tgt := 61) hx hb dX11_atom_57 (by decide) ?_
    refine lv_iconst (v := 2) hx hb dX11_atom_61 (by decide) ?_
    refine gw_cz (gw_rV (C := RX11) X hP hS (gc_X11_no l G (1 : Int32) (2 : Int32) (gw_up σ 33 4 0) (0, gw_up (gw_up σ 33 4 0) 33 4 0) rfl) gk_X11_no gv_1209 ⟨gv_1211, gv_s22⟩ (va_recv hT.2.1 hP (ci := 13) (q0 := 33) rfl rfl) rfl rfl (Nat.le_of_ble_eq_true rfl) hl.1 ⟨rfl, rfl⟩ ⟨Nat.le_of_ble_eq_true rfl, Nat.le_of_ble_eq_true rfl⟩ ⟨Nat.le_of_ble_eq_true rfl, Nat.le_of_ble_eq_true rfl⟩ dX11_atom_62) hS (fun H locs _ hP hS => ?_)
    have hP : gw_P G (gw_up (gw_up σ 33 4 0) 33 4 0) H := hP
    refine lv_if_eq (tgt := 70) hx hb dX11_atom_65 (by decide) (fun _ => ?_) (fun z => absurd rfl z)
    refine lv_aload_n hx hb dX11_atom_70 rfl (lv_at hl 0 rfl) ?_
    have hD := (gw_D hT.1 s.heap.size (gw_up (gw_up σ 33 4 0) 33 4 0)).sub (ws' := [(G.2.1 33, .inr (13, [.ref (G.2.1 34), .ref (G.2.1 35), .ref (G.2.1 36), .ref (G.2.1 37), .int 0])), (G.2.1 36, .inr (2, [.int (σ 36 0), .ref (G.2.1 99), .int (σ 36 2)]))]) [33, 36] (by decide) rfl
    have hP : va_P G.1 vwCl [(G.2.1 33, .inr (13, [.ref (G.2.1 34), .ref (G.2.1 35), .ref (G.2.1 36), .ref (G.2.1 37), .int 0])), (G.2.1 36, .inr (2, [.int (σ 36 0), .ref (G.2.1 99), .int (σ 36 2)]))] H := hP.sub [33, 36] rfl
    rw [h0, h2] at hP hD
    refine va_new (ci := 11) (fs := [.int 0, .int 0, .int 0, .int 0, .int 0, .int 0]) (C := RX9) (T := TX9) (N := 6) hx hb hts gx_X9 tyX9 tyX9_ok hown (hts _ gv_1613) (hts _ gv_1614) (hts _ gv_33) hT.2.1 hP hD hS gw_Asz rfl gi_dfX9 (Nat.le_of_ble_eq_true rfl) (Nat.le_of_ble_eq_true rfl) dX11_atom_71 (fun q H hP hD hS => ?_)
    have hP : va_P G.1 vwCl [(G.2.1 33, .inr (13, [.ref (G.2.1 34), .ref (G.2.1 35), .ref (G.2.1 36), .ref (G.2.1 37), .int 0])), (G.2.1 36, .inr (2, [.int 0, .ref (G.2.1 99), .int 0])), (q, .inr (11, [.int 0, .int 0, .int 0, .int 0, .int 0, .int 0]))] H := hP
    have hD : va_D (gw_A G s.heap.size) [(G.2.1 33, .inr (13, [.ref (G.2.1 34), .ref (G.2.1 35), .ref (G.2.1 36), .ref (G.2.1 37), .int 0])), (G.2.1 36, .inr (2, [.int 0, .ref (G.2.1 99), .int 0])), (q, .inr (11, [.int 0, .int 0, .int 0, .int 0, .int 0, .int 0]))] := hD
    refine W.widen (k := 1) (n := 6) (Nat.le_of_ble_eq_true rfl) (Nat.le_of_ble_eq_true rfl) ?_
    refine lv_dup hx hb dX11_atom_74 rfl ?_
    refine lv_iload_n hx hb dX11_atom_75 rfl (lv_at hl 1 rfl) ?_
    refine lv_iload_n hx hb dX11_atom_76 rfl (lv_at hl 2 rfl) ?_
    refine lv_iload_n hx hb dX11_atom_77 rfl (lv_at hl 3 rfl) ?_
    refine lv_iconst (v := 0) hx hb dX11_atom_78 (by decide) ?_
    refine lv_iconst (v := 0) hx hb dX11_atom_79 (by decide) ?_
    have hPc := hP.sub (ws' := [(q, .inr (11, [.int 0, .int 0, .int 0, .int 0, .int 0, .int 0]))]) [2] rfl
    have hDc := hD.sub (ws' := [(q, .inr (11, [.int 0, .int 0, .int 0, .int 0, .int 0, .int 0]))]) [2] (by decide) rfl
    have hFc := va_free (wc := [(q, .inr (11, [.int 0, .int 0, .int 0, .int 0, .int 0, .int 0]))]) hD hS gw_Asz [2] rfl
    refine va_callv (va_runI (As := [.int c0, .int a0, .int b0, .int 0, .int 0]) (rest := [.ref q, .ref (G.2.1 33)]) ⟨hx, hb, hml, hown, hts⟩ (gi_X9_init l G.1 G.2.2.1 q c0 a0 b0 0 0 hch H.size) (gi_cw hts gk_X9_init gv_1615 gv_1616 (by decide +kernel) rfl rfl ⟨Nat.le_of_ble_eq_true rfl, Nat.le_of_ble_eq_true rfl⟩) ⟨gi_blind _ _ _ _ _, fun U hU hW => ⟨rfl, gi_pre hPc hT.2.1 hDc U hU hW⟩⟩ rfl rfl hl.1 rfl (lv_room (Nat.le_of_ble_eq_true rfl)) dX11_atom_80 ⟨Nat.le_of_ble_eq_true rfl, Nat.le_of_ble_eq_true rfl⟩) hS (fun q _ h => hFc q h) hFc (fun u t H1 locs ht hvm hw hB hz1 hk1 hS => ?_)
    obtain ⟨hP1, hD1⟩ := hB
    rw [ht] at hP1
    obtain ⟨hP, hD⟩ := va_join (wr := [(G.2.1 33, .inr (13, [.ref (G.2.1 34), .ref (G.2.1 35), .ref (G.2.1 36), .ref (G.2.1 37), .int 0])), (G.2.1 36, .inr (2, [.int 0, .ref (G.2.1 99), .int 0]))]) (w1 := [(q, .inr (11, [.int c0, .int a0, .int b0, .int 0, .int 0, .int 1]))]) hP hD [2] [0, 1] rfl rfl (by decide) (by decide) hk1 hFc hP1 hD1
    have hP : va_P G.1 vwCl [(G.2.1 33, .inr (13, [.ref (G.2.1 34), .ref (G.2.1 35), .ref (G.2.1 36), .ref (G.2.1 37), .int 0])), (G.2.1 36, .inr (2, [.int 0, .ref (G.2.1 99), .int 0])), (q, .inr (11, [.int c0, .int a0, .int b0, .int 0, .int 0, .int 1]))] H1 := hP
    have hD : va_D (gw_A G s.heap.size) [(G.2.1 33, .inr (13, [.ref (G.2.1 34), .ref (G.2.1 35), .ref (G.2.1 36), .ref (G.2.1 37), .int 0])), (G.2.1 36, .inr (2, [.int 0, .ref (G.2.1 99), .int 0])), (q, .inr (11, [.int c0, .int a0, .int b0, .int 0, .int 0, .int 1]))] := hD
    refine W.widen (k := 1) (n := 6) (Nat.le_of_ble_eq_true rfl) (Nat.le_of_ble_eq_true rfl) ?_
    refine lv_iconst (v := 1) hx hb dX11_atom_83 (by decide) ?_
    refine va_calli (va_runV (C := RX11) (As := [.ref q, .int 1]) (rest := []) (gw_fix X) (lm_keep l G (gw_A G s.heap.size) q c0 a0 b0 H1.size) (la_cw hts gk_X11_keep gv_1644 ⟨gv_1646, gv_s43⟩ rfl rfl ⟨Nat.le_of_ble_eq_true rfl, Nat.le_of_ble_eq_true rfl⟩) ⟨lk_blind _ _ _ _ _, va_recv hT.2.1 hP (ci := 13) (q0 := 0) rfl rfl, fun U hU hW => ⟨rfl, by rw [hU], by rw [hU]; exact hP, hT.warm hW, by rw [hU]; exact hY.go hS.2.1 (fun _ z => z) hW.alike, hD, fun p z => gw_Asz p (Nat.le_trans hS.1 z)⟩⟩ rfl rfl hl.1 rfl (lv_room (Nat.le_of_ble_eq_true rfl)) dX11_atom_84 ⟨Nat.le_of_ble_eq_true rfl, Nat.le_of_ble_eq_true rfl⟩) hS (fun _ _ z => z) (fun _ z => z) (fun r _ t2 H2 locs2 ht2 hvm2 hr2 hB hz2 hk2 hS => ?_)
    have hr2 : r = 0 := hr2
    subst hr2
    rw [ht2] at hB
    exact W.iret (v := 0) hx hb hr (fun t ht _ => ⟨⟨_, (), rfl, rfl, by show va_P G.1 vwCl (lm_W3 G 0) t.heap; rw [ht]; exact hB⟩, hS.F ht⟩) hS.2.2 dX11_atom_87
  refine lv_aload_n hx hb dX11_atom_0 rfl (lv_at hl 0 rfl) ?_
  refine lv_iload_n hx hb dX11_atom_1 rfl (lv_at hl 1 rfl) ?_
  refine lv_bipush (v := 101) hx hb dX11_atom_2 (by decide) ?_
  refine lv_icmp_eq (tgt := 13) hx hb dX11_atom_4 (by decide) (fun _ => hcont) (fun h1 => ?_)
  refine lv_iload_n hx hb dX11_atom_7 rfl (lv_at hl 1 rfl) ?_
  refine lv_bipush (v := 61) hx hb dX11_atom_8 (by decide) ?_
  exact lv_icmp_ne (tgt := 33) hx hb dX11_atom_10 (by decide) (fun h3 => absurd (hc.elim (fun z => absurd z h1) id) h3) (fun _ => hcont)
