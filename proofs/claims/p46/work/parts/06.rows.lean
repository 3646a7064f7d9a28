/-! The fields of each class among the words; rows read and written. -/
theorem gw_pl {ws : List Cond} (ps : List Nat) (hp : ws = ps.filterMap (fun i => tables_1[i]?)) (h : ws.all gw_st = true) : ∀ w ∈ ws, w ∈ gw_L := by
  intro w hw
  have h1 := List.all_eq_true.mp h w hw
  rw [hp] at hw
  obtain ⟨i, -, hi⟩ := List.mem_filterMap.mp hw
  exact gw_tab i hi h1
theorem gw_allB {ws : List Cond} (h : ws.all vx_ot = true) : ∀ w ∈ ws, vx_ot w = true := fun w hw => List.all_eq_true.mp h w hw
theorem gx_X0 : ∀ w ∈ u_ws RX0 TX0 7, w ∈ gw_L := gw_pl [173, 174, 175, 176, 177, 178, 179] (by decide +kernel) (by decide +kernel)
theorem gx_X1 : ∀ w ∈ u_ws RX1 TX1 7, w ∈ gw_L := gw_pl [112, 114, 116, 118, 120, 122, 124] (by decide +kernel) (by decide +kernel)
theorem gx_X2 : ∀ w ∈ u_ws RX2 TX2 9, w ∈ gw_L := gw_pl [80, 82, 84, 86, 88, 90, 92, 94, 96] (by decide +kernel) (by decide +kernel)
theorem gx_X3 : ∀ w ∈ u_ws RX3 TX3 5, w ∈ gw_L := gw_pl [53, 55, 57, 59, 61] (by decide +kernel) (by decide +kernel)
theorem gx_X4 : ∀ w ∈ u_ws RX4 TX4 7, w ∈ gw_L := gw_pl [149, 151, 153, 155, 157, 159, 161] (by decide +kernel) (by decide +kernel)
theorem gx_X6 : ∀ w ∈ u_ws RX6 TX6 7, w ∈ gw_L := gw_pl [184, 185, 186, 187, 188, 189, 190] (by decide +kernel) (by decide +kernel)
theorem gx_X7 : ∀ w ∈ u_ws RX7 TX7 5, w ∈ gw_L := gw_pl [203, 205, 207, 209, 211] (by decide +kernel) (by decide +kernel)
theorem gx_X8 : ∀ w ∈ u_ws RX8 TX8 7, w ∈ gw_L := gw_pl [221, 223, 225, 227, 229, 231, 233] (by decide +kernel) (by decide +kernel)
theorem gx_pI : parseFieldDescriptor "I" = some .int := by decide +kernel
theorem gx_mm1 : Cond.static Lib.Math.max.name ∈ gw_L := gw_tab 358 (by decide +kernel) (by decide +kernel)
theorem gx_mm2 : Cond.initialized "java/lang/Math" ∈ gw_L := gw_tab 22 (by decide +kernel) (by decide +kernel)
theorem gx_mm3 : Cond.code Lib.Math.max.name Lib.Math.max.code 2 (some .int) ∈ gw_L := gw_tab 359 (by decide +kernel) (by decide +kernel)
theorem gw_lnlt (k : Nat) : gw_ln k < 2 ^ 31 := by
  unfold gw_ln
  split <;> decide
theorem gw_in {i : Int32} {n : Nat} (hn : n < 2 ^ 31) (h1 : ¬ i < 0) (h2 : ¬ Int32.ofNat n ≤ i) : vp_in i n := by
  obtain ⟨j, hj, rfl⟩ := nI_of h1
  refine vp_in_nI ?_ hn
  rcases Nat.lt_or_ge j n with q | q
  · exact q
  · exact absurd (nI_le q hj) h2
def f_X8_at (k : Nat) (i : Int32) (σ : gw_S) : Option (Int32 × gw_S) := if i < 0 then some (0, σ) else if Int32.ofNat (gw_ln k) ≤ i then some (0, σ) else some (σ k i.toNatClampNeg, σ)
def f_X8_put (k : Nat) (i v : Int32) (σ : gw_S) : Option gw_S := if i < 0 then some σ else if Int32.ofNat (gw_ln k) ≤ i then some σ else some (gw_up σ k i.toNatClampNeg v)
set_option maxHeartbeats 4000000 in
theorem gc_X8_at (l : Launch) (G : gw_G) (k : Nat) (hk : gw_row k) (i : Int32) (σ : gw_S) (o : Int32 × gw_S) (h : f_X8_at k i σ = some o) : gw_M (fun sz => gw_QI G sz o) l yX8_at cX8_at 2 (some .int) { frames := 0, cells := 0, slots := 0, locals := 0 } G [.ref (G.2.1 k), .int i] σ := by
  refine gw_en (own := RX8) (lv := [(0, .ref (G.2.1 k)), (1, .int i)]) (by decide +kernel) rfl (Nat.le_of_ble_eq_true rfl) rfl ?_
  intro p e s m below meth c ls X hl hP
  obtain ⟨hx, hb, hml, hown, hts, -, -, hT, hZ, -⟩ := id X
  have hS : va_S (gw_A G s.heap.size) s.heap s.heap [] := va_S.rf
  unfold f_X8_at at h
  refine lv_iload_n hx hb dX8_at_0 rfl (lv_at hl 1 rfl) ?_
  refine lv_if_lt (tgt := 16) hx hb dX8_at_1 (by decide) (fun c => ?_) (fun c => ?_)
  · have h := (if_pos c).symm.trans h
    refine lv_iconst (v := 0) hx hb dX8_at_16 (by decide) ?_
    exact gw_ri X hP hS h dX8_at_17
  · have h := (if_neg c).symm.trans h
    refine lv_iload_n hx hb dX8_at_4 rfl (lv_at hl 1 rfl) ?_
    refine lv_aload_n hx hb dX8_at_5 rfl (lv_at hl 0 rfl) ?_
    refine va_alen (D := G.1) hx hb hT.2.1 hP k 0 (gw_rowAt hk G σ) rfl rfl dX8_at_6 ?_
    refine lv_icmp_ge (tgt := 16) hx hb dX8_at_7 (by decide) (fun c2 => ?_) (fun c2 => ?_)
    · have h := (if_pos c2).symm.trans h
      refine lv_iconst (v := 0) hx hb dX8_at_16 (by decide) ?_
      exact gw_ri X hP hS h dX8_at_17
    · have h := (if_neg c2).symm.trans h
      refine lv_aload_n hx hb dX8_at_10 rfl (lv_at hl 0 rfl) ?_
      refine lv_iload_n hx hb dX8_at_11 rfl (lv_at hl 1 rfl) ?_
      refine va_iald (D := G.1) hx hb hT.2.1 hP k 0 (gw_rowAt hk G σ) rfl (gw_in (gw_lnlt k) c c2) dX8_at_12 ?_
      refine lv_goto (tgt := 17) hx hb dX8_at_13 (by decide) ?_
      exact gw_ri X hP hS h dX8_at_17
set_option maxHeartbeats 4000000 in
theorem gc_X8_put (l : Launch) (G : gw_G) (k : Nat) (hk : gw_row k) (i v : Int32) (σ : gw_S) (o : gw_S) (h : f_X8_put k i v σ = some o) : gw_M (fun sz => gw_QV G sz o) l yX8_put cX8_put 3 none { frames := 0, cells := 0, slots := 0, locals := 0 } G [.ref (G.2.1 k), .int i, .int v] σ := by
  refine gw_en (own := RX8) (lv := [(0, .ref (G.2.1 k)), (1, .int i), (2, .int v)]) (by decide +kernel) rfl (Nat.le_of_ble_eq_true rfl) rfl ?_
  intro p e s m below meth c ls X hl hP
  obtain ⟨hx, hb, hml, hown, hts, -, -, hT, hZ, -⟩ := id X
  have hS : va_S (gw_A G s.heap.size) s.heap s.heap [] := va_S.rf
  unfold f_X8_put at h
  refine lv_iload_n hx hb dX8_put_0 rfl (lv_at hl 1 rfl) ?_
  refine lv_if_lt (tgt := 14) hx hb dX8_put_1 (by decide) (fun c => ?_) (fun c => ?_)
  · have h := (if_pos c).symm.trans h
    exact gw_rv X hP hS h dX8_put_14
  · have h := (if_neg c).symm.trans h
    refine lv_iload_n hx hb dX8_put_4 rfl (lv_at hl 1 rfl) ?_
    refine lv_aload_n hx hb dX8_put_5 rfl (lv_at hl 0 rfl) ?_
    refine va_alen (D := G.1) hx hb hT.2.1 hP k 0 (gw_rowAt hk G σ) rfl rfl dX8_put_6 ?_
    refine lv_icmp_ge (tgt := 14) hx hb dX8_put_7 (by decide) (fun c2 => ?_) (fun c2 => ?_)
    · have h := (if_pos c2).symm.trans h
      exact gw_rv X hP hS h dX8_put_14
    · have h := (if_neg c2).symm.trans h
      refine lv_aload_n hx hb dX8_put_10 rfl (lv_at hl 0 rfl) ?_
      refine lv_iload_n hx hb dX8_put_11 rfl (lv_at hl 1 rfl) ?_
      refine lv_iload_n hx hb dX8_put_12 rfl (lv_at hl 2 rfl) ?_
      refine va_iast (D := G.1) hx hb hT.2.1 hP (gw_D hT.1 s.heap.size _) hS k 0 (gw_rowAt hk G σ) rfl (gw_in (gw_lnlt k) c c2) dX8_put_13 (fun H locs hP _ hS => ?_)
      rw [gw_rowSet hk] at hP
      exact gw_rv X hP hS h dX8_put_14
