theorem gx_X11 : ∀ w ∈ u_ws RX11 TX11 5, w ∈ gw_L := gw_pl [1180, 1182, 1184, 1186, 1188] (by decide +kernel) (by decide +kernel)
theorem gx_Jx4a65c : ∀ w ∈ u_ws RJx4a65c TJx4a65c 3, w ∈ gw_L := gw_pl [1172, 1168, 1170] (by decide +kernel) (by decide +kernel)
theorem gw_band {a b : Int32} (_ : gw_b a) (hb : gw_b b) : gw_b (a &&& b) := by
  have h1 : Value.int (b &&& 1) = Value.int b := hb
  have h2 : b &&& 1 = b := Value.int.inj h1
  show Value.int ((a &&& b) &&& 1) = Value.int (a &&& b)
  rw [Int32.and_assoc, h2]
def gw_QF (G : gw_G) (sz : Nat) (o : UInt32 × gw_S) : Array Value → State → Outcome → State → Prop := va_Qf (fun (r : UInt32) (u : gw_S) => o = (r, u)) (fun u t => gw_P G u t.heap) (gw_A G sz)
def gw_QD (G : gw_G) (sz : Nat) (o : UInt64 × gw_S) : Array Value → State → Outcome → State → Prop := va_Qd (fun (r : UInt64) (u : gw_S) => o = (r, u)) (fun u t => gw_P G u t.heap) (gw_A G sz)
section GWFD
variable {p : Program} {l : Launch} {e : Env} {R : Room} {s : State} {m : MethodId} {args : Array Value} {below : List Frame} {meth : Method} {c : Code} {H : Heap} {locs : List Loc} {cc : ByteArray} {nL pc : Nat} {own : String} {G : gw_G} {ls : Array Slot} {σ' : gw_S}
theorem gw_rf {o : UInt32 × gw_S} {v : UInt32} (X : gw_X p s m args meth c cc nL own (some .float) G) (hP : gw_P G σ' H) (hS : va_S (gw_A G s.heap.size) s.heap H locs) (h : some (v, σ') = some o) (hdg : decode cc pc = .ok (.freturn, 1)) : W p l e R s m args below meth c H locs 0 0 (MQ below (gw_QF G s.heap.size o) args s 0 0 (gw_A G s.heap.size)) (F0 m pc ls [.float v]) :=
  W.fret (v := v) X.1 X.2.1 X.2.2.2.2.2.1 (fun t ht _ => ⟨⟨v, σ', rfl, (Option.some.inj h).symm, by subst ht; exact hP⟩, hS.F ht⟩) hS.2.2 hdg X.2.2.2.2.2.2.1
theorem gw_rd {o : UInt64 × gw_S} {v : UInt64} (X : gw_X p s m args meth c cc nL own (some .double) G) (hP : gw_P G σ' H) (hS : va_S (gw_A G s.heap.size) s.heap H locs) (h : some (v, σ') = some o) (hdg : decode cc pc = .ok (.dreturn, 1)) : W p l e R s m args below meth c H locs 0 0 (MQ below (gw_QD G s.heap.size o) args s 0 0 (gw_A G s.heap.size)) (F0 m pc ls [.double v]) :=
  W.dret (v := v) X.1 X.2.1 X.2.2.2.2.2.1 (fun t ht _ => ⟨⟨v, σ', rfl, (Option.some.inj h).symm, by subst ht; exact hP⟩, hS.F ht⟩) hS.2.2 hdg X.2.2.2.2.2.2.1
end GWFD
theorem gv_1163 : Cond.fieldLink RJx4a65c 48 "java/util/ArrayList" "size" "I" ∈ gw_L := gw_tab 1163 (by decide +kernel) (by decide +kernel)
theorem gv_1167 : Cond.fieldLink RJx4a65c 63 "java/util/ArrayList" "modCount" "I" ∈ gw_L := gw_tab 1167 (by decide +kernel) (by decide +kernel)
theorem gv_1166 : Cond.sameField "java/util/ArrayList" "java/util/AbstractList" "modCount" "I" ∈ gw_L := gw_tab 1166 (by decide +kernel) (by decide +kernel)
theorem gv_1160 : Cond.fieldLink RJx4a65c 9 "java/util/ArrayList" "elementData" "[Ljava/lang/Object;" ∈ gw_L := gw_tab 1160 (by decide +kernel) (by decide +kernel)
theorem gv_1179 : Cond.fieldLink RX11 26 "GenericwoodModel" "thrown" "I" ∈ gw_L := gw_tab 1179 (by decide +kernel) (by decide +kernel)
theorem gv_1175 : Cond.fieldLink RX11 10 "GenericwoodModel" "below" "Ljava/util/List;" ∈ gw_L := gw_tab 1175 (by decide +kernel) (by decide +kernel)
theorem gv_1208 : Cond.code yJx4a65c_size_8abf5 cJx4a65c_size_8abf5 1 (some .int) ∈ gw_L := gw_tab 1208 (by decide +kernel) (by decide +kernel)
theorem gv_13 : Cond.initialized yJx4a65c_size_8abf5.cls ∈ gw_L := gw_tab 13 (by decide +kernel) (by decide +kernel)
theorem gk_Jx4a65c_size_8abf5 : gw_K yJx4a65c_size_8abf5 cJx4a65c_size_8abf5 1 (some .int) 0 := ⟨gv_1208, gv_13, by decide +kernel, by decide +kernel⟩
theorem gv_1200 : Cond.methodLink RX11 30 ⟨"java/util/List", "size", "()I"⟩ ∈ gw_L := gw_tab 1200 (by decide +kernel) (by decide +kernel)
theorem gv_1204 : Cond.selects RJx4a65c ⟨"java/util/List", "size", "()I"⟩ yJx4a65c_size_8abf5 ∈ gw_L := gw_tab 1204 (by decide +kernel) (by decide +kernel)
theorem gv_1206 : Cond.instanceMethod yJx4a65c_size_8abf5 ∈ gw_L := gw_tab 1206 (by decide +kernel) (by decide +kernel)
theorem gv_1310 : Cond.methodLink RX11 36 yX11_isIn ∈ gw_L := gw_tab 1310 (by decide +kernel) (by decide +kernel)
theorem gv_1311 : Cond.static yX11_isIn ∈ gw_L := gw_tab 1311 (by decide +kernel) (by decide +kernel)
theorem gv_1312 : Cond.code yX11_isIn cX11_isIn 3 (some .boolean) ∈ gw_L := gw_tab 1312 (by decide +kernel) (by decide +kernel)
theorem gv_10 : Cond.initialized yX11_isIn.cls ∈ gw_L := gw_tab 10 (by decide +kernel) (by decide +kernel)
theorem gk_X11_isIn : gw_K yX11_isIn cX11_isIn 3 (some .boolean) 3 := ⟨gv_1312, gv_10, by decide +kernel, by decide +kernel⟩
theorem gv_1176 : Cond.fieldLink RX11 16 "GenericwoodModel" "names" "Ljava/util/List;" ∈ gw_L := gw_tab 1176 (by decide +kernel) (by decide +kernel)
theorem gv_1177 : Cond.fieldLink RX11 19 "GenericwoodModel" "formulas" "Ljava/util/List;" ∈ gw_L := gw_tab 1177 (by decide +kernel) (by decide +kernel)
theorem gv_1521 : Cond.code yX11_isName cX11_isName 2 (some .boolean) ∈ gw_L := gw_tab 1521 (by decide +kernel) (by decide +kernel)
theorem gk_X11_isName : gw_K yX11_isName cX11_isName 2 (some .boolean) 1 := ⟨gv_1521, gv_10, by decide +kernel, by decide +kernel⟩
theorem gv_1520 : Cond.instanceMethod yX11_isName ∈ gw_L := gw_tab 1520 (by decide +kernel) (by decide +kernel)
theorem gv_1518 : Cond.methodLink RX11 131 yX11_isName ∈ gw_L := gw_tab 1518 (by decide +kernel) (by decide +kernel)
theorem gv_s35 : Cond.selects RX11 yX11_isName yX11_isName ∈ gw_L := gw_sel 35 (by decide +kernel) (by decide +kernel)
theorem gv_1435 : Cond.code yX11_ends cX11_ends 3 (some .int) ∈ gw_L := gw_tab 1435 (by decide +kernel) (by decide +kernel)
theorem gk_X11_ends : gw_K yX11_ends cX11_ends 3 (some .int) 0 := ⟨gv_1435, gv_10, by decide +kernel, by decide +kernel⟩
theorem gv_1434 : Cond.instanceMethod yX11_ends ∈ gw_L := gw_tab 1434 (by decide +kernel) (by decide +kernel)
theorem gv_1432 : Cond.methodLink RX11 97 yX11_ends ∈ gw_L := gw_tab 1432 (by decide +kernel) (by decide +kernel)
theorem gv_s29 : Cond.selects RX11 yX11_ends yX11_ends ∈ gw_L := gw_sel 29 (by decide +kernel) (by decide +kernel)
theorem gv_1341 : Cond.methodLink RX11 61 yX11_has ∈ gw_L := gw_tab 1341 (by decide +kernel) (by decide +kernel)
theorem gv_1342 : Cond.static yX11_has ∈ gw_L := gw_tab 1342 (by decide +kernel) (by decide +kernel)
theorem gv_1343 : Cond.code yX11_has cX11_has 2 (some .boolean) ∈ gw_L := gw_tab 1343 (by decide +kernel) (by decide +kernel)
theorem gk_X11_has : gw_K yX11_has cX11_has 2 (some .boolean) 2 := ⟨gv_1343, gv_10, by decide +kernel, by decide +kernel⟩
def f_Jx4a65c_size_8abf5_34 (σ : gw_S) : Option (Int32 × gw_S) := (some ((σ 34 2), σ))
set_option maxHeartbeats 4000000 in
set_option maxRecDepth 100000 in
theorem gc_Jx4a65c_size_8abf5_34 (l : Launch) (G : gw_G) (σ : gw_S) (o : (Int32 × gw_S)) (h : f_Jx4a65c_size_8abf5_34 σ = some o) : gw_M (fun sz => gw_QI G sz o) l yJx4a65c_size_8abf5 cJx4a65c_size_8abf5 1 (some .int) { frames := 0, cells := 0, slots := 0, locals := 0 } G [.ref (G.2.1 34)] σ := by
  refine gw_en (own := RJx4a65c) (lv := [(0, .ref (G.2.1 34))]) (by decide +kernel) rfl (Nat.le_of_ble_eq_true rfl) rfl ?_
  intro p e s m below meth c ls X hl hP
  obtain ⟨hx, hb, hml, hown, hts, -, -, hT, hZ, -⟩ := id X
  have hS : va_S (gw_A G s.heap.size) s.heap s.heap [] := va_S.rf
  unfold f_Jx4a65c_size_8abf5_34 at h
  refine lv_aload_n hx hb dJx4a65c_size_8abf5_0 rfl (lv_at hl 0 rfl) ?_
  refine va_get (D := G.1) (ci := 2) (v := .int (σ 34 2)) (C := RJx4a65c) (T := TJx4a65c) (N := 3) hx hb hts gx_Jx4a65c hown hT.2.1 hP 34 rfl rfl 2 (by decide) (hts _ gv_1163) (fun _ h9 => h9) rfl dJx4a65c_size_8abf5_1 ?_
  exact gw_ri X hP hS h dJx4a65c_size_8abf5_4
def f_Jx4a65c_size_8abf5_35 (σ : gw_S) : Option (Int32 × gw_S) := (some ((σ 35 2), σ))
set_option maxHeartbeats 4000000 in
set_option maxRecDepth 100000 in
theorem gc_Jx4a65c_size_8abf5_35 (l : Launch) (G : gw_G) (σ : gw_S) (o : (Int32 × gw_S)) (h : f_Jx4a65c_size_8abf5_35 σ = some o) : gw_M (fun sz => gw_QI G sz o) l yJx4a65c_size_8abf5 cJx4a65c_size_8abf5 1 (some .int) { frames := 0, cells := 0, slots := 0, locals := 0 } G [.ref (G.2.1 35)] σ := by
  refine gw_en (own := RJx4a65c) (lv := [(0, .ref (G.2.1 35))]) (by decide +kernel) rfl (Nat.le_of_ble_eq_true rfl) rfl ?_
  intro p e s m below meth c ls X hl hP
  obtain ⟨hx, hb, hml, hown, hts, -, -, hT, hZ, -⟩ := id X
  have hS : va_S (gw_A G s.heap.size) s.heap s.heap [] := va_S.rf
  unfold f_Jx4a65c_size_8abf5_35 at h
  refine lv_aload_n hx hb dJx4a65c_size_8abf5_0 rfl (lv_at hl 0 rfl) ?_
  refine va_get (D := G.1) (ci := 2) (v := .int (σ 35 2)) (C := RJx4a65c) (T := TJx4a65c) (N := 3) hx hb hts gx_Jx4a65c hown hT.2.1 hP 35 rfl rfl 2 (by decide) (hts _ gv_1163) (fun _ h9 => h9) rfl dJx4a65c_size_8abf5_1 ?_
  exact gw_ri X hP hS h dJx4a65c_size_8abf5_4
def f_Jx4a65c_size_8abf5_36 (σ : gw_S) : Option (Int32 × gw_S) := (some ((σ 36 2), σ))
set_option maxHeartbeats 4000000 in
set_option maxRecDepth 100000 in
theorem gc_Jx4a65c_size_8abf5_36 (l : Launch) (G : gw_G) (σ : gw_S) (o : (Int32 × gw_S)) (h : f_Jx4a65c_size_8abf5_36 σ = some o) : gw_M (fun sz => gw_QI G sz o) l yJx4a65c_size_8abf5 cJx4a65c_size_8abf5 1 (some .int) { frames := 0, cells := 0, slots := 0, locals := 0 } G [.ref (G.2.1 36)] σ := by
  refine gw_en (own := RJx4a65c) (lv := [(0, .ref (G.2.1 36))]) (by decide +kernel) rfl (Nat.le_of_ble_eq_true rfl) rfl ?_
  intro p e s m below meth c ls X hl hP
  obtain ⟨hx, hb, hml, hown, hts, -, -, hT, hZ, -⟩ := id X
  have hS : va_S (gw_A G s.heap.size) s.heap s.heap [] := va_S.rf
  unfold f_Jx4a65c_size_8abf5_36 at h
  refine lv_aload_n hx hb dJx4a65c_size_8abf5_0 rfl (lv_at hl 0 rfl) ?_
  refine va_get (D := G.1) (ci := 2) (v := .int (σ 36 2)) (C := RJx4a65c) (T := TJx4a65c) (N := 3) hx hb hts gx_Jx4a65c hown hT.2.1 hP 36 rfl rfl 2 (by decide) (hts _ gv_1163) (fun _ h9 => h9) rfl dJx4a65c_size_8abf5_1 ?_
  exact gw_ri X hP hS h dJx4a65c_size_8abf5_4
def f_Jx4a65c_isEmpty_aae02_34 (σ : gw_S) : Option (Int32 × gw_S) := (if (σ 34 2) = 0 then (some ((1 : Int32), σ)) else (some ((0 : Int32), σ)))
set_option maxHeartbeats 4000000 in
set_option maxRecDepth 100000 in
theorem gc_Jx4a65c_isEmpty_aae02_34 (l : Launch) (G : gw_G) (σ : gw_S) (o : (Int32 × gw_S)) (h : f_Jx4a65c_isEmpty_aae02_34 σ = some o) : gw_M (fun sz => gw_QZ G sz o) l yJx4a65c_isEmpty_aae02 cJx4a65c_isEmpty_aae02 1 (some .boolean) { frames := 0, cells := 0, slots := 0, locals := 0 } G [.ref (G.2.1 34)] σ := by
  refine gw_en (own := RJx4a65c) (lv := [(0, .ref (G.2.1 34))]) (by decide +kernel) rfl (Nat.le_of_ble_eq_true rfl) rfl ?_
  intro p e s m below meth c ls X hl hP
  obtain ⟨hx, hb, hml, hown, hts, -, -, hT, hZ, -⟩ := id X
  have hS : va_S (gw_A G s.heap.size) s.heap s.heap [] := va_S.rf
  unfold f_Jx4a65c_isEmpty_aae02_34 at h
  refine lv_aload_n hx hb dJx4a65c_isEmpty_aae02_0 rfl (lv_at hl 0 rfl) ?_
  refine va_get (D := G.1) (ci := 2) (v := .int (σ 34 2)) (C := RJx4a65c) (T := TJx4a65c) (N := 3) hx hb hts gx_Jx4a65c hown hT.2.1 hP 34 rfl rfl 2 (by decide) (hts _ gv_1163) (fun _ h9 => h9) rfl dJx4a65c_isEmpty_aae02_1 ?_
  refine lv_if_ne (tgt := 11) hx hb dJx4a65c_isEmpty_aae02_4 (by decide) (fun c => ?_) (fun c => ?_)
  · have h := (if_neg c).symm.trans h
    refine lv_iconst (v := 0) hx hb dJx4a65c_isEmpty_aae02_11 (by decide) ?_
    exact gw_rz X hP hS rfl h dJx4a65c_isEmpty_aae02_12
  · have h := (if_pos c).symm.trans h
    refine lv_iconst (v := 1) hx hb dJx4a65c_isEmpty_aae02_7 (by decide) ?_
    refine lv_goto (tgt := 12) hx hb dJx4a65c_isEmpty_aae02_8 (by decide) ?_
    exact gw_rz X hP hS rfl h dJx4a65c_isEmpty_aae02_12
def f_Jx4a65c_isEmpty_aae02_35 (σ : gw_S) : Option (Int32 × gw_S) := (if (σ 35 2) = 0 then (some ((1 : Int32), σ)) else (some ((0 : Int32), σ)))
set_option maxHeartbeats 4000000 in
set_option maxRecDepth 100000 in
theorem gc_Jx4a65c_isEmpty_aae02_35 (l : Launch) (G : gw_G) (σ : gw_S) (o : (Int32 × gw_S)) (h : f_Jx4a65c_isEmpty_aae02_35 σ = some o) : gw_M (fun sz => gw_QZ G sz o) l yJx4a65c_isEmpty_aae02 cJx4a65c_isEmpty_aae02 1 (some .boolean) { frames := 0, cells := 0, slots := 0, locals := 0 } G [.ref (G.2.1 35)] σ := by
  refine gw_en (own := RJx4a65c) (lv := [(0, .ref (G.2.1 35))]) (by decide +kernel) rfl (Nat.le_of_ble_eq_true rfl) rfl ?_
  intro p e s m below meth c ls X hl hP
  obtain ⟨hx, hb, hml, hown, hts, -, -, hT, hZ, -⟩ := id X
  have hS : va_S (gw_A G s.heap.size) s.heap s.heap [] := va_S.rf
  unfold f_Jx4a65c_isEmpty_aae02_35 at h
  refine lv_aload_n hx hb dJx4a65c_isEmpty_aae02_0 rfl (lv_at hl 0 rfl) ?_
  refine va_get (D := G.1) (ci := 2) (v := .int (σ 35 2)) (C := RJx4a65c) (T := TJx4a65c) (N := 3) hx hb hts gx_Jx4a65c hown hT.2.1 hP 35 rfl rfl 2 (by decide) (hts _ gv_1163) (fun _ h9 => h9) rfl dJx4a65c_isEmpty_aae02_1 ?_
  refine lv_if_ne (tgt := 11) hx hb dJx4a65c_isEmpty_aae02_4 (by decide) (fun c => ?_) (fun c => ?_)
  · have h := (if_neg c).symm.trans h
    refine lv_iconst (v := 0) hx hb dJx4a65c_isEmpty_aae02_11 (by decide) ?_
    exact gw_rz X hP hS rfl h dJx4a65c_isEmpty_aae02_12
  · have h := (if_pos c).symm.trans h
    refine lv_iconst (v := 1) hx hb dJx4a65c_isEmpty_aae02_7 (by decide) ?_
    refine lv_goto (tgt := 12) hx hb dJx4a65c_isEmpty_aae02_8 (by decide) ?_
    exact gw_rz X hP hS rfl h dJx4a65c_isEmpty_aae02_12
def f_Jx4a65c_clear_da8c8_36_L27 : Nat → Int32 → Int32 → gw_S → Option gw_S
  | 0, _, _, _ => none
  | n + 1, v27_2, v27_3, σ => (if v27_2 ≤ v27_3 then (some σ) else none)
def f_Jx4a65c_clear_da8c8_36 (σ : gw_S) : Option gw_S := (f_Jx4a65c_clear_da8c8_36_L27 64 ((gw_up σ 36 0 ((σ 36 0) + (1 : Int32))) 36 2) (0 : Int32) (gw_up (gw_up σ 36 0 ((σ 36 0) + (1 : Int32))) 36 2 (0 : Int32)))
set_option maxHeartbeats 4000000 in
set_option maxRecDepth 100000 in
theorem gc_Jx4a65c_clear_da8c8_36 (l : Launch) (G : gw_G) (σ : gw_S) (o : gw_S) (h : f_Jx4a65c_clear_da8c8_36 σ = some o) : gw_M (fun sz => gw_QV G sz o) l yJx4a65c_clear_da8c8 cJx4a65c_clear_da8c8 4 none { frames := 0, cells := 0, slots := 0, locals := 0 } G [.ref (G.2.1 36)] σ := by
  refine gw_en (own := RJx4a65c) (lv := [(0, .ref (G.2.1 36))]) (by decide +kernel) rfl (Nat.le_of_ble_eq_true rfl) rfl ?_
  intro p e s m below meth c ls X hl hP
  obtain ⟨hx, hb, hml, hown, hts, -, -, hT, hZ, -⟩ := id X
  have hS : va_S (gw_A G s.heap.size) s.heap s.heap [] := va_S.rf
  have L27 : ∀ (n : Nat) (v27_2 : Int32) (v27_3 : Int32) (σ : gw_S) (H : Heap) (locs : List Loc) (ls : Array Slot), f_Jx4a65c_clear_da8c8_36_L27 n v27_2 v27_3 σ = some o → gw_P G σ H → va_S (gw_A G s.heap.size) s.heap H locs → lv_has ls 4 [(1, .ref (G.2.1 99)), (2, .int v27_2), (3, .int v27_3)] → W p l e { frames := 0, cells := 0, slots := 0, locals := 0 } s m [.ref (G.2.1 36)].toArray below meth c H locs 0 0 (MQ below (gw_QV G s.heap.size o) [.ref (G.2.1 36)].toArray s 0 0 (gw_A G s.heap.size)) (F0 m 27 ls []) := by
    intro n
    induction n with
    | zero =>
      intro v27_2 v27_3 σ H locs ls h
      exact absurd h (by rw [f_Jx4a65c_clear_da8c8_36_L27.eq_1]; exact fun h => nomatch h)
    | succ n ih =>
      intro v27_2 v27_3 σ H locs ls h hP hS hl
      rw [f_Jx4a65c_clear_da8c8_36_L27.eq_2] at h
      refine lv_iload_n hx hb dJx4a65c_clear_da8c8_27 rfl (lv_at hl 2 rfl) ?_
      refine lv_iload_n hx hb dJx4a65c_clear_da8c8_28 rfl (lv_at hl 1 rfl) ?_
      refine lv_icmp_ge (tgt := 42) hx hb dJx4a65c_clear_da8c8_29 (by decide) (fun c => ?_) (fun c => ?_)
      · have h := (if_pos c).symm.trans h
        exact gw_rv X hP hS h dJx4a65c_clear_da8c8_42
      · have h := (if_neg c).symm.trans h
        refine lv_aload_n hx hb dJx4a65c_clear_da8c8_32 rfl (lv_at hl 0 rfl) ?_
        refine lv_iload_n hx hb dJx4a65c_clear_da8c8_33 rfl (lv_at hl 2 rfl) ?_
        exact absurd h (fun h => nomatch h)
  unfold f_Jx4a65c_clear_da8c8_36 at h
  refine lv_aload_n hx hb dJx4a65c_clear_da8c8_0 rfl (lv_at hl 0 rfl) ?_
  refine lv_dup hx hb dJx4a65c_clear_da8c8_1 rfl ?_
  refine va_get (D := G.1) (ci := 2) (v := .int (σ 36 0)) (C := RJx4a65c) (T := TJx4a65c) (N := 3) hx hb hts gx_Jx4a65c hown hT.2.1 hP 36 rfl rfl 0 (by decide) (hts _ gv_1167) (fun x9 h9 => u_same (hts _ gv_1166) x9 h9) rfl dJx4a65c_clear_da8c8_2 ?_
  refine lv_iconst (v := 1) hx hb dJx4a65c_clear_da8c8_5 (by decide) ?_
  refine lv_iadd hx hb dJx4a65c_clear_da8c8_6 ?_
  refine va_put (D := G.1) (ci := 2) (v := .int ((σ 36 0) + (1 : Int32))) (ty := .int) (C := RJx4a65c) (T := TJx4a65c) (N := 3) hx hb hts gx_Jx4a65c tyJx4a65c tyJx4a65c_ok nmJx4a65c hown hT.2.1 hP (gw_D hT.1 s.heap.size _) hS 36 rfl rfl 0 (by decide) (hts _ gv_1167) (fun x9 h9 => u_same (hts _ gv_1166) x9 h9) rfl gx_pI rfl rfl (Nat.le_of_ble_eq_true rfl) dJx4a65c_clear_da8c8_7 (fun H locs hP _ hS => ?_)
  have hP : gw_P G (gw_up σ 36 0 ((σ 36 0) + (1 : Int32))) H := hP
  refine lv_aload_n hx hb dJx4a65c_clear_da8c8_10 rfl (lv_at hl 0 rfl) ?_
  refine va_get (D := G.1) (ci := 2) (v := .ref (G.2.1 99)) (C := RJx4a65c) (T := TJx4a65c) (N := 3) hx hb hts gx_Jx4a65c hown hT.2.1 hP 36 rfl rfl 1 (by decide) (hts _ gv_1160) (fun _ h9 => h9) rfl dJx4a65c_clear_da8c8_11 ?_
  refine lv_astore_n (lv' := [(1, .ref (G.2.1 99)), (0, .ref (G.2.1 36))]) hx hb dJx4a65c_clear_da8c8_14 rfl hl (by decide) rfl (fun ls hl => ?_)
  refine lv_aload_n hx hb dJx4a65c_clear_da8c8_15 rfl (lv_at hl 1 rfl) ?_
  refine va_get (D := G.1) (ci := 2) (v := .int ((gw_up σ 36 0 ((σ 36 0) + (1 : Int32))) 36 2)) (C := RJx4a65c) (T := TJx4a65c) (N := 3) hx hb hts gx_Jx4a65c hown hT.2.1 hP 36 rfl rfl 2 (by decide) (hts _ gv_1163) (fun _ h9 => h9) rfl dJx4a65c_clear_da8c8_16 ?_
  refine lv_istore_n (lv' := [(2, .int ((gw_up σ 36 0 ((σ 36 0) + (1 : Int32))) 36 2)), (1, .ref (G.2.1 99)), (0, .ref (G.2.1 36))]) hx hb dJx4a65c_clear_da8c8_19 rfl hl (by decide) rfl (fun ls hl => ?_)
  refine lv_aload_n hx hb dJx4a65c_clear_da8c8_20 rfl (lv_at hl 2 rfl) ?_
  refine lv_iconst (v := 0) hx hb dJx4a65c_clear_da8c8_21 (by decide) ?_
  refine lv_dup_x1 hx hb dJx4a65c_clear_da8c8_22 rfl rfl ?_
  refine va_put (D := G.1) (ci := 2) (v := .int (0 : Int32)) (ty := .int) (C := RJx4a65c) (T := TJx4a65c) (N := 3) hx hb hts gx_Jx4a65c tyJx4a65c tyJx4a65c_ok nmJx4a65c hown hT.2.1 hP (gw_D hT.1 s.heap.size _) hS 36 rfl rfl 2 (by decide) (hts _ gv_1163) (fun _ h9 => h9) rfl gx_pI rfl rfl (Nat.le_of_ble_eq_true rfl) dJx4a65c_clear_da8c8_23 (fun H locs hP _ hS => ?_)
  have hP : gw_P G (gw_up (gw_up σ 36 0 ((σ 36 0) + (1 : Int32))) 36 2 (0 : Int32)) H := hP
  refine lv_istore_n (lv' := [(3, .int (0 : Int32)), (2, .int ((gw_up σ 36 0 ((σ 36 0) + (1 : Int32))) 36 2)), (1, .ref (G.2.1 99)), (0, .ref (G.2.1 36))]) hx hb dJx4a65c_clear_da8c8_26 rfl hl (by decide) rfl (fun ls hl => ?_)
  exact L27 64 ((gw_up σ 36 0 ((σ 36 0) + (1 : Int32))) 36 2) (0 : Int32) (gw_up (gw_up σ 36 0 ((σ 36 0) + (1 : Int32))) 36 2 (0 : Int32)) _ _ _ h hP hS (lv_sub hl [2, 1, 0] rfl)
def f_X11_thrown (σ : gw_S) : Option (Int32 × gw_S) := (some ((σ 33 4), σ))
set_option maxHeartbeats 4000000 in
set_option maxRecDepth 100000 in
theorem gc_X11_thrown (l : Launch) (G : gw_G) (σ : gw_S) (o : (Int32 × gw_S)) (h : f_X11_thrown σ = some o) : gw_M (fun sz => gw_QI G sz o) l yX11_thrown cX11_thrown 1 (some .int) { frames := 0, cells := 0, slots := 0, locals := 0 } G [.ref (G.2.1 33)] σ := by
  refine gw_en (own := RX11) (lv := [(0, .ref (G.2.1 33))]) (by decide +kernel) rfl (Nat.le_of_ble_eq_true rfl) rfl ?_
  intro p e s m below meth c ls X hl hP
  obtain ⟨hx, hb, hml, hown, hts, -, -, hT, hZ, -⟩ := id X
  have hS : va_S (gw_A G s.heap.size) s.heap s.heap [] := va_S.rf
  unfold f_X11_thrown at h
  refine lv_aload_n hx hb dX11_thrown_0 rfl (lv_at hl 0 rfl) ?_
  refine va_get (D := G.1) (ci := 13) (v := .int (σ 33 4)) (C := RX11) (T := TX11) (N := 5) hx hb hts gx_X11 hown hT.2.1 hP 33 rfl rfl 4 (by decide) (hts _ gv_1179) (fun _ h9 => h9) rfl dX11_thrown_1 ?_
  exact gw_ri X hP hS h dX11_thrown_4
def f_X11_isIn (a0 : Int32) (a1 : Int32) (a2 : Int32) (σ : gw_S) : Option (Int32 × gw_S) := (if a0 < a1 then (some ((0 : Int32), σ)) else (if a2 < a0 then (some ((0 : Int32), σ)) else (some ((1 : Int32), σ))))
set_option maxHeartbeats 4000000 in
set_option maxRecDepth 100000 in
theorem gc_X11_isIn (l : Launch) (G : gw_G) (a0 : Int32) (a1 : Int32) (a2 : Int32) (σ : gw_S) (o : (Int32 × gw_S)) (h : f_X11_isIn a0 a1 a2 σ = some o) : gw_M (fun sz => gw_QZ G sz o) l yX11_isIn cX11_isIn 3 (some .boolean) { frames := 0, cells := 0, slots := 0, locals := 0 } G [.int a0, .int a1, .int a2] σ := by
  refine gw_en (own := RX11) (lv := [(0, .int a0), (1, .int a1), (2, .int a2)]) (by decide +kernel) rfl (Nat.le_of_ble_eq_true rfl) rfl ?_
  intro p e s m below meth c ls X hl hP
  obtain ⟨hx, hb, hml, hown, hts, -, -, hT, hZ, -⟩ := id X
  have hS : va_S (gw_A G s.heap.size) s.heap s.heap [] := va_S.rf
  unfold f_X11_isIn at h
  refine lv_iload_n hx hb dX11_isIn_0 rfl (lv_at hl 0 rfl) ?_
  refine lv_iload_n hx hb dX11_isIn_1 rfl (lv_at hl 1 rfl) ?_
  refine lv_icmp_lt (tgt := 14) hx hb dX11_isIn_2 (by decide) (fun c => ?_) (fun c => ?_)
  · have h := (if_pos c).symm.trans h
    refine lv_iconst (v := 0) hx hb dX11_isIn_14 (by decide) ?_
    exact gw_rz X hP hS rfl h dX11_isIn_15
  · have h := (if_neg c).symm.trans h
    refine lv_iload_n hx hb dX11_isIn_5 rfl (lv_at hl 0 rfl) ?_
    refine lv_iload_n hx hb dX11_isIn_6 rfl (lv_at hl 2 rfl) ?_
    refine lv_icmp_gt (tgt := 14) hx hb dX11_isIn_7 (by decide) (fun c => ?_) (fun c => ?_)
    · have h := (if_pos c).symm.trans h
      refine lv_iconst (v := 0) hx hb dX11_isIn_14 (by decide) ?_
      exact gw_rz X hP hS rfl h dX11_isIn_15
    · have h := (if_neg c).symm.trans h
      refine lv_iconst (v := 1) hx hb dX11_isIn_10 (by decide) ?_
      refine lv_goto (tgt := 15) hx hb dX11_isIn_11 (by decide) ?_
      exact gw_rz X hP hS rfl h dX11_isIn_15
def f_X11_has (a0 : Int32) (a1 : Int32) (σ : gw_S) : Option (Int32 × gw_S) := (if ((a0 >>> (a1 &&& 31)) &&& (1 : Int32)) = (1 : Int32) then (some ((1 : Int32), σ)) else (some ((0 : Int32), σ)))
set_option maxHeartbeats 4000000 in
set_option maxRecDepth 100000 in
theorem gc_X11_has (l : Launch) (G : gw_G) (a0 : Int32) (a1 : Int32) (σ : gw_S) (o : (Int32 × gw_S)) (h : f_X11_has a0 a1 σ = some o) : gw_M (fun sz => gw_QZ G sz o) l yX11_has cX11_has 2 (some .boolean) { frames := 0, cells := 0, slots := 0, locals := 0 } G [.int a0, .int a1] σ := by
  refine gw_en (own := RX11) (lv := [(0, .int a0), (1, .int a1)]) (by decide +kernel) rfl (Nat.le_of_ble_eq_true rfl) rfl ?_
  intro p e s m below meth c ls X hl hP
  obtain ⟨hx, hb, hml, hown, hts, -, -, hT, hZ, -⟩ := id X
  have hS : va_S (gw_A G s.heap.size) s.heap s.heap [] := va_S.rf
  unfold f_X11_has at h
  refine lv_iload_n hx hb dX11_has_0 rfl (lv_at hl 0 rfl) ?_
  refine lv_iload_n hx hb dX11_has_1 rfl (lv_at hl 1 rfl) ?_
  refine lv_ishr hx hb dX11_has_2 ?_
  refine lv_iconst (v := 1) hx hb dX11_has_3 (by decide) ?_
  refine lv_iand hx hb dX11_has_4 ?_
  refine lv_iconst (v := 1) hx hb dX11_has_5 (by decide) ?_
  refine lv_icmp_ne (tgt := 13) hx hb dX11_has_6 (by decide) (fun c => ?_) (fun c => ?_)
  · have h := (if_neg c).symm.trans h
    refine lv_iconst (v := 0) hx hb dX11_has_13 (by decide) ?_
    exact gw_rz X hP hS rfl h dX11_has_14
  · have h := (if_pos c).symm.trans h
    refine lv_iconst (v := 1) hx hb dX11_has_9 (by decide) ?_
    refine lv_goto (tgt := 14) hx hb dX11_has_10 (by decide) ?_
    exact gw_rz X hP hS rfl h dX11_has_14
def f_X11_no (a0 : Int32) (a1 : Int32) (σ : gw_S) : Option (Int32 × gw_S) := (if a0 = 0 then (if a0 = 0 then (some ((1 : Int32), (gw_up σ 33 4 a1))) else (some ((0 : Int32), (gw_up σ 33 4 a1)))) else (if a0 = 0 then (some ((1 : Int32), (gw_up σ 33 4 (0 : Int32)))) else (some ((0 : Int32), (gw_up σ 33 4 (0 : Int32))))))
set_option maxHeartbeats 4000000 in
set_option maxRecDepth 100000 in
theorem gc_X11_no (l : Launch) (G : gw_G) (a0 : Int32) (a1 : Int32) (σ : gw_S) (o : (Int32 × gw_S)) (h : f_X11_no a0 a1 σ = some o) : gw_M (fun sz => gw_QZ G sz o) l yX11_no cX11_no 3 (some .boolean) { frames := 0, cells := 0, slots := 0, locals := 0 } G [.ref (G.2.1 33), .int a0, .int a1] σ := by
  refine gw_en (own := RX11) (lv := [(0, .ref (G.2.1 33)), (1, .int a0), (2, .int a1)]) (by decide +kernel) rfl (Nat.le_of_ble_eq_true rfl) rfl ?_
  intro p e s m below meth c ls X hl hP
  obtain ⟨hx, hb, hml, hown, hts, -, -, hT, hZ, -⟩ := id X
  have hS : va_S (gw_A G s.heap.size) s.heap s.heap [] := va_S.rf
  unfold f_X11_no at h
  refine lv_aload_n hx hb dX11_no_0 rfl (lv_at hl 0 rfl) ?_
  refine lv_iload_n hx hb dX11_no_1 rfl (lv_at hl 1 rfl) ?_
  refine lv_if_eq (tgt := 9) hx hb dX11_no_2 (by decide) (fun c => ?_) (fun c => ?_)
  · have h := (if_pos c).symm.trans h
    refine lv_iload_n hx hb dX11_no_9 rfl (lv_at hl 2 rfl) ?_
    refine va_put (D := G.1) (ci := 13) (v := .int a1) (ty := .int) (C := RX11) (T := TX11) (N := 5) hx hb hts gx_X11 tyX11 tyX11_ok nmX11 hown hT.2.1 hP (gw_D hT.1 s.heap.size _) hS 33 rfl rfl 4 (by decide) (hts _ gv_1179) (fun _ h9 => h9) rfl gx_pI rfl rfl (Nat.le_of_ble_eq_true rfl) dX11_no_10 (fun H locs hP _ hS => ?_)
    have hP : gw_P G (gw_up σ 33 4 a1) H := hP
    refine lv_iload_n hx hb dX11_no_13 rfl (lv_at hl 1 rfl) ?_
    refine lv_if_ne (tgt := 21) hx hb dX11_no_14 (by decide) (fun c => ?_) (fun c => ?_)
    · have h := (if_neg c).symm.trans h
      refine lv_iconst (v := 0) hx hb dX11_no_21 (by decide) ?_
      exact gw_rz X hP hS rfl h dX11_no_22
    · have h := (if_pos c).symm.trans h
      refine lv_iconst (v := 1) hx hb dX11_no_17 (by decide) ?_
      refine lv_goto (tgt := 22) hx hb dX11_no_18 (by decide) ?_
      exact gw_rz X hP hS rfl h dX11_no_22
  · have h := (if_neg c).symm.trans h
    refine lv_iconst (v := 0) hx hb dX11_no_5 (by decide) ?_
    refine lv_goto (tgt := 10) hx hb dX11_no_6 (by decide) ?_
    refine va_put (D := G.1) (ci := 13) (v := .int (0 : Int32)) (ty := .int) (C := RX11) (T := TX11) (N := 5) hx hb hts gx_X11 tyX11 tyX11_ok nmX11 hown hT.2.1 hP (gw_D hT.1 s.heap.size _) hS 33 rfl rfl 4 (by decide) (hts _ gv_1179) (fun _ h9 => h9) rfl gx_pI rfl rfl (Nat.le_of_ble_eq_true rfl) dX11_no_10 (fun H locs hP _ hS => ?_)
    have hP : gw_P G (gw_up σ 33 4 (0 : Int32)) H := hP
    refine lv_iload_n hx hb dX11_no_13 rfl (lv_at hl 1 rfl) ?_
    refine lv_if_ne (tgt := 21) hx hb dX11_no_14 (by decide) (fun c => ?_) (fun c => ?_)
    · have h := (if_neg c).symm.trans h
      refine lv_iconst (v := 0) hx hb dX11_no_21 (by decide) ?_
      exact gw_rz X hP hS rfl h dX11_no_22
    · have h := (if_pos c).symm.trans h
      refine lv_iconst (v := 1) hx hb dX11_no_17 (by decide) ?_
      refine lv_goto (tgt := 22) hx hb dX11_no_18 (by decide) ?_
      exact gw_rz X hP hS rfl h dX11_no_22
def f_X11_isCondition (a0 : Int32) (σ : gw_S) : Option (Int32 × gw_S) := ((f_Jx4a65c_size_8abf5_34 σ).bind fun p1 => ((f_X11_isIn a0 (0 : Int32) (p1.1 - (1 : Int32)) p1.2).bind fun p2 => (some (p2.1, p2.2))))
set_option maxHeartbeats 4000000 in
set_option maxRecDepth 100000 in
theorem gc_X11_isCondition (l : Launch) (G : gw_G) (a0 : Int32) (σ : gw_S) (o : (Int32 × gw_S)) (h : f_X11_isCondition a0 σ = some o) : gw_M (fun sz => gw_QZ G sz o) l yX11_isCondition cX11_isCondition 2 (some .boolean) { frames := 1, cells := 0, slots := 0, locals := 22 } G [.ref (G.2.1 33), .int a0] σ := by
  refine gw_en (own := RX11) (lv := [(0, .ref (G.2.1 33)), (1, .int a0)]) (by decide +kernel) rfl (Nat.le_of_ble_eq_true rfl) rfl ?_
  intro p e s m below meth c ls X hl hP
  obtain ⟨hx, hb, hml, hown, hts, -, -, hT, hZ, -⟩ := id X
  have hS : va_S (gw_A G s.heap.size) s.heap s.heap [] := va_S.rf
  unfold f_X11_isCondition at h
  refine lv_iload_n hx hb dX11_isCondition_0 rfl (lv_at hl 1 rfl) ?_
  refine lv_iconst (v := 0) hx hb dX11_isCondition_1 (by decide) ?_
  refine lv_aload_n hx hb dX11_isCondition_2 rfl (lv_at hl 0 rfl) ?_
  refine va_get (D := G.1) (ci := 13) (v := .ref (G.2.1 34)) (C := RX11) (T := TX11) (N := 5) hx hb hts gx_X11 hown hT.2.1 hP 33 rfl rfl 0 (by decide) (hts _ gv_1175) (fun _ h9 => h9) rfl dX11_isCondition_3 ?_
  obtain ⟨p1, gp1, h⟩ := Option.bind_eq_some_iff.mp h
  refine gw_fi (gw_rF (x := ⟨"java/util/List", "size", "()I"⟩) (C := RJx4a65c) X (hT.2.1.1 2 _ rfl).2 hP hS (gc_Jx4a65c_size_8abf5_34 l G σ _ gp1) gk_Jx4a65c_size_8abf5 ⟨by decide +kernel, by decide +kernel⟩ gv_1200 ⟨gv_1204, gv_1206⟩ 0 rfl (va_recv hT.2.1 hP (ci := 2) (q0 := 34) rfl rfl) rfl rfl (Nat.le_of_ble_eq_true rfl) hl.1 ⟨rfl, rfl⟩ ⟨Nat.le_of_ble_eq_true rfl, Nat.le_of_ble_eq_true rfl⟩ ⟨Nat.le_of_ble_eq_true rfl, Nat.le_of_ble_eq_true rfl⟩ dX11_isCondition_6) hS (fun H locs hP hS => ?_)
  refine lv_iconst (v := 1) hx hb dX11_isCondition_11 (by decide) ?_
  refine lv_isub hx hb dX11_isCondition_12 ?_
  obtain ⟨p2, gp2, h⟩ := Option.bind_eq_some_iff.mp h
  refine gw_cz (gw_rS X hP hS (gc_X11_isIn l G a0 (0 : Int32) (p1.1 - (1 : Int32)) p1.2 _ gp2) gk_X11_isIn gv_1310 gv_1311 rfl rfl (Nat.le_of_ble_eq_true rfl) hl.1 ⟨rfl, rfl⟩ ⟨Nat.le_of_ble_eq_true rfl, Nat.le_of_ble_eq_true rfl⟩ ⟨Nat.le_of_ble_eq_true rfl, Nat.le_of_ble_eq_true rfl⟩ dX11_isCondition_13) hS (fun H locs hb_p2 hP hS => ?_)
  exact gw_rz X hP hS hb_p2 h dX11_isCondition_16
def f_X11_isName (a0 : Int32) (σ : gw_S) : Option (Int32 × gw_S) := ((f_Jx4a65c_size_8abf5_35 σ).bind fun p1 => ((f_X11_isIn a0 (0 : Int32) (p1.1 - (1 : Int32)) p1.2).bind fun p2 => (some (p2.1, p2.2))))
set_option maxHeartbeats 4000000 in
set_option maxRecDepth 100000 in
theorem gc_X11_isName (l : Launch) (G : gw_G) (a0 : Int32) (σ : gw_S) (o : (Int32 × gw_S)) (h : f_X11_isName a0 σ = some o) : gw_M (fun sz => gw_QZ G sz o) l yX11_isName cX11_isName 2 (some .boolean) { frames := 1, cells := 0, slots := 0, locals := 22 } G [.ref (G.2.1 33), .int a0] σ := by
  refine gw_en (own := RX11) (lv := [(0, .ref (G.2.1 33)), (1, .int a0)]) (by decide +kernel) rfl (Nat.le_of_ble_eq_true rfl) rfl ?_
  intro p e s m below meth c ls X hl hP
  obtain ⟨hx, hb, hml, hown, hts, -, -, hT, hZ, -⟩ := id X
  have hS : va_S (gw_A G s.heap.size) s.heap s.heap [] := va_S.rf
  unfold f_X11_isName at h
  refine lv_iload_n hx hb dX11_isName_0 rfl (lv_at hl 1 rfl) ?_
  refine lv_iconst (v := 0) hx hb dX11_isName_1 (by decide) ?_
  refine lv_aload_n hx hb dX11_isName_2 rfl (lv_at hl 0 rfl) ?_
  refine va_get (D := G.1) (ci := 13) (v := .ref (G.2.1 35)) (C := RX11) (T := TX11) (N := 5) hx hb hts gx_X11 hown hT.2.1 hP 33 rfl rfl 1 (by decide) (hts _ gv_1176) (fun _ h9 => h9) rfl dX11_isName_3 ?_
  obtain ⟨p1, gp1, h⟩ := Option.bind_eq_some_iff.mp h
  refine gw_fi (gw_rF (x := ⟨"java/util/List", "size", "()I"⟩) (C := RJx4a65c) X (hT.2.1.1 2 _ rfl).2 hP hS (gc_Jx4a65c_size_8abf5_35 l G σ _ gp1) gk_Jx4a65c_size_8abf5 ⟨by decide +kernel, by decide +kernel⟩ gv_1200 ⟨gv_1204, gv_1206⟩ 0 rfl (va_recv hT.2.1 hP (ci := 2) (q0 := 35) rfl rfl) rfl rfl (Nat.le_of_ble_eq_true rfl) hl.1 ⟨rfl, rfl⟩ ⟨Nat.le_of_ble_eq_true rfl, Nat.le_of_ble_eq_true rfl⟩ ⟨Nat.le_of_ble_eq_true rfl, Nat.le_of_ble_eq_true rfl⟩ dX11_isName_6) hS (fun H locs hP hS => ?_)
  refine lv_iconst (v := 1) hx hb dX11_isName_11 (by decide) ?_
  refine lv_isub hx hb dX11_isName_12 ?_
  obtain ⟨p2, gp2, h⟩ := Option.bind_eq_some_iff.mp h
  refine gw_cz (gw_rS X hP hS (gc_X11_isIn l G a0 (0 : Int32) (p1.1 - (1 : Int32)) p1.2 _ gp2) gk_X11_isIn gv_1310 gv_1311 rfl rfl (Nat.le_of_ble_eq_true rfl) hl.1 ⟨rfl, rfl⟩ ⟨Nat.le_of_ble_eq_true rfl, Nat.le_of_ble_eq_true rfl⟩ ⟨Nat.le_of_ble_eq_true rfl, Nat.le_of_ble_eq_true rfl⟩ dX11_isName_13) hS (fun H locs hb_p2 hP hS => ?_)
  exact gw_rz X hP hS hb_p2 h dX11_isName_16
def f_X11_isFormula (a0 : Int32) (σ : gw_S) : Option (Int32 × gw_S) := ((f_Jx4a65c_size_8abf5_36 σ).bind fun p1 => ((f_X11_isIn a0 (0 : Int32) (p1.1 - (1 : Int32)) p1.2).bind fun p2 => (some (p2.1, p2.2))))
set_option maxHeartbeats 4000000 in
set_option maxRecDepth 100000 in
theorem gc_X11_isFormula (l : Launch) (G : gw_G) (a0 : Int32) (σ : gw_S) (o : (Int32 × gw_S)) (h : f_X11_isFormula a0 σ = some o) : gw_M (fun sz => gw_QZ G sz o) l yX11_isFormula cX11_isFormula 2 (some .boolean) { frames := 1, cells := 0, slots := 0, locals := 22 } G [.ref (G.2.1 33), .int a0] σ := by
  refine gw_en (own := RX11) (lv := [(0, .ref (G.2.1 33)), (1, .int a0)]) (by decide +kernel) rfl (Nat.le_of_ble_eq_true rfl) rfl ?_
  intro p e s m below meth c ls X hl hP
  obtain ⟨hx, hb, hml, hown, hts, -, -, hT, hZ, -⟩ := id X
  have hS : va_S (gw_A G s.heap.size) s.heap s.heap [] := va_S.rf
  unfold f_X11_isFormula at h
  refine lv_iload_n hx hb dX11_isFormula_0 rfl (lv_at hl 1 rfl) ?_
  refine lv_iconst (v := 0) hx hb dX11_isFormula_1 (by decide) ?_
  refine lv_aload_n hx hb dX11_isFormula_2 rfl (lv_at hl 0 rfl) ?_
  refine va_get (D := G.1) (ci := 13) (v := .ref (G.2.1 36)) (C := RX11) (T := TX11) (N := 5) hx hb hts gx_X11 hown hT.2.1 hP 33 rfl rfl 2 (by decide) (hts _ gv_1177) (fun _ h9 => h9) rfl dX11_isFormula_3 ?_
  obtain ⟨p1, gp1, h⟩ := Option.bind_eq_some_iff.mp h
  refine gw_fi (gw_rF (x := ⟨"java/util/List", "size", "()I"⟩) (C := RJx4a65c) X (hT.2.1.1 2 _ rfl).2 hP hS (gc_Jx4a65c_size_8abf5_36 l G σ _ gp1) gk_Jx4a65c_size_8abf5 ⟨by decide +kernel, by decide +kernel⟩ gv_1200 ⟨gv_1204, gv_1206⟩ 0 rfl (va_recv hT.2.1 hP (ci := 2) (q0 := 36) rfl rfl) rfl rfl (Nat.le_of_ble_eq_true rfl) hl.1 ⟨rfl, rfl⟩ ⟨Nat.le_of_ble_eq_true rfl, Nat.le_of_ble_eq_true rfl⟩ ⟨Nat.le_of_ble_eq_true rfl, Nat.le_of_ble_eq_true rfl⟩ dX11_isFormula_6) hS (fun H locs hP hS => ?_)
  refine lv_iconst (v := 1) hx hb dX11_isFormula_11 (by decide) ?_
  refine lv_isub hx hb dX11_isFormula_12 ?_
  obtain ⟨p2, gp2, h⟩ := Option.bind_eq_some_iff.mp h
  refine gw_cz (gw_rS X hP hS (gc_X11_isIn l G a0 (0 : Int32) (p1.1 - (1 : Int32)) p1.2 _ gp2) gk_X11_isIn gv_1310 gv_1311 rfl rfl (Nat.le_of_ble_eq_true rfl) hl.1 ⟨rfl, rfl⟩ ⟨Nat.le_of_ble_eq_true rfl, Nat.le_of_ble_eq_true rfl⟩ ⟨Nat.le_of_ble_eq_true rfl, Nat.le_of_ble_eq_true rfl⟩ dX11_isFormula_13) hS (fun H locs hb_p2 hP hS => ?_)
  exact gw_rz X hP hS hb_p2 h dX11_isFormula_16
def f_X11_isSet (a0 : Int32) (σ : gw_S) : Option (Int32 × gw_S) := ((f_Jx4a65c_size_8abf5_34 σ).bind fun p1 => ((f_X11_isIn a0 (0 : Int32) (((1 : Int32) <<< (p1.1 &&& 31)) - (1 : Int32)) p1.2).bind fun p2 => (some (p2.1, p2.2))))
set_option maxHeartbeats 4000000 in
set_option maxRecDepth 100000 in
theorem gc_X11_isSet (l : Launch) (G : gw_G) (a0 : Int32) (σ : gw_S) (o : (Int32 × gw_S)) (h : f_X11_isSet a0 σ = some o) : gw_M (fun sz => gw_QZ G sz o) l yX11_isSet cX11_isSet 2 (some .boolean) { frames := 1, cells := 0, slots := 0, locals := 22 } G [.ref (G.2.1 33), .int a0] σ := by
  refine gw_en (own := RX11) (lv := [(0, .ref (G.2.1 33)), (1, .int a0)]) (by decide +kernel) rfl (Nat.le_of_ble_eq_true rfl) rfl ?_
  intro p e s m below meth c ls X hl hP
  obtain ⟨hx, hb, hml, hown, hts, -, -, hT, hZ, -⟩ := id X
  have hS : va_S (gw_A G s.heap.size) s.heap s.heap [] := va_S.rf
  unfold f_X11_isSet at h
  refine lv_iload_n hx hb dX11_isSet_0 rfl (lv_at hl 1 rfl) ?_
  refine lv_iconst (v := 0) hx hb dX11_isSet_1 (by decide) ?_
  refine lv_iconst (v := 1) hx hb dX11_isSet_2 (by decide) ?_
  refine lv_aload_n hx hb dX11_isSet_3 rfl (lv_at hl 0 rfl) ?_
  refine va_get (D := G.1) (ci := 13) (v := .ref (G.2.1 34)) (C := RX11) (T := TX11) (N := 5) hx hb hts gx_X11 hown hT.2.1 hP 33 rfl rfl 0 (by decide) (hts _ gv_1175) (fun _ h9 => h9) rfl dX11_isSet_4 ?_
  obtain ⟨p1, gp1, h⟩ := Option.bind_eq_some_iff.mp h
  refine gw_fi (gw_rF (x := ⟨"java/util/List", "size", "()I"⟩) (C := RJx4a65c) X (hT.2.1.1 2 _ rfl).2 hP hS (gc_Jx4a65c_size_8abf5_34 l G σ _ gp1) gk_Jx4a65c_size_8abf5 ⟨by decide +kernel, by decide +kernel⟩ gv_1200 ⟨gv_1204, gv_1206⟩ 0 rfl (va_recv hT.2.1 hP (ci := 2) (q0 := 34) rfl rfl) rfl rfl (Nat.le_of_ble_eq_true rfl) hl.1 ⟨rfl, rfl⟩ ⟨Nat.le_of_ble_eq_true rfl, Nat.le_of_ble_eq_true rfl⟩ ⟨Nat.le_of_ble_eq_true rfl, Nat.le_of_ble_eq_true rfl⟩ dX11_isSet_7) hS (fun H locs hP hS => ?_)
  refine lv_ishl hx hb dX11_isSet_12 ?_
  refine lv_iconst (v := 1) hx hb dX11_isSet_13 (by decide) ?_
  refine lv_isub hx hb dX11_isSet_14 ?_
  obtain ⟨p2, gp2, h⟩ := Option.bind_eq_some_iff.mp h
  refine gw_cz (gw_rS X hP hS (gc_X11_isIn l G a0 (0 : Int32) (((1 : Int32) <<< (p1.1 &&& 31)) - (1 : Int32)) p1.2 _ gp2) gk_X11_isIn gv_1310 gv_1311 rfl rfl (Nat.le_of_ble_eq_true rfl) hl.1 ⟨rfl, rfl⟩ ⟨Nat.le_of_ble_eq_true rfl, Nat.le_of_ble_eq_true rfl⟩ ⟨Nat.le_of_ble_eq_true rfl, Nat.le_of_ble_eq_true rfl⟩ dX11_isSet_15) hS (fun H locs hb_p2 hP hS => ?_)
  exact gw_rz X hP hS hb_p2 h dX11_isSet_18
def f_X11_isTerm (a0 : Int32) (σ : gw_S) : Option (Int32 × gw_S) := ((f_X11_isName a0 σ).bind fun p1 => (if p1.1 = 0 then ((f_X11_isIn a0 (100 : Int32) (103 : Int32) p1.2).bind fun p2 => (if p2.1 = 0 then (some ((0 : Int32), p2.2)) else (some ((1 : Int32), p2.2)))) else (some ((1 : Int32), p1.2))))
set_option maxHeartbeats 4000000 in
set_option maxRecDepth 100000 in
theorem gc_X11_isTerm (l : Launch) (G : gw_G) (a0 : Int32) (σ : gw_S) (o : (Int32 × gw_S)) (h : f_X11_isTerm a0 σ = some o) : gw_M (fun sz => gw_QZ G sz o) l yX11_isTerm cX11_isTerm 2 (some .boolean) { frames := 2, cells := 0, slots := 0, locals := 43 } G [.ref (G.2.1 33), .int a0] σ := by
  refine gw_en (own := RX11) (lv := [(0, .ref (G.2.1 33)), (1, .int a0)]) (by decide +kernel) rfl (Nat.le_of_ble_eq_true rfl) rfl ?_
  intro p e s m below meth c ls X hl hP
  obtain ⟨hx, hb, hml, hown, hts, -, -, hT, hZ, -⟩ := id X
  have hS : va_S (gw_A G s.heap.size) s.heap s.heap [] := va_S.rf
  unfold f_X11_isTerm at h
  refine lv_aload_n hx hb dX11_isTerm_0 rfl (lv_at hl 0 rfl) ?_
  refine lv_iload_n hx hb dX11_isTerm_1 rfl (lv_at hl 1 rfl) ?_
  obtain ⟨p1, gp1, h⟩ := Option.bind_eq_some_iff.mp h
  refine gw_cz (gw_rV (C := RX11) X hP hS (gc_X11_isName l G a0 σ _ gp1) gk_X11_isName gv_1518 ⟨gv_1520, gv_s35⟩ (va_recv hT.2.1 hP (ci := 13) (q0 := 33) rfl rfl) rfl rfl (Nat.le_of_ble_eq_true rfl) hl.1 ⟨rfl, rfl⟩ ⟨Nat.le_of_ble_eq_true rfl, Nat.le_of_ble_eq_true rfl⟩ ⟨Nat.le_of_ble_eq_true rfl, Nat.le_of_ble_eq_true rfl⟩ dX11_isTerm_2) hS (fun H locs hb_p1 hP hS => ?_)
  refine lv_if_ne (tgt := 19) hx hb dX11_isTerm_5 (by decide) (fun c => ?_) (fun c => ?_)
  · have h := (if_neg c).symm.trans h
    refine lv_iconst (v := 1) hx hb dX11_isTerm_19 (by decide) ?_
    refine lv_goto (tgt := 24) hx hb dX11_isTerm_20 (by decide) ?_
    exact gw_rz X hP hS rfl h dX11_isTerm_24
  · have h := (if_pos c).symm.trans h
    refine lv_iload_n hx hb dX11_isTerm_8 rfl (lv_at hl 1 rfl) ?_
    refine lv_bipush (v := 100) hx hb dX11_isTerm_9 (by decide) ?_
    refine lv_bipush (v := 103) hx hb dX11_isTerm_11 (by decide) ?_
    obtain ⟨p2, gp2, h⟩ := Option.bind_eq_some_iff.mp h
    refine gw_cz (gw_rS X hP hS (gc_X11_isIn l G a0 (100 : Int32) (103 : Int32) p1.2 _ gp2) gk_X11_isIn gv_1310 gv_1311 rfl rfl (Nat.le_of_ble_eq_true rfl) hl.1 ⟨rfl, rfl⟩ ⟨Nat.le_of_ble_eq_true rfl, Nat.le_of_ble_eq_true rfl⟩ ⟨Nat.le_of_ble_eq_true rfl, Nat.le_of_ble_eq_true rfl⟩ dX11_isTerm_13) hS (fun H locs hb_p2 hP hS => ?_)
    refine lv_if_eq (tgt := 23) hx hb dX11_isTerm_16 (by decide) (fun c => ?_) (fun c => ?_)
    · have h := (if_pos c).symm.trans h
      refine lv_iconst (v := 0) hx hb dX11_isTerm_23 (by decide) ?_
      exact gw_rz X hP hS rfl h dX11_isTerm_24
    · have h := (if_neg c).symm.trans h
      refine lv_iconst (v := 1) hx hb dX11_isTerm_19 (by decide) ?_
      refine lv_goto (tgt := 24) hx hb dX11_isTerm_20 (by decide) ?_
      exact gw_rz X hP hS rfl h dX11_isTerm_24
def f_X11_ends_L4 : Nat → Int32 → Int32 → gw_S → Option (Int32 × gw_S)
  | 0, _, _, _ => none
  | n + 1, v4_1, v4_2, σ => ((f_Jx4a65c_size_8abf5_34 σ).bind fun p1 => (if p1.1 ≤ v4_2 then (some (v4_1, p1.2)) else none))
def f_X11_ends (σ : gw_S) : Option (Int32 × gw_S) := (f_X11_ends_L4 64 (0 : Int32) (0 : Int32) σ)
set_option maxHeartbeats 4000000 in
set_option maxRecDepth 100000 in
theorem gc_X11_ends (l : Launch) (G : gw_G) (σ : gw_S) (o : (Int32 × gw_S)) (h : f_X11_ends σ = some o) : gw_M (fun sz => gw_QI G sz o) l yX11_ends cX11_ends 3 (some .int) { frames := 1, cells := 0, slots := 0, locals := 20 } G [.ref (G.2.1 33)] σ := by
  refine gw_en (own := RX11) (lv := [(0, .ref (G.2.1 33))]) (by decide +kernel) rfl (Nat.le_of_ble_eq_true rfl) rfl ?_
  intro p e s m below meth c ls X hl hP
  obtain ⟨hx, hb, hml, hown, hts, -, -, hT, hZ, -⟩ := id X
  have hS : va_S (gw_A G s.heap.size) s.heap s.heap [] := va_S.rf
  have L4 : ∀ (n : Nat) (v4_1 : Int32) (v4_2 : Int32) (σ : gw_S) (H : Heap) (locs : List Loc) (ls : Array Slot), f_X11_ends_L4 n v4_1 v4_2 σ = some o → gw_P G σ H → va_S (gw_A G s.heap.size) s.heap H locs → lv_has ls 3 [(0, .ref (G.2.1 33)), (1, .int v4_1), (2, .int v4_2)] → W p l e { frames := 1, cells := 0, slots := 0, locals := 20 } s m [.ref (G.2.1 33)].toArray below meth c H locs 0 0 (MQ below (gw_QI G s.heap.size o) [.ref (G.2.1 33)].toArray s 0 0 (gw_A G s.heap.size)) (F0 m 4 ls []) := by
    intro n
    induction n with
    | zero =>
      intro v4_1 v4_2 σ H locs ls h
      exact absurd h (by rw [f_X11_ends_L4.eq_1]; exact fun h => nomatch h)
    | succ n ih =>
      intro v4_1 v4_2 σ H locs ls h hP hS hl
      rw [f_X11_ends_L4.eq_2] at h
      refine lv_iload_n hx hb dX11_ends_4 rfl (lv_at hl 2 rfl) ?_
      refine lv_aload_n hx hb dX11_ends_5 rfl (lv_at hl 0 rfl) ?_
      refine va_get (D := G.1) (ci := 13) (v := .ref (G.2.1 34)) (C := RX11) (T := TX11) (N := 5) hx hb hts gx_X11 hown hT.2.1 hP 33 rfl rfl 0 (by decide) (hts _ gv_1175) (fun _ h9 => h9) rfl dX11_ends_6 ?_
      obtain ⟨p1, gp1, h⟩ := Option.bind_eq_some_iff.mp h
      refine gw_fi (gw_rF (x := ⟨"java/util/List", "size", "()I"⟩) (C := RJx4a65c) X (hT.2.1.1 2 _ rfl).2 hP hS (gc_Jx4a65c_size_8abf5_34 l G σ _ gp1) gk_Jx4a65c_size_8abf5 ⟨by decide +kernel, by decide +kernel⟩ gv_1200 ⟨gv_1204, gv_1206⟩ 0 rfl (va_recv hT.2.1 hP (ci := 2) (q0 := 34) rfl rfl) rfl rfl (Nat.le_of_ble_eq_true rfl) hl.1 ⟨rfl, rfl⟩ ⟨Nat.le_of_ble_eq_true rfl, Nat.le_of_ble_eq_true rfl⟩ ⟨Nat.le_of_ble_eq_true rfl, Nat.le_of_ble_eq_true rfl⟩ dX11_ends_9) hS (fun H locs hP hS => ?_)
      refine lv_icmp_ge (tgt := 55) hx hb dX11_ends_14 (by decide) (fun c => ?_) (fun c => ?_)
      · have h := (if_pos c).symm.trans h
        refine lv_iload_n hx hb dX11_ends_55 rfl (lv_at hl 1 rfl) ?_
        exact gw_ri X hP hS h dX11_ends_56
      · have h := (if_neg c).symm.trans h
        refine lv_iload_n hx hb dX11_ends_17 rfl (lv_at hl 1 rfl) ?_
        refine lv_aload_n hx hb dX11_ends_18 rfl (lv_at hl 0 rfl) ?_
        refine va_get (D := G.1) (ci := 13) (v := .ref (G.2.1 34)) (C := RX11) (T := TX11) (N := 5) hx hb hts gx_X11 hown hT.2.1 hP 33 rfl rfl 0 (by decide) (hts _ gv_1175) (fun _ h9 => h9) rfl dX11_ends_19 ?_
        refine lv_iload_n hx hb dX11_ends_22 rfl (lv_at hl 2 rfl) ?_
        exact absurd h (fun h => nomatch h)
  unfold f_X11_ends at h
  refine lv_iconst (v := 0) hx hb dX11_ends_0 (by decide) ?_
  refine lv_istore_n (lv' := [(1, .int (0 : Int32)), (0, .ref (G.2.1 33))]) hx hb dX11_ends_1 rfl hl (by decide) rfl (fun ls hl => ?_)
  refine lv_iconst (v := 0) hx hb dX11_ends_2 (by decide) ?_
  refine lv_istore_n (lv' := [(2, .int (0 : Int32)), (1, .int (0 : Int32)), (0, .ref (G.2.1 33))]) hx hb dX11_ends_3 rfl hl (by decide) rfl (fun ls hl => ?_)
  exact L4 64 (0 : Int32) (0 : Int32) σ _ _ _ h hP hS (lv_sub hl [2, 1, 0] rfl)
def f_X11_lasts (σ : gw_S) : Option (Int32 × gw_S) := ((f_X11_ends  σ).bind fun p1 => (some (p1.1, p1.2)))
set_option maxHeartbeats 4000000 in
set_option maxRecDepth 100000 in
theorem gc_X11_lasts (l : Launch) (G : gw_G) (σ : gw_S) (o : (Int32 × gw_S)) (h : f_X11_lasts σ = some o) : gw_M (fun sz => gw_QI G sz o) l yX11_lasts cX11_lasts 1 (some .int) { frames := 2, cells := 0, slots := 0, locals := 42 } G [.ref (G.2.1 33)] σ := by
  refine gw_en (own := RX11) (lv := [(0, .ref (G.2.1 33))]) (by decide +kernel) rfl (Nat.le_of_ble_eq_true rfl) rfl ?_
  intro p e s m below meth c ls X hl hP
  obtain ⟨hx, hb, hml, hown, hts, -, -, hT, hZ, -⟩ := id X
  have hS : va_S (gw_A G s.heap.size) s.heap s.heap [] := va_S.rf
  unfold f_X11_lasts at h
  refine lv_aload_n hx hb dX11_lasts_0 rfl (lv_at hl 0 rfl) ?_
  obtain ⟨p1, gp1, h⟩ := Option.bind_eq_some_iff.mp h
  refine gw_ci (gw_rV (C := RX11) X hP hS (gc_X11_ends l G  σ _ gp1) gk_X11_ends gv_1432 ⟨gv_1434, gv_s29⟩ (va_recv hT.2.1 hP (ci := 13) (q0 := 33) rfl rfl) rfl rfl (Nat.le_of_ble_eq_true rfl) hl.1 ⟨rfl, rfl⟩ ⟨Nat.le_of_ble_eq_true rfl, Nat.le_of_ble_eq_true rfl⟩ ⟨Nat.le_of_ble_eq_true rfl, Nat.le_of_ble_eq_true rfl⟩ dX11_lasts_1) hS (fun H locs hP hS => ?_)
  exact gw_ri X hP hS h dX11_lasts_4
def f_X11_apart_L20 : Nat → (Int32 → Int32 → Int32 → gw_S → Option (Int32 × gw_S)) → Int32 → Int32 → Int32 → Int32 → gw_S → Option (Int32 × gw_S)
  | 0, _, _, _, _, _, _ => none
  | n + 1, K, v20_1, v20_2, v20_3, v20_4, σ => (if v20_3 ≤ v20_4 then (K v20_1 v20_2 v20_3 σ) else ((f_X11_has v20_1 v20_3 σ).bind fun p2 => (if p2.1 = 0 then (f_X11_apart_L20 n K v20_1 (v20_2 &&& (1 : Int32)) v20_3 (v20_4 + (1 : Int32)) p2.2) else ((f_X11_has v20_1 v20_4 p2.2).bind fun p3 => (if p3.1 = 0 then (f_X11_apart_L20 n K v20_1 (v20_2 &&& (1 : Int32)) v20_3 (v20_4 + (1 : Int32)) p3.2) else none)))))
def f_X11_apart_L4 : Nat → Int32 → Int32 → Int32 → gw_S → Option (Int32 × gw_S)
  | 0, _, _, _, _ => none
  | n + 1, v4_1, v4_2, v4_3, σ => ((f_Jx4a65c_size_8abf5_34 σ).bind fun p1 => (if p1.1 ≤ v4_3 then (some (v4_2, p1.2)) else (f_X11_apart_L20 64 (fun w20_1 w20_2 w20_3 σ20 => (f_X11_apart_L4 n w20_1 w20_2 (w20_3 + (1 : Int32)) σ20)) v4_1 v4_2 v4_3 (0 : Int32) p1.2)))
def f_X11_apart (a0 : Int32) (σ : gw_S) : Option (Int32 × gw_S) := (f_X11_apart_L4 64 a0 (1 : Int32) (0 : Int32) σ)
set_option maxHeartbeats 4000000 in
set_option maxRecDepth 100000 in
theorem gc_X11_apart (l : Launch) (G : gw_G) (a0 : Int32) (σ : gw_S) (o : (Int32 × gw_S)) (h : f_X11_apart a0 σ = some o) : gw_M (fun sz => gw_QZ G sz o) l yX11_apart cX11_apart 5 (some .boolean) { frames := 1, cells := 0, slots := 0, locals := 21 } G [.ref (G.2.1 33), .int a0] σ := by
  refine gw_en (own := RX11) (lv := [(0, .ref (G.2.1 33)), (1, .int a0)]) (by decide +kernel) rfl (Nat.le_of_ble_eq_true rfl) rfl ?_
  intro p e s m below meth c ls X hl hP
  obtain ⟨hx, hb, hml, hown, hts, -, -, hT, hZ, -⟩ := id X
  have hS : va_S (gw_A G s.heap.size) s.heap s.heap [] := va_S.rf
  have L20 : ∀ (n : Nat) (K : Int32 → Int32 → Int32 → gw_S → Option (Int32 × gw_S)) (v20_1 : Int32) (v20_2 : Int32) (v20_3 : Int32) (v20_4 : Int32) (σ : gw_S) (H : Heap) (locs : List Loc) (ls : Array Slot), f_X11_apart_L20 n K v20_1 v20_2 v20_3 v20_4 σ = some o → gw_P G σ H → va_S (gw_A G s.heap.size) s.heap H locs → lv_has ls 5 [(0, .ref (G.2.1 33)), (1, .int v20_1), (2, .int v20_2), (3, .int v20_3), (4, .int v20_4)] → gw_b v20_2 → (∀ (w1 : Int32) (w2 : Int32) (w3 : Int32) (σ : gw_S) (H : Heap) (locs : List Loc) (ls : Array Slot), K w1 w2 w3 σ = some o → gw_P G σ H → va_S (gw_A G s.heap.size) s.heap H locs → lv_has ls 5 [(0, .ref (G.2.1 33)), (1, .int w1), (2, .int w2), (3, .int w3)] → gw_b w2 → W p l e { frames := 1, cells := 0, slots := 0, locals := 21 } s m [.ref (G.2.1 33), .int a0].toArray below meth c H locs 0 0 (MQ below (gw_QZ G s.heap.size o) [.ref (G.2.1 33), .int a0].toArray s 0 0 (gw_A G s.heap.size)) (F0 m 67 ls [])) → W p l e { frames := 1, cells := 0, slots := 0, locals := 21 } s m [.ref (G.2.1 33), .int a0].toArray below meth c H locs 0 0 (MQ below (gw_QZ G s.heap.size o) [.ref (G.2.1 33), .int a0].toArray s 0 0 (gw_A G s.heap.size)) (F0 m 20 ls []) := by
    intro n K
    induction n with
    | zero =>
      intro v20_1 v20_2 v20_3 v20_4 σ H locs ls h
      exact absurd h (by rw [f_X11_apart_L20.eq_1]; exact fun h => nomatch h)
    | succ n ih =>
      intro v20_1 v20_2 v20_3 v20_4 σ H locs ls h hP hS hl hb_v20_2 hK
      rw [f_X11_apart_L20.eq_2] at h
      refine lv_iload hx hb dX11_apart_20 (lv_at hl 4 rfl) ?_
      refine lv_iload_n hx hb dX11_apart_22 rfl (lv_at hl 3 rfl) ?_
      refine lv_icmp_ge (tgt := 67) hx hb dX11_apart_23 (by decide) (fun c => ?_) (fun c => ?_)
      · have h := (if_pos c).symm.trans h
        exact hK v20_1 v20_2 v20_3 σ _ _ _ h hP hS (lv_sub hl [0, 1, 2, 3] rfl) hb_v20_2
      · have h := (if_neg c).symm.trans h
        refine lv_iload_n hx hb dX11_apart_26 rfl (lv_at hl 2 rfl) ?_
        refine lv_iload_n hx hb dX11_apart_27 rfl (lv_at hl 1 rfl) ?_
        refine lv_iload_n hx hb dX11_apart_28 rfl (lv_at hl 3 rfl) ?_
        obtain ⟨p2, gp2, h⟩ := Option.bind_eq_some_iff.mp h
        refine gw_cz (gw_rS X hP hS (gc_X11_has l G v20_1 v20_3 σ _ gp2) gk_X11_has gv_1341 gv_1342 rfl rfl (Nat.le_of_ble_eq_true rfl) hl.1 ⟨rfl, rfl⟩ ⟨Nat.le_of_ble_eq_true rfl, Nat.le_of_ble_eq_true rfl⟩ ⟨Nat.le_of_ble_eq_true rfl, Nat.le_of_ble_eq_true rfl⟩ dX11_apart_29) hS (fun H locs hb_p2 hP hS => ?_)
        refine lv_if_eq (tgt := 54) hx hb dX11_apart_32 (by decide) (fun c => ?_) (fun c => ?_)
        · have h := (if_pos c).symm.trans h
          refine lv_iconst (v := 1) hx hb dX11_apart_54 (by decide) ?_
          refine lv_goto (tgt := 59) hx hb dX11_apart_55 (by decide) ?_
          refine lv_iand hx hb dX11_apart_59 ?_
          refine lv_istore_n (lv' := [(2, .int (v20_2 &&& (1 : Int32))), (0, .ref (G.2.1 33)), (1, .int v20_1), (3, .int v20_3), (4, .int v20_4)]) hx hb dX11_apart_60 rfl hl (by decide) rfl (fun ls hl => ?_)
          refine lv_iinc (v := (v20_4 + (1 : Int32))) (lv' := [(4, .int (v20_4 + (1 : Int32))), (2, .int (v20_2 &&& (1 : Int32))), (0, .ref (G.2.1 33)), (1, .int v20_1), (3, .int v20_3)]) hx hb dX11_apart_61 hl (k := 4) rfl rfl (by decide) rfl (fun ls hl => ?_)
          refine lv_goto (tgt := 20) hx hb dX11_apart_64 (by decide) ?_
          exact ih v20_1 (v20_2 &&& (1 : Int32)) v20_3 (v20_4 + (1 : Int32)) p2.2 _ _ _ h hP hS (lv_sub hl [2, 3, 1, 4, 0] rfl) (gw_band hb_v20_2 rfl) hK
        · have h := (if_neg c).symm.trans h
          refine lv_iload_n hx hb dX11_apart_35 rfl (lv_at hl 1 rfl) ?_
          refine lv_iload hx hb dX11_apart_36 (lv_at hl 4 rfl) ?_
          obtain ⟨p3, gp3, h⟩ := Option.bind_eq_some_iff.mp h
          refine gw_cz (gw_rS X hP hS (gc_X11_has l G v20_1 v20_4 p2.2 _ gp3) gk_X11_has gv_1341 gv_1342 rfl rfl (Nat.le_of_ble_eq_true rfl) hl.1 ⟨rfl, rfl⟩ ⟨Nat.le_of_ble_eq_true rfl, Nat.le_of_ble_eq_true rfl⟩ ⟨Nat.le_of_ble_eq_true rfl, Nat.le_of_ble_eq_true rfl⟩ dX11_apart_38) hS (fun H locs hb_p3 hP hS => ?_)
          refine lv_if_eq (tgt := 54) hx hb dX11_apart_41 (by decide) (fun c => ?_) (fun c => ?_)
          · have h := (if_pos c).symm.trans h
            refine lv_iconst (v := 1) hx hb dX11_apart_54 (by decide) ?_
            refine lv_goto (tgt := 59) hx hb dX11_apart_55 (by decide) ?_
            refine lv_iand hx hb dX11_apart_59 ?_
            refine lv_istore_n (lv' := [(2, .int (v20_2 &&& (1 : Int32))), (0, .ref (G.2.1 33)), (1, .int v20_1), (3, .int v20_3), (4, .int v20_4)]) hx hb dX11_apart_60 rfl hl (by decide) rfl (fun ls hl => ?_)
            refine lv_iinc (v := (v20_4 + (1 : Int32))) (lv' := [(4, .int (v20_4 + (1 : Int32))), (2, .int (v20_2 &&& (1 : Int32))), (0, .ref (G.2.1 33)), (1, .int v20_1), (3, .int v20_3)]) hx hb dX11_apart_61 hl (k := 4) rfl rfl (by decide) rfl (fun ls hl => ?_)
            refine lv_goto (tgt := 20) hx hb dX11_apart_64 (by decide) ?_
            exact ih v20_1 (v20_2 &&& (1 : Int32)) v20_3 (v20_4 + (1 : Int32)) p3.2 _ _ _ h hP hS (lv_sub hl [2, 3, 1, 4, 0] rfl) (gw_band hb_v20_2 rfl) hK
          · have h := (if_neg c).symm.trans h
            refine lv_aload_n hx hb dX11_apart_44 rfl (lv_at hl 0 rfl) ?_
            refine lv_iload_n hx hb dX11_apart_45 rfl (lv_at hl 3 rfl) ?_
            refine lv_iload hx hb dX11_apart_46 (lv_at hl 4 rfl) ?_
            exact absurd h (fun h => nomatch h)
  have L4 : ∀ (n : Nat) (v4_1 : Int32) (v4_2 : Int32) (v4_3 : Int32) (σ : gw_S) (H : Heap) (locs : List Loc) (ls : Array Slot), f_X11_apart_L4 n v4_1 v4_2 v4_3 σ = some o → gw_P G σ H → va_S (gw_A G s.heap.size) s.heap H locs → lv_has ls 5 [(0, .ref (G.2.1 33)), (1, .int v4_1), (2, .int v4_2), (3, .int v4_3)] → gw_b v4_2 → W p l e { frames := 1, cells := 0, slots := 0, locals := 21 } s m [.ref (G.2.1 33), .int a0].toArray below meth c H locs 0 0 (MQ below (gw_QZ G s.heap.size o) [.ref (G.2.1 33), .int a0].toArray s 0 0 (gw_A G s.heap.size)) (F0 m 4 ls []) := by
    intro n
    induction n with
    | zero =>
      intro v4_1 v4_2 v4_3 σ H locs ls h
      exact absurd h (by rw [f_X11_apart_L4.eq_1]; exact fun h => nomatch h)
    | succ n ih =>
      intro v4_1 v4_2 v4_3 σ H locs ls h hP hS hl hb_v4_2
      rw [f_X11_apart_L4.eq_2] at h
      refine lv_iload_n hx hb dX11_apart_4 rfl (lv_at hl 3 rfl) ?_
      refine lv_aload_n hx hb dX11_apart_5 rfl (lv_at hl 0 rfl) ?_
      refine va_get (D := G.1) (ci := 13) (v := .ref (G.2.1 34)) (C := RX11) (T := TX11) (N := 5) hx hb hts gx_X11 hown hT.2.1 hP 33 rfl rfl 0 (by decide) (hts _ gv_1175) (fun _ h9 => h9) rfl dX11_apart_6 ?_
      obtain ⟨p1, gp1, h⟩ := Option.bind_eq_some_iff.mp h
      refine gw_fi (gw_rF (x := ⟨"java/util/List", "size", "()I"⟩) (C := RJx4a65c) X (hT.2.1.1 2 _ rfl).2 hP hS (gc_Jx4a65c_size_8abf5_34 l G σ _ gp1) gk_Jx4a65c_size_8abf5 ⟨by decide +kernel, by decide +kernel⟩ gv_1200 ⟨gv_1204, gv_1206⟩ 0 rfl (va_recv hT.2.1 hP (ci := 2) (q0 := 34) rfl rfl) rfl rfl (Nat.le_of_ble_eq_true rfl) hl.1 ⟨rfl, rfl⟩ ⟨Nat.le_of_ble_eq_true rfl, Nat.le_of_ble_eq_true rfl⟩ ⟨Nat.le_of_ble_eq_true rfl, Nat.le_of_ble_eq_true rfl⟩ dX11_apart_9) hS (fun H locs hP hS => ?_)
      refine lv_icmp_ge (tgt := 73) hx hb dX11_apart_14 (by decide) (fun c => ?_) (fun c => ?_)
      · have h := (if_pos c).symm.trans h
        refine lv_iload_n hx hb dX11_apart_73 rfl (lv_at hl 2 rfl) ?_
        exact gw_rz X hP hS hb_v4_2 h dX11_apart_74
      · have h := (if_neg c).symm.trans h
        refine lv_iconst (v := 0) hx hb dX11_apart_17 (by decide) ?_
        refine lv_istore (lv' := [(4, .int (0 : Int32)), (0, .ref (G.2.1 33)), (1, .int v4_1), (2, .int v4_2), (3, .int v4_3)]) hx hb dX11_apart_18 hl (by decide) rfl (fun ls hl => ?_)
        refine L20 64 _ v4_1 v4_2 v4_3 (0 : Int32) p1.2 _ _ _ h hP hS (lv_sub hl [1, 2, 3, 4, 0] rfl) hb_v4_2 (fun w20_1 w20_2 w20_3 σ20 H locs ls h hP hS hl hb_w20_2 => ?_)
        refine lv_iinc (v := (w20_3 + (1 : Int32))) (lv' := [(3, .int (w20_3 + (1 : Int32))), (0, .ref (G.2.1 33)), (1, .int w20_1), (2, .int w20_2)]) hx hb dX11_apart_67 hl (k := 3) rfl rfl (by decide) rfl (fun ls hl => ?_)
        refine lv_goto (tgt := 4) hx hb dX11_apart_70 (by decide) ?_
        exact ih w20_1 w20_2 (w20_3 + (1 : Int32)) σ20 _ _ _ h hP hS (lv_sub hl [1, 2, 3, 0] rfl) hb_w20_2
  unfold f_X11_apart at h
  refine lv_iconst (v := 1) hx hb dX11_apart_0 (by decide) ?_
  refine lv_istore_n (lv' := [(2, .int (1 : Int32)), (0, .ref (G.2.1 33)), (1, .int a0)]) hx hb dX11_apart_1 rfl hl (by decide) rfl (fun ls hl => ?_)
  refine lv_iconst (v := 0) hx hb dX11_apart_2 (by decide) ?_
  refine lv_istore_n (lv' := [(3, .int (0 : Int32)), (2, .int (1 : Int32)), (0, .ref (G.2.1 33)), (1, .int a0)]) hx hb dX11_apart_3 rfl hl (by decide) rfl (fun ls hl => ?_)
  exact L4 64 a0 (1 : Int32) (0 : Int32) σ _ _ _ h hP hS (lv_sub hl [2, 3, 1, 0] rfl) rfl
