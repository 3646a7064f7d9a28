/-- what a case of the law comes to, on a new object -/
def lz_T (l : Launch) (pc : Nat) : Prop := ∀ {p : Program} {e : Env} {s : State} {m : MethodId} {below : List Frame} {meth : Method} {c : Code} {H : Heap} {b : Nat} {xs : Nat → Int32} {G : gw_G} {cL cD : ClassId} {ho hd : Nat} {ls : Array Slot}, lc_C p s m meth c b 5 xs G cL cD ho hd → lm_Y (G.2.1 99) (fun q => s.heap.size ≤ q) s s.heap → gw_P G lo_z H → va_P G.1 vwCl [(ho, .inl (cL, 1, .inr (.inl (fun _ => 0))))] H → va_P G.1 vwCl [(hd, .inl (cD, 1, .inr (.inr (.inr (.inl (fun _ => 0))))))] H → va_S (fun q => s.heap.size ≤ q) s.heap H [] → lv_has ls 9 [(5, .int 0), (4, .ref hd), (3, .ref ho), (2, .ref (G.2.1 33)), (1, .ref (G.2.1 0)), (0, .ref b)] → W p l e room_1 s m #[Value.ref b] below meth c H [] 40 1183 (lw_Z below #[Value.ref b] s) (F0 m pc ls [])
set_option maxHeartbeats 8000000 in
set_option maxRecDepth 100000 in
theorem st_five {p : Program} {e : Env} {s : State} {m : MethodId} {below : List Frame} {meth : Method} {c : Code} (l : Launch) (hflags : l.flags = flags0) {b L : Nat} {xs : Nat → Int32} (hL : L ≤ 5) (h14 : lz_T l 903) (h25 : lz_T l 1665) (C0 : lw_At p s m meth c b L xs) : W p l e room_1 s m #[Value.ref b] below meth c s.heap [] 0 0 (lw_Z below #[Value.ref b] s) (entryFrame m ([Value.ref b] : List Value).toArray 9) := by
  have hfl : l.stackTraces = false := by unfold Launch.stackTraces; rw [hflags]; decide +kernel
  refine st_walk l C0 (fun G cL cD ho hd H ls K hY hP hPo hPd hS hl => ?_)
  obtain ⟨X, hr, hlocks, hX, hbl, -⟩ := id K
  obtain ⟨hx, hb, -⟩ := X
  refine lv_iload hx hb dL_law_28 (lv_at hl 0 rfl) ?_
  refine lv_aload_n hx hb dL_law_30 rfl (lv_at hl 5 rfl) ?_
  refine va_slen hx hb hX hbl (Nat.not_le.mpr hbl) hS dL_law_31 ?_
  refine lv_iconst (v := 5) hx hb dL_law_32 (by decide) ?_
  refine lv_isub hx hb dL_law_33 ?_
  have hcase : L = 5 ∨ L = 0 ∨ L = 1 ∨ L = 2 ∨ L = 3 ∨ L = 4 := by omega
  refine lv_icmp_gt (tgt := 2743) hx hb dL_law_34 (by decide) (fun _ => ?_) (fun hgt => ?_)
  · refine lv_iconst (v := 1) hx hb dL_law_2743 (by decide) ?_
    exact W.widen (Nat.le_of_ble_eq_true rfl) (Nat.le_of_ble_eq_true rfl) (lw_ret (d0 := s.drawn) (Drawn.sameBut.refl s.drawn lw_cs) hx hb hr hlocks dL_law_2744)
  · have h5 : L = 5 := by rcases hcase with h | rfl | rfl | rfl | rfl | rfl <;> first | exact h | exact absurd (by decide) hgt
    subst h5
    refine lv_aload_n hx hb dL_law_37 rfl (lv_at hl 5 rfl) ?_
    refine lv_iload hx hb dL_law_38 (lv_at hl 0 rfl) ?_
    refine lc_sld K hS (j := 0) (by decide) (by unfold vp_in; decide) dL_law_40 ?_
    refine lv_bipush (v := 63) hx hb dL_law_41 (by decide) ?_
    refine lv_iand hx hb dL_law_43 ?_
    generalize xs 0 &&& 63 = v
    by_cases h1 : v.toInt < 0
    · refine lv_tableOut (tgt := 2737) hx hb dL_law_44 (Or.inl h1) (by decide) ?_
      exact lc_end K rfl hS (lv_sub hl [0, 5] rfl) (Nat.le_of_ble_eq_true rfl) (Nat.le_of_ble_eq_true rfl)
    by_cases h2 : 42 < v.toInt
    · refine lv_tableOut (tgt := 2737) hx hb dL_law_44 (Or.inr h2) (by decide) ?_
      exact lc_end K rfl hS (lv_sub hl [0, 5] rfl) (Nat.le_of_ble_eq_true rfl) (Nat.le_of_ble_eq_true rfl)
    have h3 : v.toInt = 0 ∨ v.toInt = 1 ∨ v.toInt = 2 ∨ v.toInt = 3 ∨ v.toInt = 4 ∨ v.toInt = 5 ∨ v.toInt = 6 ∨ v.toInt = 7 ∨ v.toInt = 8 ∨ v.toInt = 9 ∨ v.toInt = 10 ∨ v.toInt = 11 ∨ v.toInt = 12 ∨ v.toInt = 13 ∨ v.toInt = 14 ∨ v.toInt = 15 ∨ v.toInt = 16 ∨ v.toInt = 17 ∨ v.toInt = 18 ∨ v.toInt = 19 ∨ v.toInt = 20 ∨ v.toInt = 21 ∨ v.toInt = 22 ∨ v.toInt = 23 ∨ v.toInt = 24 ∨ v.toInt = 25 ∨ v.toInt = 26 ∨ v.toInt = 27 ∨ v.toInt = 28 ∨ v.toInt = 29 ∨ v.toInt = 30 ∨ v.toInt = 31 ∨ v.toInt = 32 ∨ v.toInt = 33 ∨ v.toInt = 34 ∨ v.toInt = 35 ∨ v.toInt = 36 ∨ v.toInt = 37 ∨ v.toInt = 38 ∨ v.toInt = 39 ∨ v.toInt = 40 ∨ v.toInt = 41 ∨ v.toInt = 42 := by omega
    rcases h3 with h | h | h | h | h | h | h | h | h | h | h | h | h | h | h | h | h | h | h | h | h | h | h | h | h | h | h | h | h | h | h | h | h | h | h | h | h | h | h | h | h | h | h
    · refine lv_tableIn (off := 188) (tgt := 232) hx hb dL_law_44 h1 h2 (by rw [h]; rfl) (by decide) ?_
      exact lz_0 l hfl K hY hP hPo hS hl
    · refine lv_tableIn (off := 232) (tgt := 276) hx hb dL_law_44 h1 h2 (by rw [h]; rfl) (by decide) ?_
      exact lz_1 l hfl K hP hPo hPd hS hl
    · refine lv_tableIn (off := 300) (tgt := 344) hx hb dL_law_44 h1 h2 (by rw [h]; rfl) (by decide) ?_
      exact lz_2 l hfl K hP hPo hPd hS hl
    · refine lv_tableIn (off := 375) (tgt := 419) hx hb dL_law_44 h1 h2 (by rw [h]; rfl) (by decide) ?_
      exact lz_3 l hfl K hP hPo hPd hS hl
    · refine lv_tableIn (off := 450) (tgt := 494) hx hb dL_law_44 h1 h2 (by rw [h]; rfl) (by decide) ?_
      exact lz_4 l hfl K hP hPo hPd hS hl
    · refine lv_tableIn (off := 463) (tgt := 507) hx hb dL_law_44 h1 h2 (by rw [h]; rfl) (by decide) ?_
      exact lz_5 l hfl K hP hPo hPd hS hl
    · refine lv_tableIn (off := 526) (tgt := 570) hx hb dL_law_44 h1 h2 (by rw [h]; rfl) (by decide) ?_
      exact lz_6 l hfl K hP hPo hPd hS hl
    · refine lv_tableIn (off := 539) (tgt := 583) hx hb dL_law_44 h1 h2 (by rw [h]; rfl) (by decide) ?_
      exact lz_7 l hfl K hY hP hPo hS hl
    · refine lv_tableIn (off := 602) (tgt := 646) hx hb dL_law_44 h1 h2 (by rw [h]; rfl) (by decide) ?_
      exact lz_8 l hfl K hP hPo hPd hS hl
    · refine lv_tableIn (off := 665) (tgt := 709) hx hb dL_law_44 h1 h2 (by rw [h]; rfl) (by decide) ?_
      exact lz_9 l hfl K hP hPo hPd hS hl
    · refine lv_tableIn (off := 678) (tgt := 722) hx hb dL_law_44 h1 h2 (by rw [h]; rfl) (by decide) ?_
      exact lz_10 l hfl K hP hPo hPd hS hl
    · refine lv_tableIn (off := 691) (tgt := 735) hx hb dL_law_44 h1 h2 (by rw [h]; rfl) (by decide) ?_
      exact lz_11 l hfl K hP hPo hPd hS hl
    · refine lv_tableIn (off := 747) (tgt := 791) hx hb dL_law_44 h1 h2 (by rw [h]; rfl) (by decide) ?_
      exact lz_12 l hfl K hP hPo hPd hS hl
    · refine lv_tableIn (off := 803) (tgt := 847) hx hb dL_law_44 h1 h2 (by rw [h]; rfl) (by decide) ?_
      exact lz_13 l hfl K hP hPo hPd hS hl
    · refine lv_tableIn (off := 859) (tgt := 903) hx hb dL_law_44 h1 h2 (by rw [h]; rfl) (by decide) ?_
      exact h14 K hY hP hPo hPd hS hl
    · refine lv_tableIn (off := 903) (tgt := 947) hx hb dL_law_44 h1 h2 (by rw [h]; rfl) (by decide) ?_
      exact lz_15 l hfl K hP hPo hPd hS hl
    · refine lv_tableIn (off := 983) (tgt := 1027) hx hb dL_law_44 h1 h2 (by rw [h]; rfl) (by decide) ?_
      exact lz_16 l hfl K hP hPo hPd hS hl
    · refine lv_tableIn (off := 1039) (tgt := 1083) hx hb dL_law_44 h1 h2 (by rw [h]; rfl) (by decide) ?_
      exact lz_17 l hfl K hP hPo hPd hS hl
    · refine lv_tableIn (off := 1095) (tgt := 1139) hx hb dL_law_44 h1 h2 (by rw [h]; rfl) (by decide) ?_
      exact lz_18 l hfl K hP hPo hPd hS hl
    · refine lv_tableIn (off := 1151) (tgt := 1195) hx hb dL_law_44 h1 h2 (by rw [h]; rfl) (by decide) ?_
      exact lz_19 l hfl K hP hPo hPd hS hl
    · refine lv_tableIn (off := 1219) (tgt := 1263) hx hb dL_law_44 h1 h2 (by rw [h]; rfl) (by decide) ?_
      exact lz_20 l hfl K hP hPo hPd hS hl
    · refine lv_tableIn (off := 1287) (tgt := 1331) hx hb dL_law_44 h1 h2 (by rw [h]; rfl) (by decide) ?_
      exact lz_21 l hfl K hP hPo hPd hS hl
    · refine lv_tableIn (off := 1355) (tgt := 1399) hx hb dL_law_44 h1 h2 (by rw [h]; rfl) (by decide) ?_
      exact lz_22 l hfl K hP hPo hPd hS hl
    · refine lv_tableIn (off := 1442) (tgt := 1486) hx hb dL_law_44 h1 h2 (by rw [h]; rfl) (by decide) ?_
      exact lz_23 l hfl K hP hPo hPd hS hl
    · refine lv_tableIn (off := 1529) (tgt := 1573) hx hb dL_law_44 h1 h2 (by rw [h]; rfl) (by decide) ?_
      exact lz_24 l hfl K hP hPo hPd hS hl
    · refine lv_tableIn (off := 1621) (tgt := 1665) hx hb dL_law_44 h1 h2 (by rw [h]; rfl) (by decide) ?_
      exact h25 K hY hP hPo hPd hS hl
    · refine lv_tableIn (off := 1703) (tgt := 1747) hx hb dL_law_44 h1 h2 (by rw [h]; rfl) (by decide) ?_
      exact lz_26 l hfl K hP hPo hPd hS hl
    · refine lv_tableIn (off := 1785) (tgt := 1829) hx hb dL_law_44 h1 h2 (by rw [h]; rfl) (by decide) ?_
      exact lz_27 l hfl K hP hPo hPd hS hl
    · refine lv_tableIn (off := 1841) (tgt := 1885) hx hb dL_law_44 h1 h2 (by rw [h]; rfl) (by decide) ?_
      exact lz_28 l hfl K hP hPo hPd hS hl
    · refine lv_tableIn (off := 1935) (tgt := 1979) hx hb dL_law_44 h1 h2 (by rw [h]; rfl) (by decide) ?_
      exact lz_29 l hfl K hP hPo hPd hS hl
    · refine lv_tableIn (off := 1991) (tgt := 2035) hx hb dL_law_44 h1 h2 (by rw [h]; rfl) (by decide) ?_
      exact lz_30 l hfl K hP hPo hPd hS hl
    · refine lv_tableIn (off := 2047) (tgt := 2091) hx hb dL_law_44 h1 h2 (by rw [h]; rfl) (by decide) ?_
      exact lz_31 l hfl K hP hPo hPd hS hl
    · refine lv_tableIn (off := 2122) (tgt := 2166) hx hb dL_law_44 h1 h2 (by rw [h]; rfl) (by decide) ?_
      exact lz_32 l hfl K hP hPo hPd hS hl
    · refine lv_tableIn (off := 2197) (tgt := 2241) hx hb dL_law_44 h1 h2 (by rw [h]; rfl) (by decide) ?_
      exact lz_33 l hfl K hP hPo hPd hS hl
    · refine lv_tableIn (off := 2272) (tgt := 2316) hx hb dL_law_44 h1 h2 (by rw [h]; rfl) (by decide) ?_
      exact lz_34 l hfl K hP hPo hPd hS hl
    · refine lv_tableIn (off := 2328) (tgt := 2372) hx hb dL_law_44 h1 h2 (by rw [h]; rfl) (by decide) ?_
      exact lz_35 l hfl K hP hPo hPd hS hl
    · refine lv_tableIn (off := 2403) (tgt := 2447) hx hb dL_law_44 h1 h2 (by rw [h]; rfl) (by decide) ?_
      exact lz_36 l hfl K hP hPo hPd hS hl
    · refine lv_tableIn (off := 2459) (tgt := 2503) hx hb dL_law_44 h1 h2 (by rw [h]; rfl) (by decide) ?_
      exact lz_37 l hfl K hP hPo hPd hS hl
    · refine lv_tableIn (off := 2522) (tgt := 2566) hx hb dL_law_44 h1 h2 (by rw [h]; rfl) (by decide) ?_
      exact lz_38 l hfl K hP hPo hPd hS hl
    · refine lv_tableIn (off := 2535) (tgt := 2579) hx hb dL_law_44 h1 h2 (by rw [h]; rfl) (by decide) ?_
      exact lz_39 l hfl K hY hP hPo hS hl
    · refine lv_tableIn (off := 2549) (tgt := 2593) hx hb dL_law_44 h1 h2 (by rw [h]; rfl) (by decide) ?_
      exact lz_40 l hfl K hP hPo hPd hS hl
    · refine lv_tableIn (off := 2615) (tgt := 2659) hx hb dL_law_44 h1 h2 (by rw [h]; rfl) (by decide) ?_
      exact lz_41 l hfl K hP hPo hPd hS hl
    · refine lv_tableIn (off := 2680) (tgt := 2724) hx hb dL_law_44 h1 h2 (by rw [h]; rfl) (by decide) ?_
      exact lz_42 l hfl K hP hPo hPd hS hl
