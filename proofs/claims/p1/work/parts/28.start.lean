/-! What the start gives: classes, texts, statics. -/
section ST
variable {s : State} {b : Nat}
theorem st_flat (hgv : (Jvm.Cond.and given_1 narrow_1).before #[Value.ref b] s = true) (i : Nat) {w : Cond} (h : (flatC (Jvm.Cond.and given_1 narrow_1))[i]? = some w) : w.before #[Value.ref b] s = true := flat_of_before _ hgv _ (List.mem_of_getElem? h)
theorem st_tab (hts : ∀ w ∈ lw_tbl, w.before #[Value.ref b] s = true) (i : Nat) {w : Cond} (h : tables_1[i]? = some w) : w.before #[Value.ref b] s = true := hts w (List.mem_append_right _ (List.mem_of_getElem? h))
theorem st_x (hts : ∀ w ∈ lw_tbl, w.before #[Value.ref b] s = true) : ∀ w ∈ gw_x, w.before #[Value.ref b] s = true := by
  unfold gw_x
  refine List.forall_mem_cons.mpr ⟨gw_selp (C := RX4) (C0 := RX4) (y := yX5_refresh) (n := 7) (x0 := yX5_judge) (y0 := yX5_judge) ⟨by decide +kernel, by decide +kernel⟩ (st_tab hts 341 (by decide +kernel)) rfl (st_tab hts 128 (by decide +kernel)) (st_tab hts 345 (by decide +kernel)) (st_tab hts 346 (by decide +kernel)), ?_⟩
  refine List.forall_mem_cons.mpr ⟨gw_selp (C := RX4) (C0 := RX4) (y := yX5_partly) (n := 7) (x0 := yX5_judge) (y0 := yX5_judge) ⟨by decide +kernel, by decide +kernel⟩ (st_tab hts 341 (by decide +kernel)) rfl (st_tab hts 128 (by decide +kernel)) (st_tab hts 361 (by decide +kernel)) (st_tab hts 362 (by decide +kernel)), ?_⟩
  refine List.forall_mem_cons.mpr ⟨gw_selp (C := RX4) (C0 := RX4) (y := yX5_contained) (n := 7) (x0 := yX5_judge) (y0 := yX5_judge) ⟨by decide +kernel, by decide +kernel⟩ (st_tab hts 341 (by decide +kernel)) rfl (st_tab hts 128 (by decide +kernel)) (st_tab hts 406 (by decide +kernel)) (st_tab hts 407 (by decide +kernel)), ?_⟩
  refine List.forall_mem_cons.mpr ⟨gw_selp (C := RX4) (C0 := RX4) (y := yX5_named) (n := 7) (x0 := yX5_judge) (y0 := yX5_judge) ⟨by decide +kernel, by decide +kernel⟩ (st_tab hts 341 (by decide +kernel)) rfl (st_tab hts 128 (by decide +kernel)) (st_tab hts 456 (by decide +kernel)) (st_tab hts 457 (by decide +kernel)), ?_⟩
  refine List.forall_mem_cons.mpr ⟨gw_selp (C := RX4) (C0 := RX4) (y := yX5_judged) (n := 7) (x0 := yX5_judge) (y0 := yX5_judge) ⟨by decide +kernel, by decide +kernel⟩ (st_tab hts 341 (by decide +kernel)) rfl (st_tab hts 128 (by decide +kernel)) (st_tab hts 436 (by decide +kernel)) (st_tab hts 437 (by decide +kernel)), ?_⟩
  refine List.forall_mem_cons.mpr ⟨gw_selp (C := RX4) (C0 := RX4) (y := yX5_judgedBound) (n := 7) (x0 := yX5_judge) (y0 := yX5_judge) ⟨by decide +kernel, by decide +kernel⟩ (st_tab hts 341 (by decide +kernel)) rfl (st_tab hts 128 (by decide +kernel)) (st_tab hts 474 (by decide +kernel)) (st_tab hts 475 (by decide +kernel)), ?_⟩
  refine List.forall_mem_cons.mpr ⟨gw_selp (C := RX0) (C0 := RX0) (y := yX5_refresh) (n := 7) (x0 := yX5_judge) (y0 := yX5_judge) ⟨by decide +kernel, by decide +kernel⟩ (st_tab hts 340 (by decide +kernel)) rfl (st_tab hts 165 (by decide +kernel)) (st_tab hts 345 (by decide +kernel)) (st_tab hts 346 (by decide +kernel)), ?_⟩
  refine List.forall_mem_cons.mpr ⟨gw_selp (C := RX0) (C0 := RX0) (y := yX5_partly) (n := 7) (x0 := yX5_judge) (y0 := yX5_judge) ⟨by decide +kernel, by decide +kernel⟩ (st_tab hts 340 (by decide +kernel)) rfl (st_tab hts 165 (by decide +kernel)) (st_tab hts 361 (by decide +kernel)) (st_tab hts 362 (by decide +kernel)), ?_⟩
  refine List.forall_mem_cons.mpr ⟨gw_selp (C := RX0) (C0 := RX0) (y := yX5_contained) (n := 7) (x0 := yX5_judge) (y0 := yX5_judge) ⟨by decide +kernel, by decide +kernel⟩ (st_tab hts 340 (by decide +kernel)) rfl (st_tab hts 165 (by decide +kernel)) (st_tab hts 406 (by decide +kernel)) (st_tab hts 407 (by decide +kernel)), ?_⟩
  refine List.forall_mem_cons.mpr ⟨gw_selp (C := RX0) (C0 := RX0) (y := yX5_named) (n := 7) (x0 := yX5_judge) (y0 := yX5_judge) ⟨by decide +kernel, by decide +kernel⟩ (st_tab hts 340 (by decide +kernel)) rfl (st_tab hts 165 (by decide +kernel)) (st_tab hts 456 (by decide +kernel)) (st_tab hts 457 (by decide +kernel)), ?_⟩
  refine List.forall_mem_cons.mpr ⟨gw_selp (C := RX0) (C0 := RX0) (y := yX5_judged) (n := 7) (x0 := yX5_judge) (y0 := yX5_judge) ⟨by decide +kernel, by decide +kernel⟩ (st_tab hts 340 (by decide +kernel)) rfl (st_tab hts 165 (by decide +kernel)) (st_tab hts 436 (by decide +kernel)) (st_tab hts 437 (by decide +kernel)), ?_⟩
  refine List.forall_mem_cons.mpr ⟨gw_selp (C := RX0) (C0 := RX0) (y := yX5_judgedBound) (n := 7) (x0 := yX5_judge) (y0 := yX5_judge) ⟨by decide +kernel, by decide +kernel⟩ (st_tab hts 340 (by decide +kernel)) rfl (st_tab hts 165 (by decide +kernel)) (st_tab hts 474 (by decide +kernel)) (st_tab hts 475 (by decide +kernel)), ?_⟩
  refine List.forall_mem_cons.mpr ⟨gw_selp (C := RX6) (C0 := RX6) (y := yX5_refresh) (n := 7) (x0 := yX5_judge) (y0 := yX5_judge) ⟨by decide +kernel, by decide +kernel⟩ (st_tab hts 342 (by decide +kernel)) rfl (st_tab hts 182 (by decide +kernel)) (st_tab hts 345 (by decide +kernel)) (st_tab hts 346 (by decide +kernel)), ?_⟩
  refine List.forall_mem_cons.mpr ⟨gw_selp (C := RX6) (C0 := RX6) (y := yX5_partly) (n := 7) (x0 := yX5_judge) (y0 := yX5_judge) ⟨by decide +kernel, by decide +kernel⟩ (st_tab hts 342 (by decide +kernel)) rfl (st_tab hts 182 (by decide +kernel)) (st_tab hts 361 (by decide +kernel)) (st_tab hts 362 (by decide +kernel)), ?_⟩
  refine List.forall_mem_cons.mpr ⟨gw_selp (C := RX6) (C0 := RX6) (y := yX5_contained) (n := 7) (x0 := yX5_judge) (y0 := yX5_judge) ⟨by decide +kernel, by decide +kernel⟩ (st_tab hts 342 (by decide +kernel)) rfl (st_tab hts 182 (by decide +kernel)) (st_tab hts 406 (by decide +kernel)) (st_tab hts 407 (by decide +kernel)), ?_⟩
  refine List.forall_mem_cons.mpr ⟨gw_selp (C := RX6) (C0 := RX6) (y := yX5_named) (n := 7) (x0 := yX5_judge) (y0 := yX5_judge) ⟨by decide +kernel, by decide +kernel⟩ (st_tab hts 342 (by decide +kernel)) rfl (st_tab hts 182 (by decide +kernel)) (st_tab hts 456 (by decide +kernel)) (st_tab hts 457 (by decide +kernel)), ?_⟩
  refine List.forall_mem_cons.mpr ⟨gw_selp (C := RX6) (C0 := RX6) (y := yX5_judged) (n := 7) (x0 := yX5_judge) (y0 := yX5_judge) ⟨by decide +kernel, by decide +kernel⟩ (st_tab hts 342 (by decide +kernel)) rfl (st_tab hts 182 (by decide +kernel)) (st_tab hts 436 (by decide +kernel)) (st_tab hts 437 (by decide +kernel)), ?_⟩
  refine List.forall_mem_cons.mpr ⟨gw_selp (C := RX6) (C0 := RX6) (y := yX5_judgedBound) (n := 7) (x0 := yX5_judge) (y0 := yX5_judge) ⟨by decide +kernel, by decide +kernel⟩ (st_tab hts 342 (by decide +kernel)) rfl (st_tab hts 182 (by decide +kernel)) (st_tab hts 474 (by decide +kernel)) (st_tab hts 475 (by decide +kernel)), ?_⟩
  exact fun _ h => nomatch h
theorem st_L (hts : ∀ w ∈ lw_tbl, w.before #[Value.ref b] s = true) : ∀ w ∈ gw_L, w.before #[Value.ref b] s = true := fun w hw => (List.mem_append.mp (List.mem_filter.mp hw).1).elim (st_x hts w) (hts w)
theorem gx_J6 : ∀ w ∈ u_ws RJ6 TJ6 1, w ∈ gw_L := gw_pl [1230] (by decide +kernel) (by decide +kernel)
theorem st_K (hts : ∀ w ∈ lw_tbl, w.before #[Value.ref b] s = true) : ∃ (dC : Nat → ClassId) (dI : Nat → Nat → Nat), ∀ (k : Nat) (q : vw_C), vwCl[k]? = some q → u_Kn s q.1 q.2.1 q.2.2 (dC k) (dI k) := by
  have hw := st_L hts
  obtain ⟨c0, i0, k0⟩ := u_known (C := RJ6) (T := TJ6) (N := 1) (n := 1) hw gx_J6 (st_tab hts 1221 (by decide +kernel))
  obtain ⟨c1, i1, k1⟩ := u_known (C := RJx35411) (T := TJx35411) (N := 4) (n := 4) hw gx_Jx35411 (st_tab hts 1363 (by decide +kernel))
  obtain ⟨c2, i2, k2⟩ := u_known (C := RJx4a65c) (T := TJx4a65c) (N := 3) (n := 3) hw gx_Jx4a65c (st_tab hts 1147 (by decide +kernel))
  obtain ⟨c3, i3, k3⟩ := u_known (C := RX0) (T := TX0) (N := 7) (n := 7) hw gx_X0 (st_tab hts 165 (by decide +kernel))
  obtain ⟨c4, i4, k4⟩ := u_known (C := RX1) (T := TX1) (N := 7) (n := 7) hw gx_X1 (st_tab hts 100 (by decide +kernel))
  obtain ⟨c5, i5, k5⟩ := u_known (C := RX2) (T := TX2) (N := 9) (n := 9) hw gx_X2 (st_tab hts 66 (by decide +kernel))
  obtain ⟨c6, i6, k6⟩ := u_known (C := RX3) (T := TX3) (N := 5) (n := 5) hw gx_X3 (st_tab hts 43 (by decide +kernel))
  obtain ⟨c7, i7, k7⟩ := u_known (C := RX4) (T := TX4) (N := 7) (n := 7) hw gx_X4 (st_tab hts 128 (by decide +kernel))
  obtain ⟨c8, i8, k8⟩ := u_known (C := RX6) (T := TX6) (N := 7) (n := 7) hw gx_X6 (st_tab hts 182 (by decide +kernel))
  obtain ⟨c9, i9, k9⟩ := u_known (C := RX7) (T := TX7) (N := 5) (n := 5) hw gx_X7 (st_tab hts 193 (by decide +kernel))
  obtain ⟨c10, i10, k10⟩ := u_known (C := RX8) (T := TX8) (N := 7) (n := 7) hw gx_X8 (st_tab hts 35 (by decide +kernel))
  obtain ⟨c11, i11, k11⟩ := u_known (C := RX9) (T := TX9) (N := 6) (n := 6) hw gx_X9 (st_tab hts 1614 (by decide +kernel))
  obtain ⟨c12, i12, k12⟩ := u_known (C := RX10) (T := TX10) (N := 2) (n := 2) hw gx_X10 (st_tab hts 1498 (by decide +kernel))
  obtain ⟨c13, i13, k13⟩ := u_known (C := RX11) (T := TX11) (N := 5) (n := 5) hw gx_X11 (st_tab hts 1141 (by decide +kernel))
  refine ⟨fun k => match k with | 0 => c0 | 1 => c1 | 2 => c2 | 3 => c3 | 4 => c4 | 5 => c5 | 6 => c6 | 7 => c7 | 8 => c8 | 9 => c9 | 10 => c10 | 11 => c11 | 12 => c12 | 13 => c13 | _ => c0, fun k => match k with | 0 => i0 | 1 => i1 | 2 => i2 | 3 => i3 | 4 => i4 | 5 => i5 | 6 => i6 | 7 => i7 | 8 => i8 | 9 => i9 | 10 => i10 | 11 => i11 | 12 => i12 | 13 => i13 | _ => i0, ?_⟩
  intro k q hq
  match k, hq with
  | 0, hq => cases hq; exact k0
  | 1, hq => cases hq; exact k1
  | 2, hq => cases hq; exact k2
  | 3, hq => cases hq; exact k3
  | 4, hq => cases hq; exact k4
  | 5, hq => cases hq; exact k5
  | 6, hq => cases hq; exact k6
  | 7, hq => cases hq; exact k7
  | 8, hq => cases hq; exact k8
  | 9, hq => cases hq; exact k9
  | 10, hq => cases hq; exact k10
  | 11, hq => cases hq; exact k11
  | 12, hq => cases hq; exact k12
  | 13, hq => cases hq; exact k13
  | k + 14, hq => simp [vwCl] at hq
theorem st_ex {t : Term} {cls : String} (h : (Cond.exactly t cls).before #[Value.ref b] s = true) : ∃ a : Nat, t.eval #[Value.ref b] s none [] s = some (.ref a) := by
  obtain ⟨a, _, _, _, h1, -⟩ := Cond.exactly_spec h
  exact ⟨a, h1⟩
theorem st_S (hts : ∀ w ∈ lw_tbl, w.before #[Value.ref b] s = true) (hgv : (Jvm.Cond.and given_1 narrow_1).before #[Value.ref b] s = true) : ∃ sa : Nat → Nat, ∀ (i : Nat) (q : String × Nat × String), gw_str[i]? = some q → vk_R q.1 q.2.1 q.2.2 (sa i) s := by
  obtain ⟨a0, e0⟩ := st_ex (st_flat hgv 106 (w := .exactly (.string "Genericwood" 66) "java/lang/String") (by decide +kernel))
  obtain ⟨a1, e1⟩ := st_ex (st_flat hgv 132 (w := .exactly (.string "Genericwood" 313) "java/lang/String") (by decide +kernel))
  obtain ⟨a2, e2⟩ := st_ex (st_flat hgv 162 (w := .exactly (.string "Genericwood" 84) "java/lang/String") (by decide +kernel))
  obtain ⟨a3, e3⟩ := st_ex (st_flat hgv 196 (w := .exactly (.string "Genericwood" 316) "java/lang/String") (by decide +kernel))
  obtain ⟨a4, e4⟩ := st_ex (st_flat hgv 222 (w := .exactly (.string "Genericwood" 318) "java/lang/String") (by decide +kernel))
  obtain ⟨a5, e5⟩ := st_ex (st_flat hgv 249 (w := .exactly (.string "Genericwood" 323) "java/lang/String") (by decide +kernel))
  obtain ⟨a6, e6⟩ := st_ex (st_flat hgv 286 (w := .exactly (.string "Genericwood" 321) "java/lang/String") (by decide +kernel))
  obtain ⟨a7, e7⟩ := st_ex (st_flat hgv 311 (w := .exactly (.string "Genericwood" 145) "java/lang/String") (by decide +kernel))
  obtain ⟨a8, e8⟩ := st_ex (st_flat hgv 349 (w := .exactly (.string "Genericwood" 159) "java/lang/String") (by decide +kernel))
  obtain ⟨a9, e9⟩ := st_ex (st_flat hgv 382 (w := .exactly (.string "Genericwood" 164) "java/lang/String") (by decide +kernel))
  obtain ⟨a10, e10⟩ := st_ex (st_flat hgv 406 (w := .exactly (.string "Genericwood" 170) "java/lang/String") (by decide +kernel))
  obtain ⟨a11, e11⟩ := st_ex (st_flat hgv 439 (w := .exactly (.string "Genericwood" 178) "java/lang/String") (by decide +kernel))
  obtain ⟨a12, e12⟩ := st_ex (st_flat hgv 469 (w := .exactly (.string "Genericwood" 183) "java/lang/String") (by decide +kernel))
  obtain ⟨a13, e13⟩ := st_ex (st_flat hgv 505 (w := .exactly (.string "Genericwood" 210) "java/lang/String") (by decide +kernel))
  obtain ⟨a14, e14⟩ := st_ex (st_flat hgv 527 (w := .exactly (.string "Genericwood" 216) "java/lang/String") (by decide +kernel))
  obtain ⟨a15, e15⟩ := st_ex (st_flat hgv 571 (w := .exactly (.string "Genericwood" 221) "java/lang/String") (by decide +kernel))
  obtain ⟨a16, e16⟩ := st_ex (st_flat hgv 596 (w := .exactly (.string "Genericwood" 328) "java/lang/String") (by decide +kernel))
  obtain ⟨a17, e17⟩ := st_ex (st_flat hgv 645 (w := .exactly (.string "Genericwood" 337) "java/lang/String") (by decide +kernel))
  obtain ⟨a18, e18⟩ := st_ex (st_flat hgv 670 (w := .exactly (.string "Genericwood" 331) "java/lang/String") (by decide +kernel))
  obtain ⟨a19, e19⟩ := st_ex (st_flat hgv 698 (w := .exactly (.string "Genericwood" 335) "java/lang/String") (by decide +kernel))
  obtain ⟨a20, e20⟩ := st_ex (st_flat hgv 728 (w := .exactly (.string "Genericwood" 252) "java/lang/String") (by decide +kernel))
  obtain ⟨a21, e21⟩ := st_ex (st_flat hgv 755 (w := .exactly (.string "Genericwood" 333) "java/lang/String") (by decide +kernel))
  obtain ⟨a22, e22⟩ := st_ex (st_flat hgv 784 (w := .exactly (.string "Genericwood" 268) "java/lang/String") (by decide +kernel))
  obtain ⟨a23, e23⟩ := st_ex (st_flat hgv 820 (w := .exactly (.string "Genericwood" 281) "java/lang/String") (by decide +kernel))
  obtain ⟨a24, e24⟩ := st_ex (st_flat hgv 855 (w := .exactly (.string "Genericwood" 298) "java/lang/String") (by decide +kernel))
  obtain ⟨a25, e25⟩ := st_ex (st_flat hgv 882 (w := .exactly (.string "Genericwood" 300) "java/lang/String") (by decide +kernel))
  refine ⟨fun k => match k with | 0 => a0 | 1 => a1 | 2 => a2 | 3 => a3 | 4 => a4 | 5 => a5 | 6 => a6 | 7 => a7 | 8 => a8 | 9 => a9 | 10 => a10 | 11 => a11 | 12 => a12 | 13 => a13 | 14 => a14 | 15 => a15 | 16 => a16 | 17 => a17 | 18 => a18 | 19 => a19 | 20 => a20 | 21 => a21 | 22 => a22 | 23 => a23 | 24 => a24 | 25 => a25 | _ => a0, ?_⟩
  intro k q hq
  match k, hq with
  | 0, hq => cases hq; exact vk_R.of (st_tab hts 600 (w := .stringRef "Genericwood" 66 "there are 7 conditions") (by decide +kernel)) e0
  | 1, hq => cases hq; exact vk_R.of (st_tab hts 662 (w := .stringRef "Genericwood" 313 "there is no such condition") (by decide +kernel)) e1
  | 2, hq => cases hq; exact vk_R.of (st_tab hts 678 (w := .stringRef "Genericwood" 84 "one is below the other already") (by decide +kernel)) e2
  | 3, hq => cases hq; exact vk_R.of (st_tab hts 731 (w := .stringRef "Genericwood" 316 "the set has other ones") (by decide +kernel)) e3
  | 4, hq => cases hq; exact vk_R.of (st_tab hts 785 (w := .stringRef "Genericwood" 318 "it is no last condition") (by decide +kernel)) e4
  | 5, hq => cases hq; exact vk_R.of (st_tab hts 797 (w := .stringRef "Genericwood" 323 "there would be more than 12 names") (by decide +kernel)) e5
  | 6, hq => cases hq; exact vk_R.of (st_tab hts 829 (w := .stringRef "Genericwood" 321 "there is no such name") (by decide +kernel)) e6
  | 7, hq => cases hq; exact vk_R.of (st_tab hts 830 (w := .stringRef "Genericwood" 145 "the other name has no lower number") (by decide +kernel)) e7
  | 8, hq => cases hq; exact vk_R.of (st_tab hts 848 (w := .stringRef "Genericwood" 159 "the pair is not for this name") (by decide +kernel)) e8
  | 9, hq => cases hq; exact vk_R.of (st_tab hts 849 (w := .stringRef "Genericwood" 164 "the name has 4 pairs") (by decide +kernel)) e9
  | 10, hq => cases hq; exact vk_R.of (st_tab hts 861 (w := .stringRef "Genericwood" 170 "there is no pair to take away") (by decide +kernel)) e10
  | 11, hq => cases hq; exact vk_R.of (st_tab hts 880 (w := .stringRef "Genericwood" 178 "the code is not in 0 to 15") (by decide +kernel)) e11
  | 12, hq => cases hq; exact vk_R.of (st_tab hts 881 (w := .stringRef "Genericwood" 183 "the condition 0 is not above all") (by decide +kernel)) e12
  | 13, hq => cases hq; exact vk_R.of (st_tab hts 943 (w := .stringRef "Genericwood" 210 "the conditions fit") (by decide +kernel)) e13
  | 14, hq => cases hq; exact vk_R.of (st_tab hts 958 (w := .stringRef "Genericwood" 216 "the mixture would have more than 4 pairs") (by decide +kernel)) e14
  | 15, hq => cases hq; exact vk_R.of (st_tab hts 970 (w := .stringRef "Genericwood" 221 "there is no such kind") (by decide +kernel)) e15
  | 16, hq => cases hq; exact vk_R.of (st_tab hts 976 (w := .stringRef "Genericwood" 328 "a term is no name that is there, nor a letter") (by decide +kernel)) e16
  | 17, hq => cases hq; exact vk_R.of (st_tab hts 981 (w := .stringRef "Genericwood" 337 "there are 16 formulas") (by decide +kernel)) e17
  | 18, hq => cases hq; exact vk_R.of (st_tab hts 1002 (w := .stringRef "Genericwood" 331 "there is no such formula") (by decide +kernel)) e18
  | 19, hq => cases hq; exact vk_R.of (st_tab hts 1011 (w := .stringRef "Genericwood" 335 "the depth would be above 5") (by decide +kernel)) e19
  | 20, hq => cases hq; exact vk_R.of (st_tab hts 1026 (w := .stringRef "Genericwood" 252 "there is no such letter") (by decide +kernel)) e20
  | 21, hq => cases hq; exact vk_R.of (st_tab hts 1045 (w := .stringRef "Genericwood" 333 "the formula is not closed") (by decide +kernel)) e21
  | 22, hq => cases hq; exact vk_R.of (st_tab hts 1085 (w := .stringRef "Genericwood" 268 "the formula is so in every world") (by decide +kernel)) e22
  | 23, hq => cases hq; exact vk_R.of (st_tab hts 1123 (w := .stringRef "Genericwood" 281 "the map does not keep the order") (by decide +kernel)) e23
  | 24, hq => cases hq; exact vk_R.of (st_tab hts 1131 (w := .stringRef "Genericwood" 298 "there are no conditions") (by decide +kernel)) e24
  | 25, hq => cases hq; exact vk_R.of (st_tab hts 1139 (w := .stringRef "Genericwood" 300 "there are no names") (by decide +kernel)) e25
  | k + 26, hq => simp [gw_str] at hq
theorem st_F (hts : ∀ w ∈ lw_tbl, w.before #[Value.ref b] s = true) : ∀ (i : Nat) (q : String × MethodName × MethodName), gw_Fs[i]? = some q → va_Fw q.1 q.2.1 q.2.2 s := by
  intro k q hq
  match k, hq with
  | 0, hq => cases hq; exact va_Fw.of (st_tab hts 1202 (by decide +kernel)) (st_tab hts 1201 (by decide +kernel)) (st_tab hts 1207 (by decide +kernel)) (st_tab hts 1205 (by decide +kernel)) (st_tab hts 1203 (by decide +kernel))
  | 1, hq => cases hq; exact va_Fw.of (st_tab hts 1551 (by decide +kernel)) (st_tab hts 1550 (by decide +kernel)) (st_tab hts 1555 (by decide +kernel)) (st_tab hts 1553 (by decide +kernel)) (st_tab hts 1203 (by decide +kernel))
  | 2, hq => cases hq; exact va_Fw.of (st_tab hts 1766 (by decide +kernel)) (st_tab hts 1765 (by decide +kernel)) (st_tab hts 1770 (by decide +kernel)) (st_tab hts 1768 (by decide +kernel)) (st_tab hts 1203 (by decide +kernel))
  | 3, hq => cases hq; exact va_Fw.of (st_tab hts 1236 (by decide +kernel)) (st_tab hts 1235 (by decide +kernel)) (st_tab hts 1240 (by decide +kernel)) (st_tab hts 1238 (by decide +kernel)) (st_tab hts 1203 (by decide +kernel))
  | 4, hq => cases hq; exact va_Fw.of (st_tab hts 1356 (by decide +kernel)) (st_tab hts 1355 (by decide +kernel)) (st_tab hts 1360 (by decide +kernel)) (st_tab hts 1358 (by decide +kernel)) (st_tab hts 1203 (by decide +kernel))
  | 5, hq => cases hq; exact va_Fw.of (st_tab hts 1384 (by decide +kernel)) (st_tab hts 1383 (by decide +kernel)) (st_tab hts 1389 (by decide +kernel)) (st_tab hts 1387 (by decide +kernel)) (st_tab hts 1385 (by decide +kernel))
  | k + 6, hq => simp [gw_Fs] at hq
theorem st_N (hgv : (Jvm.Cond.and given_1 narrow_1).before #[Value.ref b] s = true) : lo_N s := by
  intro i j x y hx hy hij
  match i, j, hx, hy, hij with
  | 0, 0, _, _, hij => exact absurd rfl hij
  | 0, 1, hx, hy, _ => cases hx; cases hy; exact va_Nc.of (st_flat hgv 81 (by decide +kernel))
  | 0, 2, hx, hy, _ => cases hx; cases hy; exact va_Nc.of (st_flat hgv 63 (by decide +kernel))
  | 0, 3, hx, hy, _ => cases hx; cases hy; exact va_Nc.of (st_flat hgv 26 (by decide +kernel))
  | 0, 4, hx, hy, _ => cases hx; cases hy; exact va_Nc.of (st_flat hgv 99 (by decide +kernel))
  | 1, 0, hx, hy, _ => cases hx; cases hy; exact va_Nc.of (st_flat hgv 48 (by decide +kernel))
  | 1, 1, _, _, hij => exact absurd rfl hij
  | 1, 2, hx, hy, _ => cases hx; cases hy; exact va_Nc.of (st_flat hgv 66 (by decide +kernel))
  | 1, 3, hx, hy, _ => cases hx; cases hy; exact va_Nc.of (st_flat hgv 30 (by decide +kernel))
  | 1, 4, hx, hy, _ => cases hx; cases hy; exact va_Nc.of (st_flat hgv 102 (by decide +kernel))
  | 2, 0, hx, hy, _ => cases hx; cases hy; exact va_Nc.of (st_flat hgv 45 (by decide +kernel))
  | 2, 1, hx, hy, _ => cases hx; cases hy; exact va_Nc.of (st_flat hgv 82 (by decide +kernel))
  | 2, 2, _, _, hij => exact absurd rfl hij
  | 2, 3, hx, hy, _ => cases hx; cases hy; exact va_Nc.of (st_flat hgv 27 (by decide +kernel))
  | 2, 4, hx, hy, _ => cases hx; cases hy; exact va_Nc.of (st_flat hgv 100 (by decide +kernel))
  | 3, 0, hx, hy, _ => cases hx; cases hy; exact va_Nc.of (st_flat hgv 43 (by decide +kernel))
  | 3, 1, hx, hy, _ => cases hx; cases hy; exact va_Nc.of (st_flat hgv 79 (by decide +kernel))
  | 3, 2, hx, hy, _ => cases hx; cases hy; exact va_Nc.of (st_flat hgv 61 (by decide +kernel))
  | 3, 3, _, _, hij => exact absurd rfl hij
  | 3, 4, hx, hy, _ => cases hx; cases hy; exact va_Nc.of (st_flat hgv 97 (by decide +kernel))
  | 4, 0, hx, hy, _ => cases hx; cases hy; exact va_Nc.of (st_flat hgv 47 (by decide +kernel))
  | 4, 1, hx, hy, _ => cases hx; cases hy; exact va_Nc.of (st_flat hgv 84 (by decide +kernel))
  | 4, 2, hx, hy, _ => cases hx; cases hy; exact va_Nc.of (st_flat hgv 65 (by decide +kernel))
  | 4, 3, hx, hy, _ => cases hx; cases hy; exact va_Nc.of (st_flat hgv 29 (by decide +kernel))
  | 4, 4, _, _, hij => exact absurd rfl hij
  | i + 5, _, hx, _, _ => simp [lo_ex] at hx
  | 0, j + 5, _, hy, _ => simp [lo_ex] at hy
  | 1, j + 5, _, hy, _ => simp [lo_ex] at hy
  | 2, j + 5, _, hy, _ => simp [lo_ex] at hy
  | 3, j + 5, _, hy, _ => simp [lo_ex] at hy
  | 4, j + 5, _, hy, _ => simp [lo_ex] at hy
theorem st_Z (hts : ∀ w ∈ lw_tbl, w.before #[Value.ref b] s = true) (hgv : (Jvm.Cond.and given_1 narrow_1).before #[Value.ref b] s = true) : gw_Z (fun q => s.heap.size ≤ q) s s.heap := by
  have hA : ∀ a : Nat, a < s.heap.size → ¬ (fun q : Nat => s.heap.size ≤ q) a := fun a h => Nat.not_le.mpr h
  exact ⟨vx_Zqof (st_tab hts 584 (by decide +kernel)) (st_tab hts 14 (by decide +kernel)) (st_flat hgv 4 (by decide +kernel)) hA, vx_Zqof (st_tab hts 586 (by decide +kernel)) (st_tab hts 14 (by decide +kernel)) (st_flat hgv 5 (by decide +kernel)) hA⟩
end ST
