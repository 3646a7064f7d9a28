/-! The way F: formulas. -/
theorem x_named_F {τ : gw_S} {N t : Nat} {ρ : Nat → Nat} (hN : N ≤ 12) (ht : tm N t) (hr : ∀ l, l < 4 → t = 100 + l → τ 25 l = nI (ρ l) ∧ ρ l < N) : f_X5_named_F (nI t) τ = some (nI (nm ρ t), τ) ∧ nm ρ t < N := by
  unfold f_X5_named_F
  rcases ht with h | ⟨h1, h2⟩
  · simp only [x_isLetter (show t < 2 ^ 31 by omega), Option.bind_some]
    rw [decide_eq_false (by omega), if_pos (show tb false = 0 from rfl)]
    unfold nm
    rw [if_pos (by omega)]
    exact ⟨rfl, h⟩
  · obtain ⟨r1, r2⟩ := hr (t - 100) (by omega) (by omega)
    have e1 : nI t - (100 : Int32) = nI (t - 100) := pk_sub h1
    simp only [x_isLetter (show t < 2 ^ 31 by omega), Option.bind_some]
    rw [decide_eq_true ⟨h1, h2⟩, if_neg (show ¬ tb true = 0 by decide), e1]
    simp only [ni_at (k := 25) (L := 4) rfl (by omega) (show t - 100 < 4 by omega), Option.bind_some]
    unfold nm
    rw [if_neg (by omega), r1]
    exact ⟨rfl, r2⟩
theorem x_boundL_F {σ τ0 : gw_S} {n N f c B deep : Nat} (h : iN σ n N) (hq : oq n (σ 2) (σ 1 2)) (hn : σ 1 0 = nI n) (hτ : ∀ a, a ≠ 25 → τ0 a = σ a) (J : Int32 → Int32 → gw_S → Option (Int32 × gw_S)) (hB : B < N) (hc : c < 4) (hf : f < 16) (hfb : σ 14 f = nI (fb σ f)) (X : Nat → Nat → Bool)
    (hJ : ∀ m, m < N → ∃ r, J (nI (fb σ f)) (nI (deep + 1)) (gw_up τ0 25 c (nI m)) = some (r, gw_up τ0 25 c (nI m)) ∧ rlF σ n r (X m)) :
    ∀ (d i fu : Nat) (τ : gw_S) (e s : Int32), i + d = zs σ B → d < fu → (∀ v, gw_up τ 25 c v = gw_up τ0 25 c v) → (∀ a, a ≠ 25 → τ a = σ a) → rlF σ n e (fun w => al (fun k => !hw σ w (pm σ B k) || X (lw σ B k) w) i) → soF σ n s (fun w => ae (fun k => hw σ w (pm σ B k) && X (lw σ B k) w) i) →
      ∃ r, f_X5_judgedBound_F_L46 J fu (nI f) (nI deep) (nI B) (nI c) (τ0 25 c) e s (nI i) τ = some (r, τ0) ∧ rlF σ n r (fun w => if σ 12 f = 65 then al (fun k => !hw σ w (pm σ B k) || X (lw σ B k) w) (zs σ B) else ae (fun k => hw σ w (pm σ B k) && X (lw σ B k) w) (zs σ B))
  | d, i, 0, _, _, _, _, q, _, _, _, _ => absurd q (Nat.not_lt_zero _)
  | 0, i, fu + 1, τ, e, s, q, _, hu, hc2, he, hs => by
    have h7 := hq.1
    have hN := h.2.1
    have hz := (h.2.2.1 B (by omega)).2
    have hiN := iN_c h (hc2 4 (by decide)) (hc2 5 (by decide)) (hc2 6 (by decide))
    have ei : i = zs σ B := by omega
    subst ei
    rw [f_X5_judgedBound_F_L46]
    simp only [x_pairsOf hiN (show B < 12 by omega), Option.bind_some]
    rw [zs_c (hc2 5 (by decide)), if_pos (nI_le (by omega) (by omega))]
    simp only [ni_put (k := 25) (L := 4) rfl (by omega) hc, Option.bind_some, hu, gu_self, x_kind hf]
    rw [hτ 12 (by decide)]
    by_cases k : σ 12 f = 65
    · rw [if_pos k]
      exact ⟨e, rfl, by simp only [k, if_true]; exact he⟩
    · rw [if_neg k]
      simp only [x_settledF (show τ0 1 0 = nI n by rw [hτ 1 (by decide)]; exact hn) h7, Option.bind_some]
      rw [show aq τ0 = aq σ by unfold aq; rw [hτ 2 (by decide)]]
      exact ⟨_, rfl, by simp only [k, if_false]; exact rlF_settled hq hs⟩
  | d + 1, i, fu + 1, τ, e, s, q, hf2, hu, hc2, he, hs => by
    have h7 := hq.1
    have hN := h.2.1
    have hz := (h.2.2.1 B (by omega)).2
    have hiN := iN_c h (hc2 4 (by decide)) (hc2 5 (by decide)) (hc2 6 (by decide))
    have hi : i < zs σ B := by omega
    have hi2 : i < zs τ B := by rw [zs_c (hc2 5 (by decide))]; exact hi
    obtain ⟨-, h1, h2⟩ := h.2.2.2.2 B i hB hi
    obtain ⟨r, hr1, hr2⟩ := hJ (lw σ B i) (by omega)
    have g : ∀ a, a ≠ 25 → gw_up τ0 25 c (nI (lw σ B i)) a = σ a := fun a ha => (gu_row ha).trans (hτ a ha)
    have hiN1 := iN_c h (g 4 (by decide)) (g 5 (by decide)) (g 6 (by decide))
    have hi3 : i < zs (gw_up τ0 25 c (nI (lw σ B i))) B := by rw [zs_c (g 5 (by decide))]; exact hi
    have ih := x_boundL_F h hq hn hτ J hB hc hf hfb X hJ d (i + 1) fu (gw_up τ0 25 c (nI (lw σ B i))) _ _ (by omega) (by omega) (fun v => gu_twice _ _ _ _ _) g (rlF_and hq he (rlF_unless hq h2 hr2)) (soF_or hq hs (soF_along hq h2 hr2))
    obtain ⟨r9, h8, h9⟩ := ih
    refine ⟨r9, ?_, h9⟩
    rw [f_X5_judgedBound_F_L46]
    simp only [x_pairsOf hiN (show B < 12 by omega), Option.bind_some]
    rw [zs_c (hc2 5 (by decide)), if_neg (nI_ge (by omega) (by omega))]
    simp only [x_lower hiN h7 hB hi2, Option.bind_some]
    rw [lw_c (hc2 6 (by decide))]
    simp only [ni_put (k := 25) (L := 4) rfl (by omega) hc, Option.bind_some, hu, x_second hf]
    rw [g 14 (by decide), hfb, nI_1, hr1]
    simp only [Option.bind_some, x_promise hiN1 h7 hB hi3]
    rw [pm_c (g 6 (by decide))]
    simp only [x_unlessF (σ := gw_up τ0 25 c (nI (lw σ B i))) (show gw_up τ0 25 c (nI (lw σ B i)) 1 0 = nI n by rw [g 1 (by decide)]; exact hn) h7 (show pm σ B i < 7 by omega), x_alongF (show pm σ B i < 7 by omega), Option.bind_some]
    rw [show uf (gw_up τ0 25 c (nI (lw σ B i))) n = uf σ n by unfold uf; rw [g 2 (by decide)], g 2 (by decide), nI_1]
    exact h8
theorem x_bound_F {σ τ : gw_S} {n N f deep : Nat} {ρ : Nat → Nat} (h : iN σ n N) (hq : oq n (σ 2) (σ 1 2)) (hn : σ 1 0 = nI n) (hτ : ∀ a, a ≠ 25 → τ a = σ a) (J : Int32 → Int32 → gw_S → Option (Int32 × gw_S)) (hf : f < 16) (h13 : σ 13 f = nI (fa σ f)) (hw1 : wq σ N f) (hr : ∀ l, l < 4 → fa σ f = 100 + l → τ 25 l = nI (ρ l) ∧ ρ l < N) (X : Nat → Nat → Bool)
    (hJ : ∀ m, m < N → ∃ r, J (nI (fb σ f)) (nI (deep + 1)) (gw_up τ 25 (fc σ f) (nI m)) = some (r, gw_up τ 25 (fc σ f) (nI m)) ∧ rlF σ n r (X m)) :
    ∃ r, f_X5_judgedBound_F J (nI f) (nI deep) τ = some (r, τ) ∧ nm ρ (fa σ f) < N ∧ rlF σ n r (fun w => if σ 12 f = 65 then al (fun k => !hw σ w (pm σ (nm ρ (fa σ f)) k) || X (lw σ (nm ρ (fa σ f)) k) w) (zs σ (nm ρ (fa σ f))) else ae (fun k => hw σ w (pm σ (nm ρ (fa σ f)) k) && X (lw σ (nm ρ (fa σ f)) k) w) (zs σ (nm ρ (fa σ f)))) := by
  obtain ⟨-, h14, ht, -, h15, hc4, -⟩ := hw1
  have hN := h.2.1
  obtain ⟨e1, e2⟩ := x_named_F (τ := τ) hN ht hr
  have hz := (h.2.2.1 (nm ρ (fa σ f)) (by omega)).2
  obtain ⟨r, r1, r2⟩ := x_boundL_F (deep := deep) h hq hn hτ J e2 hc4 hf h14 X hJ (zs σ (nm ρ (fa σ f))) 0 64 τ (((1 : Int32) <<< ((σ 1 0) &&& 31)) - (1 : Int32)) 0 (by omega) (by omega) (fun _ => rfl) hτ (rlF_whole hq hn) (soF_zero hq)
  refine ⟨r, ?_, e2, r2⟩
  unfold f_X5_judgedBound_F f_X6_whole_F
  simp only [x_first hf, Option.bind_some]
  rw [hτ 13 (by decide), h13, e1]
  simp only [x_letter hf, Option.bind_some]
  rw [hτ 15 (by decide), h15]
  simp only [ni_at (k := 25) (L := 4) rfl (by omega) hc4, f_X3_all, Option.bind_some]
  rw [hτ 1 (by decide)]
  exact r1
theorem x_judged_F {σ : gw_S} {n N F : Nat} {H : Nat → Nat} (h : iN σ n N) (hq : oq n (σ 2) (σ 1 2)) (hn : σ 1 0 = nI n) (hH : iH σ N H) (hF : iF σ N F) (hL : ∀ y x, y < N → x < N → rlF σ n (σ 23 (y * 12 + x)) (fun w => decide (cw σ (hw σ w) y = cw σ (hw σ w) x))) (hI : ∀ y x, y < N → x < N → rlF σ n (σ 24 (y * 12 + x)) (fun w => (cw σ (hw σ w) x).testBit (cw σ (hw σ w) y))) :
    ∀ (d f deep fu : Nat) (τ : gw_S) (ρ : Nat → Nat), f < F → fd σ f ≤ d → deep + d ≤ 6 → d < fu → (∀ a, a ≠ 25 → τ a = σ a) → (∀ l, l < 4 → fo σ f l = true → τ 25 l = nI (ρ l) ∧ ρ l < N) → ∃ r, f_X5_judged_F fu (nI f) (nI deep) τ = some (r, τ) ∧ rlF σ n r (fun w => hz σ (hw σ w) d (gm σ w ρ) f)
  | d, f, deep, 0, _, _, _, _, _, q, _, _ => absurd q (Nat.not_lt_zero _)
  | 0, f, deep, fu + 1, _, _, hf, hd, _, _, _, _ => by
    have := (hF.2.2 f hf).2.2.1
    omega
  | d + 1, f, deep, fu + 1, τ, ρ, hf, hd, hdp, hfu, hτ, hr => by
    have hN := h.2.1
    have hF16 := hF.2.1
    obtain ⟨h13, h16, hd1, hd5, hwf⟩ := hF.2.2 f hf
    have ih := fun f2 τ2 ρ2 a1 a2 a3 a4 => x_judged_F h hq hn hH hF hL hI d f2 (deep + 1) fu τ2 ρ2 a1 a2 (by omega) (by omega) a3 a4
    rw [f_X5_judged_F]
    rw [if_neg (show ¬ nI 5 < nI deep from nI_nlt (by omega) (by omega))]
    simp only [x_knows1 (show τ 11 0 = nI F by rw [hτ 11 (by decide)]; exact hF.1) hF16 hf, x_first (show f < 16 by omega), x_second (show f < 16 by omega), x_kind (show f < 16 by omega), Option.bind_some]
    rw [if_neg (show ¬ (1 : Int32) = 0 by decide), hτ 12 (by decide), hτ 13 (by decide), hτ 14 (by decide), h13]
    rcases hwf with ⟨hk, h14, ta, tbb, hop⟩ | ⟨hk, h14, ha, hb, hda, hdb, hop⟩ | ⟨hk, ha, hda, hop⟩ | hwq
    · obtain ⟨a1, a2⟩ := x_named_F (τ := τ) (ρ := ρ) hN ta (fun l hl e => hr l hl (hop l hl (Or.inl e)))
      obtain ⟨b1, b2⟩ := x_named_F (τ := τ) (ρ := ρ) hN tbb (fun l hl e => hr l hl (hop l hl (Or.inr e)))
      rw [h14]
      rcases hk with hk | hk
      · rw [hk, if_neg (by decide), if_neg (by decide), if_pos rfl, a1]
        simp only [Option.bind_some]
        rw [b1]
        simp only [Option.bind_some, x_tab (k := 24) rfl (show nm ρ (fa σ f) < 12 by omega) (show nm ρ (fb σ f) < 12 by omega)]
        rw [hτ 24 (by decide)]
        refine ⟨_, rfl, rlF_c hq (fun w _ => ?_) (hI _ _ a2 b2)⟩
        show _ = hz σ (hw σ w) (d + 1) (gm σ w ρ) f
        rw [hz_e hk, tc_gm, tc_gm]
      · rw [hk, if_pos rfl, a1]
        simp only [Option.bind_some]
        rw [b1]
        simp only [Option.bind_some, x_tab (k := 23) rfl (show nm ρ (fa σ f) < 12 by omega) (show nm ρ (fb σ f) < 12 by omega)]
        rw [hτ 23 (by decide)]
        refine ⟨_, rfl, rlF_c hq (fun w _ => ?_) (hL _ _ a2 b2)⟩
        show _ = hz σ (hw σ w) (d + 1) (gm σ w ρ) f
        rw [hz_q hk, tc_gm, tc_gm]
    · obtain ⟨r1, c1, c2⟩ := ih (fa σ f) τ ρ (by omega) (by omega) hτ (fun l hl e => hr l hl (hop l hl (Or.inl e)))
      obtain ⟨r2, c3, c4⟩ := ih (fb σ f) τ ρ (by omega) (by omega) hτ (fun l hl e => hr l hl (hop l hl (Or.inr e)))
      rw [h14, nI_1]
      rcases hk with hk | hk
      · rw [hk, if_neg (by decide), if_pos rfl, c1]
        simp only [Option.bind_some]
        rw [c3]
        simp only [Option.bind_some]
        refine ⟨_, rfl, rlF_c hq (fun w _ => ?_) (rlF_and hq c2 c4)⟩
        show _ = hz σ (hw σ w) (d + 1) (gm σ w ρ) f
        rw [hz_a hk]
      · rw [hk, if_neg (by decide), if_neg (by decide), if_neg (by decide), if_neg (by decide), if_pos rfl, c1]
        simp only [Option.bind_some]
        rw [c3]
        simp only [Option.bind_some]
        simp only [x_settledF (show τ 1 0 = nI n by rw [hτ 1 (by decide)]; exact hn) hq.1, Option.bind_some]
        rw [show aq τ = aq σ by unfold aq; rw [hτ 2 (by decide)]]
        refine ⟨_, rfl, rlF_c hq (fun w _ => ?_) (rlF_settled hq (soF_or hq (soF_rl hq c2) (soF_rl hq c4)))⟩
        show _ = hz σ (hw σ w) (d + 1) (gm σ w ρ) f
        rw [hz_o hk]
    · obtain ⟨r1, c1, c2⟩ := ih (fa σ f) τ ρ (by omega) (by omega) hτ (fun l hl e => hr l hl (hop l hl e))
      rw [hk, if_neg (by decide), if_neg (by decide), if_neg (by decide), if_pos rfl, nI_1, c1]
      simp only [Option.bind_some]
      simp only [x_deniedF (show τ 1 0 = nI n by rw [hτ 1 (by decide)]; exact hn) hq.1, Option.bind_some]
      rw [show aq τ = aq σ by unfold aq; rw [hτ 2 (by decide)]]
      refine ⟨_, rfl, rlF_c hq (fun w _ => ?_) (rlF_not hq c2)⟩
      show _ = hz σ (hw σ w) (d + 1) (gm σ w ρ) f
      rw [hz_n hk]
    · obtain ⟨hk, h14, ht, hb, h15, hc4, hdb, hop⟩ := id hwq
      obtain ⟨r, c1, c2, c3⟩ := x_bound_F (deep := deep) (ρ := ρ) h hq hn hτ (f_X5_judged_F fu) (show f < 16 by omega) h13 hwq (fun l hl e => hr l hl (hop l hl (Or.inl e))) (fun m w => hz σ (hw σ w) d (gm σ w (ue ρ (fc σ f) m)) (fb σ f)) (fun m hm => ih (fb σ f) (gw_up τ 25 (fc σ f) (nI m)) (ue ρ (fc σ f) m) (by omega) (by omega) (fun a ha => (gu_row ha).trans (hτ a ha)) (fun l hl e => by
        unfold ue
        by_cases hlc : l = fc σ f
        · rw [if_pos hlc, hlc, gu_eq]
          exact ⟨rfl, hm⟩
        · rw [if_neg hlc, gu_ne hlc]
          exact hr l hl (hop l hl (Or.inr ⟨e, hlc⟩))))
      have hfin : rlF σ n r (fun w => hz σ (hw σ w) (d + 1) (gm σ w ρ) f) := by
        refine rlF_c hq (fun w _ => ?_) c3
        show (if σ 12 f = 65 then _ else _) = hz σ (hw σ w) (d + 1) (gm σ w ρ) f
        rcases hk with hk | hk
        · rw [if_pos hk, hz_A hk, tc_gm]
          rw [← al_code h hH c2 (hw σ w) (fun i => hz σ (hw σ w) d (ue (gm σ w ρ) (fc σ f) i) (fb σ f))]
          refine congrArg (fun P => al P (zs σ (nm ρ (fa σ f)))) (funext (fun k => ?_))
          show (_ || hz σ (hw σ w) d (gm σ w (ue ρ (fc σ f) (lw σ (nm ρ (fa σ f)) k))) (fb σ f)) = (_ || hz σ (hw σ w) d (ue (gm σ w ρ) (fc σ f) (cw σ (hw σ w) (lw σ (nm ρ (fa σ f)) k))) (fb σ f))
          rw [ue_gm]
        · rw [if_neg (by rw [hk]; decide), hz_E hk, tc_gm]
          rw [← ae_code h hH c2 (hw σ w) (fun i => hz σ (hw σ w) d (ue (gm σ w ρ) (fc σ f) i) (fb σ f))]
          refine congrArg (fun P => ae P (zs σ (nm ρ (fa σ f)))) (funext (fun k => ?_))
          show (_ && hz σ (hw σ w) d (gm σ w (ue ρ (fc σ f) (lw σ (nm ρ (fa σ f)) k))) (fb σ f)) = (_ && hz σ (hw σ w) d (ue (gm σ w ρ) (fc σ f) (cw σ (hw σ w) (lw σ (nm ρ (fa σ f)) k))) (fb σ f))
          rw [ue_gm]
      refine ⟨r, ?_, hfin⟩
      rcases hk with hk | hk
      · rw [hk, if_neg (by decide), if_neg (by decide), if_neg (by decide), if_neg (by decide), if_neg (by decide), c1]
        rfl
      · rw [hk, if_neg (by decide), if_neg (by decide), if_neg (by decide), if_neg (by decide), if_neg (by decide), c1]
        rfl
