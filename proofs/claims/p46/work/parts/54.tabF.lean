/-! The way F: its tables are made anew, and hold the equations. -/
theorem x_partlyL_F {σ τ : gw_S} {n N a b : Nat} (h : iN σ n N) (hn : σ 1 0 = nI n) (h7 : n ≤ 7) (ha : a < N) (hb : b < 12) (e1 : τ 1 = σ 1) (e2 : τ 2 = σ 2) (e4 : τ 4 = σ 4) (e5 : τ 5 = σ 5) (e6 : τ 6 = σ 6) : ∀ (d i f : Nat), i + d = zs σ a → d < f → f_X5_partly_F_L8 f (nI a) (nI b) (pt (((1 : Int32) <<< ((σ 1 0) &&& 31)) - (1 : Int32)) (uf σ n) (τ 24) (lw σ a) (pm σ a) b i) (nI i) τ = some (pt (((1 : Int32) <<< ((σ 1 0) &&& 31)) - (1 : Int32)) (uf σ n) (τ 24) (lw σ a) (pm σ a) b (zs σ a), τ)
  | d, i, 0, _, q => absurd q (Nat.not_lt_zero _)
  | 0, i, f + 1, q, _ => by
    have hN := h.2.1
    have hz := (h.2.2.1 a (by omega)).2
    have hiN := iN_c h e4 e5 e6
    have e : i = zs σ a := by omega
    rw [f_X5_partly_F_L8]
    simp only [x_pairsOf hiN (show a < 12 by omega), Option.bind_some]
    rw [zs_c e5, if_pos (nI_le (by omega) (by omega)), e]
  | d + 1, i, f + 1, q, hf => by
    have hN := h.2.1
    have hz := (h.2.2.1 a (by omega)).2
    have hiN := iN_c h e4 e5 e6
    have hi : i < zs σ a := by omega
    have hi2 : i < zs τ a := by rw [zs_c e5]; exact hi
    have ih := x_partlyL_F h hn h7 ha hb e1 e2 e4 e5 e6 d (i + 1) f (by omega) (by omega)
    obtain ⟨-, h1, h2⟩ := h.2.2.2.2 a i ha hi
    have h2t : pm τ a i < 7 := by rw [pm_c e6]; omega
    have h1t : lw τ a i < 12 := by rw [lw_c e6]; omega
    rw [f_X5_partly_F_L8]
    simp only [x_pairsOf hiN (show a < 12 by omega), Option.bind_some]
    rw [zs_c e5, if_neg (nI_ge (by omega) (by omega))]
    simp only [x_lower hiN h7 ha hi2, x_promise hiN h7 ha hi2, x_tab (k := 24) rfl h1t hb, x_unlessF (show τ 1 0 = nI n by rw [e1]; exact hn) h7 h2t, Option.bind_some, nI_1]
    rw [lw_c e6, pm_c e6]
    rw [show uf τ n = uf σ n by unfold uf; rw [e2]]
    exact ih
theorem x_partly_F {σ τ : gw_S} {n N a b : Nat} (h : iN σ n N) (hn : σ 1 0 = nI n) (h7 : n ≤ 7) (ha : a < N) (hb : b < 12) (e1 : τ 1 = σ 1) (e2 : τ 2 = σ 2) (e4 : τ 4 = σ 4) (e5 : τ 5 = σ 5) (e6 : τ 6 = σ 6) : f_X5_partly_F (nI a) (nI b) τ = some (pt (((1 : Int32) <<< ((σ 1 0) &&& 31)) - (1 : Int32)) (uf σ n) (τ 24) (lw σ a) (pm σ a) b (zs σ a), τ) := by
  have hN := h.2.1
  have hz := (h.2.2.1 a (by omega)).2
  unfold f_X5_partly_F f_X6_whole_F
  simp only [f_X3_all, Option.bind_some]
  rw [e1]
  exact x_partlyL_F h hn h7 ha hb e1 e2 e4 e5 e6 (zs σ a) 0 64 (by omega) (by omega)
theorem x_containedL_F {σ τ : gw_S} {n N a b : Nat} (h : iN σ n N) (hn : σ 1 0 = nI n) (h7 : n ≤ 7) (ha : a < 12) (hb : b < N) (e1 : τ 1 = σ 1) (e2 : τ 2 = σ 2) (e4 : τ 4 = σ 4) (e5 : τ 5 = σ 5) (e6 : τ 6 = σ 6) : ∀ (d i f : Nat), i + d = zs σ b → d < f → f_X5_contained_F_L5 f (nI a) (nI b) (ct (aF σ) (τ 23) (lw σ b) (pm σ b) a i) (nI i) τ = some ((fun x => aq σ (aq σ x n) n) (ct (aF σ) (τ 23) (lw σ b) (pm σ b) a (zs σ b)), τ)
  | d, i, 0, _, q => absurd q (Nat.not_lt_zero _)
  | 0, i, f + 1, q, _ => by
    have hN := h.2.1
    have hz := (h.2.2.1 b (by omega)).2
    have hiN := iN_c h e4 e5 e6
    have e : i = zs σ b := by omega
    rw [f_X5_contained_F_L5]
    simp only [x_pairsOf hiN (show b < 12 by omega), Option.bind_some]
    rw [zs_c e5, if_pos (nI_le (by omega) (by omega)), e]
    simp only [x_settledF (show τ 1 0 = nI n by rw [e1]; exact hn) h7, Option.bind_some]
    rw [show aq τ = aq σ by unfold aq; rw [e2]]
  | d + 1, i, f + 1, q, hf => by
    have hN := h.2.1
    have hz := (h.2.2.1 b (by omega)).2
    have hiN := iN_c h e4 e5 e6
    have hi : i < zs σ b := by omega
    have hi2 : i < zs τ b := by rw [zs_c e5]; exact hi
    have ih := x_containedL_F h hn h7 ha hb e1 e2 e4 e5 e6 d (i + 1) f (by omega) (by omega)
    obtain ⟨-, h1, h2⟩ := h.2.2.2.2 b i hb hi
    have h2t : pm τ b i < 7 := by rw [pm_c e6]; omega
    have h1t : lw τ b i < 12 := by rw [lw_c e6]; omega
    rw [f_X5_contained_F_L5]
    simp only [x_pairsOf hiN (show b < 12 by omega), Option.bind_some]
    rw [zs_c e5, if_neg (nI_ge (by omega) (by omega))]
    simp only [x_lower hiN h7 hb hi2, x_promise hiN h7 hb hi2, x_tab (k := 23) rfl ha h1t, x_alongF h2t, Option.bind_some, nI_1]
    rw [lw_c e6, pm_c e6]
    rw [e2]
    exact ih
theorem x_contained_F {σ τ : gw_S} {n N a b : Nat} (h : iN σ n N) (hn : σ 1 0 = nI n) (h7 : n ≤ 7) (ha : a < 12) (hb : b < N) (e1 : τ 1 = σ 1) (e2 : τ 2 = σ 2) (e4 : τ 4 = σ 4) (e5 : τ 5 = σ 5) (e6 : τ 6 = σ 6) : f_X5_contained_F (nI a) (nI b) τ = some ((fun x => aq σ (aq σ x n) n) (ct (aF σ) (τ 23) (lw σ b) (pm σ b) a (zs σ b)), τ) := by
  have hN := h.2.1
  have hz := (h.2.2.1 b (by omega)).2
  unfold f_X5_contained_F
  exact x_containedL_F h hn h7 ha hb e1 e2 e4 e5 e6 (zs σ b) 0 64 (by omega) (by omega)
/-- the equations of the entries y, x -/
def enF (σ : gw_S) (n : Nat) (L I : Nat → Int32) (y x : Nat) : Prop := eqn (((1 : Int32) <<< ((σ 1 0) &&& 31)) - (1 : Int32)) (uf σ n) (aF σ) ((fun x => aq σ (aq σ x n) n)) (zs σ) (lw σ) (pm σ) L I y x
/-- only the way's tables differ -/
def cfF (σ τ : gw_S) : Prop := ∀ a, a ≠ 23 → a ≠ 24 → τ a = σ a
theorem x_refreshM_F {σ : gw_S} {n N s : Nat} (h : iN σ n N) (hn : σ 1 0 = nI n) (h7 : n ≤ 7) (hs : s < 40) (K : Int32 → gw_S → Option gw_S) (Q : gw_S → Prop)
    (hK : ∀ τ, cfF σ τ → (∀ y x, y < N → x < N → y + x ≤ s → enF σ n (τ 23) (τ 24) y x) → ∃ τ1, K (nI s) τ = some τ1 ∧ Q τ1) : ∀ (d x f : Nat) (τ : gw_S), x + d = 13 → d < f → s + 1 - N ≤ x → cfF σ τ → (∀ y z, y < N → z < N → (y + z < s ∨ (y + z = s ∧ y < x)) → enF σ n (τ 23) (τ 24) y z) → ∃ τ1, f_X5_refresh_F_L63 f K (nI s) (nI x) τ = some τ1 ∧ Q τ1
  | d, x, 0, τ, _, q, _, _, _ => absurd q (Nat.not_lt_zero _)
  | d, x, f + 1, τ, q, hf, hx0, hc, hI => by
    have hN := h.2.1
    have e4 : τ 4 = σ 4 := hc 4 (by decide) (by decide)
    rw [f_X5_refresh_F_L63]
    simp only [f_X2_size, Option.bind_some]
    rw [e4, h.1]
    by_cases c1 : N ≤ x
    · rw [if_pos (nI_le c1 (by omega))]
      exact hK τ hc (fun y z hy hz hs2 => hI y z hy hz (by omega))
    rw [if_neg (nI_ge (by omega) (by omega))]
    by_cases c2 : s < x
    · rw [if_pos (nI_lt c2 (by omega))]
      exact hK τ hc (fun y z hy hz hs2 => hI y z hy hz (by omega))
    rw [if_neg (nI_nlt (by omega) (by omega))]
    match d, q with
    | 0, q => omega
    | d + 1, q =>
      have hsx : s - x < N := by omega
      have g1 : τ 1 = σ 1 := hc 1 (by decide) (by decide)
      have g2 : τ 2 = σ 2 := hc 2 (by decide) (by decide)
      have g5 : τ 5 = σ 5 := hc 5 (by decide) (by decide)
      have g6 : τ 6 = σ 6 := hc 6 (by decide) (by decide)
      rw [r_ix (show x ≤ s by omega), pk_sub (show x ≤ s by omega)]
      simp only [x_partly_F h hn h7 (show x < N by omega) (show s - x < 12 by omega) g1 g2 e4 g5 g6, x_partly_F h hn h7 hsx (show x < 12 by omega) g1 g2 e4 g5 g6, ni_put (k := 23) (L := 144) rfl (by omega) (show x * 12 + (s - x) < 144 by omega), Option.bind_some]
      have r1 : ∀ a, a ≠ 23 → ∀ v, gw_up τ 23 (x * 12 + (s - x)) v a = τ a := fun a ha v => gu_row ha
      generalize hv : (pt (((1 : Int32) <<< ((σ 1 0) &&& 31)) - (1 : Int32)) (uf σ n) (τ 24) (lw σ x) (pm σ x) (s - x) (zs σ x) &&& pt (((1 : Int32) <<< ((σ 1 0) &&& 31)) - (1 : Int32)) (uf σ n) (τ 24) (lw σ (s - x)) (pm σ (s - x)) x (zs σ (s - x))) = v
      simp only [x_contained_F (τ := gw_up τ 23 (x * 12 + (s - x)) v) h hn h7 (show x < 12 by omega) hsx ((r1 1 (by decide) v).trans g1) ((r1 2 (by decide) v).trans g2) ((r1 4 (by decide) v).trans e4) ((r1 5 (by decide) v).trans g5) ((r1 6 (by decide) v).trans g6), ni_put (k := 24) (L := 144) rfl (by omega) (show x * 12 + (s - x) < 144 by omega), Option.bind_some, nI_1]
      generalize hv2 : ((fun x => aq σ (aq σ x n) n) (ct (aF σ) (gw_up τ 23 (x * 12 + (s - x)) v 23) (lw σ (s - x)) (pm σ (s - x)) x (zs σ (s - x)))) = v2
      refine x_refreshM_F h hn h7 hs K Q hK d (x + 1) f _ (by omega) (by omega) (by omega) (fun a h1 h2 => by rw [gu_row h2, gu_row h1]; exact hc a h1 h2) (fun y z hy hz hyz => ?_)
      have hl : ∀ u w, gw_up (gw_up τ 23 (x * 12 + (s - x)) v) 24 (x * 12 + (s - x)) v2 23 (u * 12 + w) = if u * 12 + w = x * 12 + (s - x) then v else τ 23 (u * 12 + w) := fun u w => by
        rw [gu_row (show 23 ≠ 24 by decide), gu_or]
        by_cases c : u * 12 + w = x * 12 + (s - x)
        · rw [if_pos ⟨rfl, c⟩, if_pos c]
        · rw [if_neg (fun z => c z.2), if_neg c]
      have hi : ∀ u w, gw_up (gw_up τ 23 (x * 12 + (s - x)) v) 24 (x * 12 + (s - x)) v2 24 (u * 12 + w) = if u * 12 + w = x * 12 + (s - x) then v2 else τ 24 (u * 12 + w) := fun u w => by
        rw [gu_or, gu_row (show 24 ≠ 23 by decide)]
        by_cases c : u * 12 + w = x * 12 + (s - x)
        · rw [if_pos ⟨rfl, c⟩, if_pos c]
        · rw [if_neg (fun z => c z.2), if_neg c]
      have hlo : ∀ m k, m < N → k < zs σ m → lw σ m k < m := fun m k h1 h2 => (h.2.2.2.2 m k h1 h2).2.1
      by_cases c : y = x ∧ z = s - x
      · obtain ⟨c3, c4⟩ := c
        subst c3
        subst c4
        refine ⟨?_, ?_⟩
        · rw [hl, if_pos rfl, ← hv, pt_c (I1 := gw_up (gw_up τ 23 (y * 12 + (s - y)) v) 24 (y * 12 + (s - y)) v2 24) (I := τ 24) (zs σ y) (fun j hj => ?_), pt_c (I1 := gw_up (gw_up τ 23 (y * 12 + (s - y)) v) 24 (y * 12 + (s - y)) v2 24) (I := τ 24) (zs σ (s - y)) (fun j hj => ?_)]
          · have := hlo y j hy hj
            rw [hi, if_neg (by omega)]
          · have := hlo (s - y) j hz hj
            rw [hi, if_neg (by omega)]
        · rw [hi, if_pos rfl, ← hv2, ct_c (L1 := gw_up (gw_up τ 23 (y * 12 + (s - y)) v) 24 (y * 12 + (s - y)) v2 23) (L := gw_up τ 23 (y * 12 + (s - y)) v 23) (zs σ (s - y)) (fun j hj => ?_)]
          rw [gu_row (show 23 ≠ 24 by decide)]
      · refine eqn_c hy hz hlo (hI y z hy hz (by omega)) (fun u w hu hw huw => ?_) (fun u w hu hw huw => ?_)
        · rw [hl, if_neg (by omega)]
        · rw [hi, if_neg (by omega)]
theorem x_refreshO_F {σ : gw_S} {n N : Nat} (h : iN σ n N) (hn : σ 1 0 = nI n) (h7 : n ≤ 7) : ∀ (d s f : Nat) (τ : gw_S), s + d = 26 → d < f → cfF σ τ → (∀ y x, y < N → x < N → y + x < s → enF σ n (τ 23) (τ 24) y x) → ∃ τ1, f_X5_refresh_F_L32 f (nI s) τ = some τ1 ∧ cfF σ τ1 ∧ ∀ y x, y < N → x < N → enF σ n (τ1 23) (τ1 24) y x
  | d, s, 0, τ, _, q, _, _ => absurd q (Nat.not_lt_zero _)
  | d, s, f + 1, τ, q, hf, hc, hI => by
    have hN := h.2.1
    have e4 : τ 4 = σ 4 := hc 4 (by decide) (by decide)
    rw [f_X5_refresh_F_L32]
    simp only [f_X2_size, Option.bind_some]
    rw [e4, h.1]
    by_cases c : N = 0 ∨ 2 * N - 2 < s
    · rw [if_pos ((r_end s (by omega) N (by omega)).mpr c)]
      exact ⟨τ, rfl, hc, fun y x hy hx => hI y x hy hx (by omega)⟩
    · rw [if_neg (fun z => c ((r_end s (by omega) N (by omega)).mp z)), r_x0 s (by omega) N (by omega)]
      match d, q with
      | 0, q => omega
      | d + 1, q =>
        refine x_refreshM_F h hn h7 (by omega) _ _ (fun τ1 hc1 hI1 => ?_) (13 - (s + 1 - N)) (s + 1 - N) 64 τ (by omega) (by omega) (Nat.le_refl _) hc (fun y z hy hz hyz => hI y z hy hz (by omega))
        rw [nI_1]
        exact x_refreshO_F h hn h7 d (s + 1) f τ1 (by omega) (by omega) hc1 (fun y x hy hx hs => hI1 y x hy hx (by omega))
theorem x_refresh_F {σ : gw_S} {n N : Nat} (h : iN σ n N) (hn : σ 1 0 = nI n) (h7 : n ≤ 7) (hg : σ 22 6 = σ 1 1 + σ 4 2 → ∀ y x, y < N → x < N → enF σ n (σ 23) (σ 24) y x) : ∃ τ, f_X5_refresh_F σ = some τ ∧ (∀ a, a ≠ 22 → a ≠ 23 → a ≠ 24 → τ a = σ a) ∧ τ 22 6 = τ 1 1 + τ 4 2 ∧ ∀ y x, y < N → x < N → enF τ n (τ 23) (τ 24) y x := by
  unfold f_X5_refresh_F f_X3_changes f_X2_changes
  simp only [Option.bind_some]
  by_cases c : σ 22 6 = σ 1 1 + σ 4 2
  · rw [if_pos c]
    exact ⟨σ, rfl, fun _ _ _ _ => rfl, c, hg c⟩
  · rw [if_neg c]
    have g : ∀ a, a ≠ 22 → gw_up σ 22 6 (σ 1 1 + σ 4 2) a = σ a := fun a ha => gu_row ha
    obtain ⟨τ, h1, h2, h3⟩ := x_refreshO_F (iN_c h (g 4 (by decide)) (g 5 (by decide)) (g 6 (by decide))) (show gw_up σ 22 6 (σ 1 1 + σ 4 2) 1 0 = nI n by rw [g 1 (by decide)]; exact hn) h7 26 0 64 (gw_up σ 22 6 (σ 1 1 + σ 4 2)) rfl (by omega) (fun _ _ _ => rfl) (fun y x _ _ z => absurd z (Nat.not_lt_zero _))
    refine ⟨τ, h1, fun a z1 z2 z3 => (h2 a z2 z3).trans (g a z1), ?_, fun y x hy hx => ?_⟩
    · rw [h2 22 (by decide) (by decide), gu_eq, h2 1 (by decide) (by decide), h2 4 (by decide) (by decide), g 1 (by decide), g 4 (by decide)]
    · have z := h3 y x hy hx
      unfold enF uf aF aq at z ⊢
      rw [zs_c (h2 5 (by decide) (by decide)), lw_c (h2 6 (by decide) (by decide)), pm_c (h2 6 (by decide) (by decide)), h2 1 (by decide) (by decide), h2 2 (by decide) (by decide)]
      exact z
