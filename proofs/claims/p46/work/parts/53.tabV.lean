/-! The way V: its tables are made anew, and hold the equations. -/
theorem x_partlyL_V {σ τ : gw_S} {n N a b : Nat} (h : iN σ n N) (hn : σ 1 0 = nI n) (h7 : n ≤ 7) (ha : a < N) (hb : b < 12) (e1 : τ 1 = σ 1) (e2 : τ 2 = σ 2) (e4 : τ 4 = σ 4) (e5 : τ 5 = σ 5) (e6 : τ 6 = σ 6) : ∀ (d i f : Nat), i + d = zs σ a → d < f → f_X5_partly_V_L8 f (nI a) (nI b) (pt (σ 1 2) (uV σ) (τ 20) (lw σ a) (pm σ a) b i) (nI i) τ = some (pt (σ 1 2) (uV σ) (τ 20) (lw σ a) (pm σ a) b (zs σ a), τ)
  | d, i, 0, _, q => absurd q (Nat.not_lt_zero _)
  | 0, i, f + 1, q, _ => by
    have hN := h.2.1
    have hz := (h.2.2.1 a (by omega)).2
    have hiN := iN_c h e4 e5 e6
    have e : i = zs σ a := by omega
    rw [f_X5_partly_V_L8]
    simp only [x_pairsOf hiN (show a < 12 by omega), Option.bind_some]
    rw [zs_c e5, if_pos (nI_le (by omega) (by omega)), e]
  | d + 1, i, f + 1, q, hf => by
    have hN := h.2.1
    have hz := (h.2.2.1 a (by omega)).2
    have hiN := iN_c h e4 e5 e6
    have hi : i < zs σ a := by omega
    have hi2 : i < zs τ a := by rw [zs_c e5]; exact hi
    have ih := x_partlyL_V h hn h7 ha hb e1 e2 e4 e5 e6 d (i + 1) f (by omega) (by omega)
    obtain ⟨-, h1, h2⟩ := h.2.2.2.2 a i ha hi
    have h2t : pm τ a i < 7 := by rw [pm_c e6]; omega
    have h1t : lw τ a i < 12 := by rw [lw_c e6]; omega
    rw [f_X5_partly_V_L8]
    simp only [x_pairsOf hiN (show a < 12 by omega), Option.bind_some]
    rw [zs_c e5, if_neg (nI_ge (by omega) (by omega))]
    simp only [x_lower hiN h7 ha hi2, x_promise hiN h7 ha hi2, x_tab (k := 20) rfl h1t hb, x_unlessV h2t, Option.bind_some, nI_1]
    rw [lw_c e6, pm_c e6]
    rw [e1, e2]
    exact ih
theorem x_partly_V {σ τ : gw_S} {n N a b : Nat} (h : iN σ n N) (hn : σ 1 0 = nI n) (h7 : n ≤ 7) (ha : a < N) (hb : b < 12) (e1 : τ 1 = σ 1) (e2 : τ 2 = σ 2) (e4 : τ 4 = σ 4) (e5 : τ 5 = σ 5) (e6 : τ 6 = σ 6) : f_X5_partly_V (nI a) (nI b) τ = some (pt (σ 1 2) (uV σ) (τ 20) (lw σ a) (pm σ a) b (zs σ a), τ) := by
  have hN := h.2.1
  have hz := (h.2.2.1 a (by omega)).2
  unfold f_X5_partly_V f_X4_whole_V
  simp only [f_X3_ends, Option.bind_some]
  rw [e1]
  exact x_partlyL_V h hn h7 ha hb e1 e2 e4 e5 e6 (zs σ a) 0 64 (by omega) (by omega)
theorem x_containedL_V {σ τ : gw_S} {n N a b : Nat} (h : iN σ n N) (hn : σ 1 0 = nI n) (h7 : n ≤ 7) (ha : a < 12) (hb : b < N) (e1 : τ 1 = σ 1) (e2 : τ 2 = σ 2) (e4 : τ 4 = σ 4) (e5 : τ 5 = σ 5) (e6 : τ 6 = σ 6) : ∀ (d i f : Nat), i + d = zs σ b → d < f → f_X5_contained_V_L5 f (nI a) (nI b) (ct (aV σ) (τ 19) (lw σ b) (pm σ b) a i) (nI i) τ = some (id (ct (aV σ) (τ 19) (lw σ b) (pm σ b) a (zs σ b)), τ)
  | d, i, 0, _, q => absurd q (Nat.not_lt_zero _)
  | 0, i, f + 1, q, _ => by
    have hN := h.2.1
    have hz := (h.2.2.1 b (by omega)).2
    have hiN := iN_c h e4 e5 e6
    have e : i = zs σ b := by omega
    rw [f_X5_contained_V_L5]
    simp only [x_pairsOf hiN (show b < 12 by omega), Option.bind_some]
    rw [zs_c e5, if_pos (nI_le (by omega) (by omega)), e]
    rfl
  | d + 1, i, f + 1, q, hf => by
    have hN := h.2.1
    have hz := (h.2.2.1 b (by omega)).2
    have hiN := iN_c h e4 e5 e6
    have hi : i < zs σ b := by omega
    have hi2 : i < zs τ b := by rw [zs_c e5]; exact hi
    have ih := x_containedL_V h hn h7 ha hb e1 e2 e4 e5 e6 d (i + 1) f (by omega) (by omega)
    obtain ⟨-, h1, h2⟩ := h.2.2.2.2 b i hb hi
    have h2t : pm τ b i < 7 := by rw [pm_c e6]; omega
    have h1t : lw τ b i < 12 := by rw [lw_c e6]; omega
    rw [f_X5_contained_V_L5]
    simp only [x_pairsOf hiN (show b < 12 by omega), Option.bind_some]
    rw [zs_c e5, if_neg (nI_ge (by omega) (by omega))]
    simp only [x_lower hiN h7 hb hi2, x_promise hiN h7 hb hi2, x_tab (k := 19) rfl ha h1t, x_alongV h2t, Option.bind_some, nI_1]
    rw [lw_c e6, pm_c e6]
    rw [e1, e2]
    exact ih
theorem x_contained_V {σ τ : gw_S} {n N a b : Nat} (h : iN σ n N) (hn : σ 1 0 = nI n) (h7 : n ≤ 7) (ha : a < 12) (hb : b < N) (e1 : τ 1 = σ 1) (e2 : τ 2 = σ 2) (e4 : τ 4 = σ 4) (e5 : τ 5 = σ 5) (e6 : τ 6 = σ 6) : f_X5_contained_V (nI a) (nI b) τ = some (id (ct (aV σ) (τ 19) (lw σ b) (pm σ b) a (zs σ b)), τ) := by
  have hN := h.2.1
  have hz := (h.2.2.1 b (by omega)).2
  unfold f_X5_contained_V
  exact x_containedL_V h hn h7 ha hb e1 e2 e4 e5 e6 (zs σ b) 0 64 (by omega) (by omega)
/-- the equations of the entries y, x -/
def enV (σ : gw_S) (n : Nat) (L I : Nat → Int32) (y x : Nat) : Prop := eqn (σ 1 2) (uV σ) (aV σ) (id) (zs σ) (lw σ) (pm σ) L I y x
/-- only the way's tables differ -/
def cfV (σ τ : gw_S) : Prop := ∀ a, a ≠ 19 → a ≠ 20 → τ a = σ a
theorem x_refreshM_V {σ : gw_S} {n N s : Nat} (h : iN σ n N) (hn : σ 1 0 = nI n) (h7 : n ≤ 7) (hs : s < 40) (K : Int32 → gw_S → Option gw_S) (Q : gw_S → Prop)
    (hK : ∀ τ, cfV σ τ → (∀ y x, y < N → x < N → y + x ≤ s → enV σ n (τ 19) (τ 20) y x) → ∃ τ1, K (nI s) τ = some τ1 ∧ Q τ1) : ∀ (d x f : Nat) (τ : gw_S), x + d = 13 → d < f → s + 1 - N ≤ x → cfV σ τ → (∀ y z, y < N → z < N → (y + z < s ∨ (y + z = s ∧ y < x)) → enV σ n (τ 19) (τ 20) y z) → ∃ τ1, f_X5_refresh_V_L63 f K (nI s) (nI x) τ = some τ1 ∧ Q τ1
  | d, x, 0, τ, _, q, _, _, _ => absurd q (Nat.not_lt_zero _)
  | d, x, f + 1, τ, q, hf, hx0, hc, hI => by
    have hN := h.2.1
    have e4 : τ 4 = σ 4 := hc 4 (by decide) (by decide)
    rw [f_X5_refresh_V_L63]
    simp only [f_X2_size, Option.bind_some]
    rw [e4, h.1]
    by_cases c1 : N ≤ x
    · rw [if_pos (nI_le c1 (by omega))]
      exact hK τ hc (fun y z hy hz hs2 => hI y z hy hz (by omega))
    rw [if_neg (nI_ge (by omega) (by omega))]
    by_cases c2 : s < x
    · rw [if_pos (nI_lt c2 (by omega))]
      exact hK τ hc (fun y z hy hz hs2 => hI y z hy hz (by omega))
    rw [if_neg (nI_nlt (by omega) (by omega))]
    match d, q with
    | 0, q => omega
    | d + 1, q =>
      have hsx : s - x < N := by omega
      have g1 : τ 1 = σ 1 := hc 1 (by decide) (by decide)
      have g2 : τ 2 = σ 2 := hc 2 (by decide) (by decide)
      have g5 : τ 5 = σ 5 := hc 5 (by decide) (by decide)
      have g6 : τ 6 = σ 6 := hc 6 (by decide) (by decide)
      rw [r_ix (show x ≤ s by omega), pk_sub (show x ≤ s by omega)]
      simp only [x_partly_V h hn h7 (show x < N by omega) (show s - x < 12 by omega) g1 g2 e4 g5 g6, x_partly_V h hn h7 hsx (show x < 12 by omega) g1 g2 e4 g5 g6, ni_put (k := 19) (L := 144) rfl (by omega) (show x * 12 + (s - x) < 144 by omega), Option.bind_some]
      have r1 : ∀ a, a ≠ 19 → ∀ v, gw_up τ 19 (x * 12 + (s - x)) v a = τ a := fun a ha v => gu_row ha
      generalize hv : (pt (σ 1 2) (uV σ) (τ 20) (lw σ x) (pm σ x) (s - x) (zs σ x) &&& pt (σ 1 2) (uV σ) (τ 20) (lw σ (s - x)) (pm σ (s - x)) x (zs σ (s - x))) = v
      simp only [x_contained_V (τ := gw_up τ 19 (x * 12 + (s - x)) v) h hn h7 (show x < 12 by omega) hsx ((r1 1 (by decide) v).trans g1) ((r1 2 (by decide) v).trans g2) ((r1 4 (by decide) v).trans e4) ((r1 5 (by decide) v).trans g5) ((r1 6 (by decide) v).trans g6), ni_put (k := 20) (L := 144) rfl (by omega) (show x * 12 + (s - x) < 144 by omega), Option.bind_some, nI_1]
      generalize hv2 : (id (ct (aV σ) (gw_up τ 19 (x * 12 + (s - x)) v 19) (lw σ (s - x)) (pm σ (s - x)) x (zs σ (s - x)))) = v2
      refine x_refreshM_V h hn h7 hs K Q hK d (x + 1) f _ (by omega) (by omega) (by omega) (fun a h1 h2 => by rw [gu_row h2, gu_row h1]; exact hc a h1 h2) (fun y z hy hz hyz => ?_)
      have hl : ∀ u w, gw_up (gw_up τ 19 (x * 12 + (s - x)) v) 20 (x * 12 + (s - x)) v2 19 (u * 12 + w) = if u * 12 + w = x * 12 + (s - x) then v else τ 19 (u * 12 + w) := fun u w => by
        rw [gu_row (show 19 ≠ 20 by decide), gu_or]
        by_cases c : u * 12 + w = x * 12 + (s - x)
        · rw [if_pos ⟨rfl, c⟩, if_pos c]
        · rw [if_neg (fun z => c z.2), if_neg c]
      have hi : ∀ u w, gw_up (gw_up τ 19 (x * 12 + (s - x)) v) 20 (x * 12 + (s - x)) v2 20 (u * 12 + w) = if u * 12 + w = x * 12 + (s - x) then v2 else τ 20 (u * 12 + w) := fun u w => by
        rw [gu_or, gu_row (show 20 ≠ 19 by decide)]
        by_cases c : u * 12 + w = x * 12 + (s - x)
        · rw [if_pos ⟨rfl, c⟩, if_pos c]
        · rw [if_neg (fun z => c z.2), if_neg c]
      have hlo : ∀ m k, m < N → k < zs σ m → lw σ m k < m := fun m k h1 h2 => (h.2.2.2.2 m k h1 h2).2.1
      by_cases c : y = x ∧ z = s - x
      · obtain ⟨c3, c4⟩ := c
        subst c3
        subst c4
        refine ⟨?_, ?_⟩
        · rw [hl, if_pos rfl, ← hv, pt_c (I1 := gw_up (gw_up τ 19 (y * 12 + (s - y)) v) 20 (y * 12 + (s - y)) v2 20) (I := τ 20) (zs σ y) (fun j hj => ?_), pt_c (I1 := gw_up (gw_up τ 19 (y * 12 + (s - y)) v) 20 (y * 12 + (s - y)) v2 20) (I := τ 20) (zs σ (s - y)) (fun j hj => ?_)]
          · have := hlo y j hy hj
            rw [hi, if_neg (by omega)]
          · have := hlo (s - y) j hz hj
            rw [hi, if_neg (by omega)]
        · rw [hi, if_pos rfl, ← hv2, ct_c (L1 := gw_up (gw_up τ 19 (y * 12 + (s - y)) v) 20 (y * 12 + (s - y)) v2 19) (L := gw_up τ 19 (y * 12 + (s - y)) v 19) (zs σ (s - y)) (fun j hj => ?_)]
          rw [gu_row (show 19 ≠ 20 by decide)]
      · refine eqn_c hy hz hlo (hI y z hy hz (by omega)) (fun u w hu hw huw => ?_) (fun u w hu hw huw => ?_)
        · rw [hl, if_neg (by omega)]
        · rw [hi, if_neg (by omega)]
theorem x_refreshO_V {σ : gw_S} {n N : Nat} (h : iN σ n N) (hn : σ 1 0 = nI n) (h7 : n ≤ 7) : ∀ (d s f : Nat) (τ : gw_S), s + d = 26 → d < f → cfV σ τ → (∀ y x, y < N → x < N → y + x < s → enV σ n (τ 19) (τ 20) y x) → ∃ τ1, f_X5_refresh_V_L32 f (nI s) τ = some τ1 ∧ cfV σ τ1 ∧ ∀ y x, y < N → x < N → enV σ n (τ1 19) (τ1 20) y x
  | d, s, 0, τ, _, q, _, _ => absurd q (Nat.not_lt_zero _)
  | d, s, f + 1, τ, q, hf, hc, hI => by
    have hN := h.2.1
    have e4 : τ 4 = σ 4 := hc 4 (by decide) (by decide)
    rw [f_X5_refresh_V_L32]
    simp only [f_X2_size, Option.bind_some]
    rw [e4, h.1]
    by_cases c : N = 0 ∨ 2 * N - 2 < s
    · rw [if_pos ((r_end s (by omega) N (by omega)).mpr c)]
      exact ⟨τ, rfl, hc, fun y x hy hx => hI y x hy hx (by omega)⟩
    · rw [if_neg (fun z => c ((r_end s (by omega) N (by omega)).mp z)), r_x0 s (by omega) N (by omega)]
      match d, q with
      | 0, q => omega
      | d + 1, q =>
        refine x_refreshM_V h hn h7 (by omega) _ _ (fun τ1 hc1 hI1 => ?_) (13 - (s + 1 - N)) (s + 1 - N) 64 τ (by omega) (by omega) (Nat.le_refl _) hc (fun y z hy hz hyz => hI y z hy hz (by omega))
        rw [nI_1]
        exact x_refreshO_V h hn h7 d (s + 1) f τ1 (by omega) (by omega) hc1 (fun y x hy hx hs => hI1 y x hy hx (by omega))
theorem x_refresh_V {σ : gw_S} {n N : Nat} (h : iN σ n N) (hn : σ 1 0 = nI n) (h7 : n ≤ 7) (hg : σ 18 6 = σ 1 1 + σ 4 2 → ∀ y x, y < N → x < N → enV σ n (σ 19) (σ 20) y x) : ∃ τ, f_X5_refresh_V σ = some τ ∧ (∀ a, a ≠ 18 → a ≠ 19 → a ≠ 20 → τ a = σ a) ∧ τ 18 6 = τ 1 1 + τ 4 2 ∧ ∀ y x, y < N → x < N → enV τ n (τ 19) (τ 20) y x := by
  unfold f_X5_refresh_V f_X3_changes f_X2_changes
  simp only [Option.bind_some]
  by_cases c : σ 18 6 = σ 1 1 + σ 4 2
  · rw [if_pos c]
    exact ⟨σ, rfl, fun _ _ _ _ => rfl, c, hg c⟩
  · rw [if_neg c]
    have g : ∀ a, a ≠ 18 → gw_up σ 18 6 (σ 1 1 + σ 4 2) a = σ a := fun a ha => gu_row ha
    obtain ⟨τ, h1, h2, h3⟩ := x_refreshO_V (iN_c h (g 4 (by decide)) (g 5 (by decide)) (g 6 (by decide))) (show gw_up σ 18 6 (σ 1 1 + σ 4 2) 1 0 = nI n by rw [g 1 (by decide)]; exact hn) h7 26 0 64 (gw_up σ 18 6 (σ 1 1 + σ 4 2)) rfl (by omega) (fun _ _ _ => rfl) (fun y x _ _ z => absurd z (Nat.not_lt_zero _))
    refine ⟨τ, h1, fun a z1 z2 z3 => (h2 a z2 z3).trans (g a z1), ?_, fun y x hy hx => ?_⟩
    · rw [h2 18 (by decide) (by decide), gu_eq, h2 1 (by decide) (by decide), h2 4 (by decide) (by decide), g 1 (by decide), g 4 (by decide)]
    · have z := h3 y x hy hx
      unfold enV uV aV at z ⊢
      rw [zs_c (h2 5 (by decide) (by decide)), lw_c (h2 6 (by decide) (by decide)), pm_c (h2 6 (by decide) (by decide)), h2 1 (by decide) (by decide), h2 2 (by decide) (by decide)]
      exact z
