/-! Ranks: of all names by their pairs, or as if one had one more. -/
def mx (f : Nat → Nat) (b : Nat) : Nat → Nat
  | 0 => b
  | k + 1 => if mx f b k < f k then f k else mx f b k
theorem mx_le {f : Nat → Nat} {b B : Nat} : ∀ k, mx f b k ≤ B ↔ b ≤ B ∧ ∀ j, j < k → f j ≤ B
  | 0 => ⟨fun h => ⟨h, fun j z => absurd z (Nat.not_lt_zero _)⟩, fun h => h.1⟩
  | k + 1 => by
    have ih := mx_le (f := f) (b := b) (B := B) k
    show (if mx f b k < f k then f k else mx f b k) ≤ B ↔ _
    constructor
    · intro h
      have h1 : mx f b k ≤ B ∧ f k ≤ B := by split at h <;> omega
      obtain ⟨h2, h3⟩ := ih.mp h1.1
      exact ⟨h2, fun j hj => if c : j = k then by rw [c]; exact h1.2 else h3 j (by omega)⟩
    · rintro ⟨h2, h3⟩
      have h4 := ih.mpr ⟨h2, fun j hj => h3 j (by omega)⟩
      have h5 := h3 k (by omega)
      split <;> omega
theorem mx_b (f : Nat → Nat) (b k : Nat) : b ≤ mx f b k := ((mx_le k).mp (Nat.le_refl _)).1
theorem mx_f (f : Nat → Nat) (b : Nat) {k j : Nat} (h : j < k) : f j ≤ mx f b k := ((mx_le k).mp (Nat.le_refl _)).2 j h
theorem mx_eq {f g : Nat → Nat} {b c k l : Nat} (h : ∀ B, (b ≤ B ∧ ∀ j, j < k → f j ≤ B) ↔ (c ≤ B ∧ ∀ j, j < l → g j ≤ B)) : mx f b k = mx g c l := by
  have h1 := (mx_le (f := f) (b := b) k).mpr ((h _).mpr ((mx_le (f := g) (b := c) l).mp (Nat.le_refl _)))
  have h2 := (mx_le (f := g) (b := c) l).mpr ((h _).mp ((mx_le (f := f) (b := b) k).mp (Nat.le_refl _)))
  omega
theorem mx_c {f g : Nat → Nat} {b : Nat} : ∀ k, (∀ j, j < k → f j = g j) → mx f b k = mx g b k
  | 0, _ => rfl
  | k + 1, h => by
    show (if mx f b k < f k then f k else mx f b k) = (if mx g b k < g k then g k else mx g b k)
    rw [mx_c k (fun j hj => h j (by omega)), h k (by omega)]
def rz (z : Nat → Nat) (lo : Nat → Nat → Nat) : Nat → Nat → Nat
  | 0, _ => 0
  | t + 1, m => mx (fun k => 1 + rz z lo t (lo m k)) 0 (z m)
theorem rz_f {z : Nat → Nat} {lo : Nat → Nat → Nat} {N : Nat} (h : ∀ m k, m < N → k < z m → lo m k < m) : ∀ (m t u : Nat), m < N → m < t → m < u → rz z lo t m = rz z lo u m
  | m, 0, u, _, q, _ => absurd q (Nat.not_lt_zero _)
  | m, t + 1, 0, _, _, q => absurd q (Nat.not_lt_zero _)
  | m, t + 1, u + 1, hm, ht, hu => by
    show mx _ 0 _ = mx _ 0 _
    refine mx_c _ (fun k hk => ?_)
    have hl := h m k hm hk
    show 1 + rz z lo t (lo m k) = 1 + rz z lo u (lo m k)
    rw [rz_f h (lo m k) t u (by omega) (by omega) (by omega)]
  termination_by m => m
/-- the rank -/
def rw1 (z : Nat → Nat) (lo : Nat → Nat → Nat) (m : Nat) : Nat := rz z lo 13 m
theorem rw1_eq {z : Nat → Nat} {lo : Nat → Nat → Nat} {N : Nat} (hN : N ≤ 12) (h : ∀ m k, m < N → k < z m → lo m k < m) {m : Nat} (hm : m < N) : rw1 z lo m = mx (fun k => 1 + rw1 z lo (lo m k)) 0 (z m) := by
  show mx _ 0 _ = mx _ 0 _
  refine mx_c _ (fun k hk => ?_)
  have hl := h m k hm hk
  show 1 + rz z lo 12 (lo m k) = 1 + rz z lo 13 (lo m k)
  rw [rz_f h (lo m k) 12 13 (by omega) (by omega) (by omega)]
theorem rw1_le {z : Nat → Nat} {lo : Nat → Nat → Nat} {N : Nat} (hN : N ≤ 12) (h : ∀ m k, m < N → k < z m → lo m k < m) : ∀ (t m : Nat), m < t → m < N → rw1 z lo m ≤ m
  | 0, m, q, _ => absurd q (Nat.not_lt_zero _)
  | t + 1, m, q, hm => by
    rw [rw1_eq hN h hm, mx_le]
    refine ⟨by omega, fun k hk => ?_⟩
    have hl := h m k hm hk
    have := rw1_le hN h t (lo m k) (by omega) (by omega)
    show 1 + rw1 z lo (lo m k) ≤ m
    omega
theorem rw1_c {z z1 : Nat → Nat} {lo lo1 : Nat → Nat → Nat} {N : Nat} (hN : N ≤ 12) (h : ∀ m k, m < N → k < z m → lo m k < m) (hz : ∀ m, m < N → z1 m = z m) (hl : ∀ m k, m < N → k < z m → lo1 m k = lo m k) : ∀ (t m : Nat), m < t → m < N → rw1 z1 lo1 m = rw1 z lo m
  | 0, m, q, _ => absurd q (Nat.not_lt_zero _)
  | t + 1, m, q, hm => by
    have h1 : ∀ m k, m < N → k < z1 m → lo1 m k < m := fun m k hm hk => by
      rw [hz m hm] at hk
      rw [hl m k hm hk]
      exact h m k hm hk
    rw [rw1_eq hN h hm, rw1_eq hN h1 hm, hz m hm]
    refine mx_c _ (fun k hk => ?_)
    have hlt := h m k hm hk
    show 1 + rw1 z1 lo1 (lo1 m k) = 1 + rw1 z lo (lo m k)
    rw [hl m k hm hk, rw1_c hN h hz hl t (lo m k) (by omega) (by omega)]
/-- one more pair of x, with l -/
def z1x (z : Nat → Nat) (x : Nat) : Nat → Nat := fun m => if m = x then z m + 1 else z m
def lo1x (z : Nat → Nat) (lo : Nat → Nat → Nat) (x l : Nat) : Nat → Nat → Nat := fun m k => if m = x ∧ k = z x then l else lo m k
theorem x_max (a b : Nat) (ha : a < 2 ^ 31) (hb : b + 1 < 2 ^ 31) : (if nI a < ((1 : Int32) + nI b) then ((1 : Int32) + nI b) else nI a) = nI (if a < 1 + b then 1 + b else a) := by
  have e : (1 : Int32) + nI b = nI (1 + b) := nI_add 1 b
  rw [e]
  by_cases c : a < 1 + b
  · rw [if_pos c, if_pos (nI_lt c (by omega))]
  · rw [if_neg c, if_neg (nI_nlt (by omega) ha)]
theorem x_rankP_h {τ : gw_S} {n N m : Nat} {R : Nat → Nat} (h : iN τ n N) (h7 : n ≤ 7) (hm : m < N) (hR : ∀ j, j < m → τ 7 j = nI (R j) ∧ R j < 100) (x l : Int32) (K : Int32 → Int32 → Int32 → Int32 → gw_S → Option gw_S) (b : Nat) (hb : b < 101) : ∀ (d i f : Nat), i + d = zs τ m → d < f → f_X2_rankAll_h_L34 f K x l (nI m) (nI (mx (fun k => 1 + R (lw τ m k)) b i)) (nI i) τ = K x l (nI m) (nI (mx (fun k => 1 + R (lw τ m k)) b (zs τ m))) τ
  | d, i, 0, _, q => absurd q (Nat.not_lt_zero _)
  | 0, i, f + 1, q, _ => by
    have hN := h.2.1
    have hz := (h.2.2.1 m (by omega)).2
    have e : i = zs τ m := by omega
    rw [f_X2_rankAll_h_L34]
    simp only [x_pairsOf h (show m < 12 by omega), Option.bind_some]
    rw [if_pos (nI_le (by omega) (by omega)), e]
  | d + 1, i, f + 1, q, hf => by
    have hN := h.2.1
    have hz := (h.2.2.1 m (by omega)).2
    have hi : i < zs τ m := by omega
    obtain ⟨-, h1, h2⟩ := h.2.2.2.2 m i hm hi
    obtain ⟨r1, r2⟩ := hR (lw τ m i) h1
    have ih := x_rankP_h h h7 hm hR x l K b hb d (i + 1) f (by omega) (by omega)
    have hmx : mx (fun k => 1 + R (lw τ m k)) b i ≤ 101 := (mx_le i).mpr ⟨by omega, fun j hj => by
      have := (hR (lw τ m j) (h.2.2.2.2 m j hm (by omega)).2.1).2
      show 1 + R (lw τ m j) ≤ 101
      omega⟩
    rw [f_X2_rankAll_h_L34]
    simp only [x_pairsOf h (show m < 12 by omega), Option.bind_some]
    rw [if_neg (nI_ge (by omega) (by omega))]
    simp only [x_lower h h7 hm hi, Option.bind_some, ni_at (k := 7) (L := 12) rfl (by omega) (show lw τ m i < 12 by omega), nI_1]
    rw [r1, x_max _ _ (by omega) (by omega)]
    exact ih
theorem x_rankP_t {τ : gw_S} {n N m : Nat} {R : Nat → Nat} (h : iN τ n N) (h7 : n ≤ 7) (hm : m < N) (hR : ∀ j, j < m → τ 8 j = nI (R j) ∧ R j < 100) (x l : Int32) (K : Int32 → Int32 → Int32 → Int32 → gw_S → Option gw_S) (b : Nat) (hb : b < 101) : ∀ (d i f : Nat), i + d = zs τ m → d < f → f_X2_rankAll_t_L34 f K x l (nI m) (nI (mx (fun k => 1 + R (lw τ m k)) b i)) (nI i) τ = K x l (nI m) (nI (mx (fun k => 1 + R (lw τ m k)) b (zs τ m))) τ
  | d, i, 0, _, q => absurd q (Nat.not_lt_zero _)
  | 0, i, f + 1, q, _ => by
    have hN := h.2.1
    have hz := (h.2.2.1 m (by omega)).2
    have e : i = zs τ m := by omega
    rw [f_X2_rankAll_t_L34]
    simp only [x_pairsOf h (show m < 12 by omega), Option.bind_some]
    rw [if_pos (nI_le (by omega) (by omega)), e]
  | d + 1, i, f + 1, q, hf => by
    have hN := h.2.1
    have hz := (h.2.2.1 m (by omega)).2
    have hi : i < zs τ m := by omega
    obtain ⟨-, h1, h2⟩ := h.2.2.2.2 m i hm hi
    obtain ⟨r1, r2⟩ := hR (lw τ m i) h1
    have ih := x_rankP_t h h7 hm hR x l K b hb d (i + 1) f (by omega) (by omega)
    have hmx : mx (fun k => 1 + R (lw τ m k)) b i ≤ 101 := (mx_le i).mpr ⟨by omega, fun j hj => by
      have := (hR (lw τ m j) (h.2.2.2.2 m j hm (by omega)).2.1).2
      show 1 + R (lw τ m j) ≤ 101
      omega⟩
    rw [f_X2_rankAll_t_L34]
    simp only [x_pairsOf h (show m < 12 by omega), Option.bind_some]
    rw [if_neg (nI_ge (by omega) (by omega))]
    simp only [x_lower h h7 hm hi, Option.bind_some, ni_at (k := 8) (L := 12) rfl (by omega) (show lw τ m i < 12 by omega), nI_1]
    rw [r1, x_max _ _ (by omega) (by omega)]
    exact ih
/-- all names are ranked -/
theorem x_rankO_h {σ : gw_S} {n N : Nat} (h : iN σ n N) (h7 : n ≤ 7) : ∀ (d m f : Nat) (τ : gw_S), m + d = N → d < f → (∀ a, a ≠ 7 → τ a = σ a) → (∀ j, j < m → τ 7 j = nI (rw1 (zs σ) (lw σ) j)) → ∃ τ1, f_X2_rankAll_h_L3 f (-1) (-1) (nI m) τ = some τ1 ∧ (∀ a, a ≠ 7 → τ1 a = σ a) ∧ ∀ j, j < N → τ1 7 j = nI (rw1 (zs σ) (lw σ) j)
  | d, m, 0, τ, _, q, _, _ => absurd q (Nat.not_lt_zero _)
  | 0, m, f + 1, τ, q, _, hc, hj => by
    have hN := h.2.1
    have e : m = N := by omega
    rw [f_X2_rankAll_h_L3, hc 4 (by decide), h.1, if_pos (nI_le (by omega) (by omega))]
    exact ⟨τ, rfl, hc, fun j z => hj j (by omega)⟩
  | d + 1, m, f + 1, τ, q, hf, hc, hj => by
    have hN := h.2.1
    have hm : m < N := by omega
    have hlo : ∀ m k, m < N → k < zs σ m → lw σ m k < m := fun m k a b => (h.2.2.2.2 m k a b).2.1
    have hiN : iN τ n N := iN_c h (hc 4 (by decide)) (hc 5 (by decide)) (hc 6 (by decide))
    have hz := (h.2.2.1 m (by omega)).2
    rw [f_X2_rankAll_h_L3, hc 4 (by decide), h.1, if_neg (nI_ge (by omega) (by omega)), if_neg (fun z => by
      have z1 := congrArg Int32.toInt z
      rw [nI_toInt (show m < 2 ^ 31 by omega), show (-1 : Int32).toInt = -1 from by decide] at z1
      omega)]
    have hp := x_rankP_h (τ := τ) (R := rw1 (zs σ) (lw σ)) hiN h7 hm (fun j z => ⟨hj j z, by have := rw1_le hN hlo (j + 1) j (by omega) (by omega); omega⟩) (-1) (-1) (fun w34_2 w34_3 w34_4 w34_5 σ34 => ((f_X8_put 7 w34_4 w34_5 σ34).bind fun p4 => (f_X2_rankAll_h_L3 f w34_2 w34_3 (w34_4 + (1 : Int32)) p4))) 0 (by omega) (zs τ m) 0 64 (by omega) (by rw [zs_c (hc 5 (by decide))]; omega)
    refine Exists.imp (fun τ1 z => ⟨hp.trans z.1, z.2⟩) ?_
    simp only [ni_put (k := 7) (L := 12) rfl (by omega) (show m < 12 by omega), Option.bind_some, nI_1]
    refine x_rankO_h h h7 d (m + 1) f _ (by omega) (by omega) (fun a ha => by rw [gu_row ha]; exact hc a ha) (fun j hj1 => ?_)
    by_cases c : j = m
    · subst c
      rw [gu_eq, rw1_eq hN hlo hm, zs_c (hc 5 (by decide)), lw_c (hc 6 (by decide))]
    · rw [gu_ne c]
      exact hj j (by omega)
theorem x_rank {σ : gw_S} {n N : Nat} (h : iN σ n N) (h7 : n ≤ 7) : ∃ τ, f_X2_rankAll_h (-1 : Int32) (-1 : Int32) σ = some τ ∧ (∀ a, a ≠ 7 → τ a = σ a) ∧ ∀ j, j < N → τ 7 j = nI (rw1 (zs σ) (lw σ) j) := by
  have hN := h.2.1
  exact x_rankO_h h h7 N 0 64 σ (by omega) (by omega) (fun _ _ => rfl) (fun j z => absurd z (Nat.not_lt_zero _))
theorem lo1_lt {σ : gw_S} {n N x l : Nat} (h : iN σ n N) (hl : l < x) : ∀ m k, m < N → k < z1x (zs σ) x m → lo1x (zs σ) (lw σ) x l m k < m := by
  intro m k hm hk
  unfold z1x at hk
  unfold lo1x
  by_cases c : m = x ∧ k = zs σ x
  · rw [if_pos c]
    omega
  · rw [if_neg c]
    refine (h.2.2.2.2 m k hm ?_).2.1
    by_cases c2 : m = x
    · rw [if_pos c2] at hk
      have : k ≠ zs σ x := fun z => c ⟨c2, z⟩
      rw [c2] at hk ⊢
      omega
    · rw [if_neg c2] at hk
      exact hk
theorem x_rankO_t {σ : gw_S} {n N x l : Nat} (h : iN σ n N) (h7 : n ≤ 7) (hx : x < N) (hl : l < x) : ∀ (d m f : Nat) (τ : gw_S), m + d = N → d < f → (∀ a, a ≠ 8 → τ a = σ a) → (∀ j, j < m → τ 8 j = nI (rw1 (z1x (zs σ) x) (lo1x (zs σ) (lw σ) x l) j)) → ∃ τ1, f_X2_rankAll_t_L3 f (nI x) (nI l) (nI m) τ = some τ1 ∧ (∀ a, a ≠ 8 → τ1 a = σ a) ∧ ∀ j, j < N → τ1 8 j = nI (rw1 (z1x (zs σ) x) (lo1x (zs σ) (lw σ) x l) j)
  | d, m, 0, τ, _, q, _, _ => absurd q (Nat.not_lt_zero _)
  | 0, m, f + 1, τ, q, _, hc, hj => by
    have hN := h.2.1
    have e : m = N := by omega
    rw [f_X2_rankAll_t_L3, hc 4 (by decide), h.1, if_pos (nI_le (by omega) (by omega))]
    exact ⟨τ, rfl, hc, fun j z => hj j (by omega)⟩
  | d + 1, m, f + 1, τ, q, hf, hc, hj => by
    have hN := h.2.1
    have hm : m < N := by omega
    have hlo := lo1_lt h hl
    have hiN : iN τ n N := iN_c h (hc 4 (by decide)) (hc 5 (by decide)) (hc 6 (by decide))
    have hz := (h.2.2.1 m (by omega)).2
    have hRb : ∀ j, j < N → rw1 (z1x (zs σ) x) (lo1x (zs σ) (lw σ) x l) j < 100 := fun j z => by
      have := rw1_le hN hlo (j + 1) j (by omega) z
      omega
    have key : rw1 (z1x (zs σ) x) (lo1x (zs σ) (lw σ) x l) m = mx (fun k => 1 + rw1 (z1x (zs σ) x) (lo1x (zs σ) (lw σ) x l) (lw σ m k)) (if m = x then 1 + rw1 (z1x (zs σ) x) (lo1x (zs σ) (lw σ) x l) l else 0) (zs σ m) := by
      rw [rw1_eq hN hlo hm]
      refine mx_eq (fun B => ?_)
      unfold z1x lo1x
      by_cases c : m = x
      · subst c
        rw [if_pos rfl, if_pos rfl]
        constructor
        · rintro ⟨-, z⟩
          refine ⟨?_, fun j hj1 => ?_⟩
          · have := z (zs σ m) (by omega)
            rw [if_pos ⟨rfl, rfl⟩] at this
            exact this
          · have := z j (by omega)
            rw [if_neg (fun y => by omega)] at this
            exact this
        · rintro ⟨z1, z2⟩
          refine ⟨by omega, fun j hj1 => ?_⟩
          by_cases cj : j = zs σ m
          · rw [if_pos ⟨rfl, cj⟩]
            exact z1
          · rw [if_neg (fun y => cj y.2)]
            exact z2 j (by omega)
      · rw [if_neg c, if_neg c]
        constructor
        · rintro ⟨z1, z2⟩
          refine ⟨z1, fun j hj1 => ?_⟩
          have := z2 j hj1
          rw [if_neg (fun y => c y.1)] at this
          exact this
        · rintro ⟨z1, z2⟩
          refine ⟨z1, fun j hj1 => ?_⟩
          rw [if_neg (fun y => c y.1)]
          exact z2 j hj1
    rw [f_X2_rankAll_t_L3, hc 4 (by decide), h.1, if_neg (nI_ge (by omega) (by omega))]
    have fin : ∀ K, (K = fun (w34_2 w34_3 w34_4 w34_5 : Int32) (σ34 : gw_S) => ((f_X8_put 8 w34_4 w34_5 σ34).bind fun p4 => (f_X2_rankAll_t_L3 f w34_2 w34_3 (w34_4 + (1 : Int32)) p4))) → ∃ τ1, K (nI x) (nI l) (nI m) (nI (rw1 (z1x (zs σ) x) (lo1x (zs σ) (lw σ) x l) m)) τ = some τ1 ∧ (∀ a, a ≠ 8 → τ1 a = σ a) ∧ ∀ j, j < N → τ1 8 j = nI (rw1 (z1x (zs σ) x) (lo1x (zs σ) (lw σ) x l) j) := fun K hK => by
      subst hK
      simp only [ni_put (k := 8) (L := 12) rfl (by omega) (show m < 12 by omega), Option.bind_some, nI_1]
      refine x_rankO_t h h7 hx hl d (m + 1) f _ (by omega) (by omega) (fun a ha => by rw [gu_row ha]; exact hc a ha) (fun j hj1 => ?_)
      by_cases c : j = m
      · subst c
        rw [gu_eq]
      · rw [gu_ne c]
        exact hj j (by omega)
    have hR : ∀ j, j < m → τ 8 j = nI (rw1 (z1x (zs σ) x) (lo1x (zs σ) (lw σ) x l) j) ∧ rw1 (z1x (zs σ) x) (lo1x (zs σ) (lw σ) x l) j < 100 := fun j z => ⟨hj j z, hRb j (by omega)⟩
    by_cases c : m = x
    · rw [if_pos (by rw [c])]
      simp only [ni_at (k := 8) (L := 12) rfl (by omega) (show l < 12 by omega), Option.bind_some]
      rw [hj l (by omega), show (1 : Int32) + nI (rw1 (z1x (zs σ) x) (lo1x (zs σ) (lw σ) x l) l) = nI (1 + rw1 (z1x (zs σ) x) (lo1x (zs σ) (lw σ) x l) l) from nI_add 1 _]
      have hp := x_rankP_t (τ := τ) hiN h7 hm hR (nI x) (nI l) (fun (w34_2 w34_3 w34_4 w34_5 : Int32) (σ34 : gw_S) => ((f_X8_put 8 w34_4 w34_5 σ34).bind fun p6 => (f_X2_rankAll_t_L3 f w34_2 w34_3 (w34_4 + (1 : Int32)) p6))) (1 + rw1 (z1x (zs σ) x) (lo1x (zs σ) (lw σ) x l) l) (by have := hRb l (by omega); omega) (zs τ m) 0 64 (by omega) (by rw [zs_c (hc 5 (by decide))]; omega)
      refine Exists.imp (fun τ1 z => ⟨hp.trans z.1, z.2⟩) ?_
      rw [zs_c (hc 5 (by decide)), lw_c (hc 6 (by decide))]
      rw [if_pos c] at key
      rw [← key]
      exact fin _ rfl
    · rw [if_neg (fun z => c ((nI_eq (by omega) (by omega)).mp z))]
      have hp := x_rankP_t (τ := τ) hiN h7 hm hR (nI x) (nI l) (fun (w34_2 w34_3 w34_4 w34_5 : Int32) (σ34 : gw_S) => ((f_X8_put 8 w34_4 w34_5 σ34).bind fun p4 => (f_X2_rankAll_t_L3 f w34_2 w34_3 (w34_4 + (1 : Int32)) p4))) 0 (by omega) (zs τ m) 0 64 (by omega) (by rw [zs_c (hc 5 (by decide))]; omega)
      refine Exists.imp (fun τ1 z => ⟨hp.trans z.1, z.2⟩) ?_
      rw [zs_c (hc 5 (by decide)), lw_c (hc 6 (by decide))]
      rw [if_neg c] at key
      rw [← key]
      exact fin _ rfl
theorem x_trial {σ : gw_S} {n N x l : Nat} (h : iN σ n N) (h7 : n ≤ 7) (hx : x < N) (hl : l < x) : ∃ τ, f_X2_rankAll_t (nI x) (nI l) σ = some τ ∧ (∀ a, a ≠ 8 → τ a = σ a) ∧ ∀ j, j < N → τ 8 j = nI (rw1 (z1x (zs σ) x) (lo1x (zs σ) (lw σ) x l) j) := by
  have hN := h.2.1
  exact x_rankO_t h h7 hx hl N 0 64 σ (by omega) (by omega) (fun _ _ => rfl) (fun j z => absurd z (Nat.not_lt_zero _))
theorem x_riseL {σ τ : gw_S} {n N : Nat} {R : Nat → Nat} (h : iN σ n N) (hc : τ 4 = σ 4) (hR : ∀ j, j < N → τ 8 j = nI (R j) ∧ R j < 100) : ∀ (d i f : Nat), i + d = N → d < f → (∀ j, j < i → R j ≤ 3) → ∃ b : Bool, f_X2_wouldRiseTooHigh_L12 f (nI i) τ = some (tb b, τ) ∧ (b = false ↔ ∀ j, j < N → R j ≤ 3)
  | d, i, 0, _, q, _ => absurd q (Nat.not_lt_zero _)
  | 0, i, f + 1, q, _, hi => by
    have hN := h.2.1
    have e : i = N := by omega
    rw [f_X2_wouldRiseTooHigh_L12, hc, h.1, if_pos (nI_le (by omega) (by omega))]
    exact ⟨false, rfl, fun _ => fun j z => hi j (by omega), fun _ => rfl⟩
  | d + 1, i, f + 1, q, hf, hi => by
    have hN := h.2.1
    obtain ⟨r1, r2⟩ := hR i (by omega)
    rw [f_X2_wouldRiseTooHigh_L12, hc, h.1, if_neg (nI_ge (by omega) (by omega))]
    simp only [ni_at (k := 8) (L := 12) rfl (by omega) (show i < 12 by omega), Option.bind_some, nI_1]
    rw [r1]
    by_cases c : R i ≤ 3
    · rw [if_pos (show nI (R i) ≤ nI 3 from nI_le c (by omega))]
      exact x_riseL h hc hR d (i + 1) f (by omega) (by omega) (fun j z => if e : j = i then by rw [e]; exact c else hi j (by omega))
    · rw [if_neg (show ¬ nI (R i) ≤ nI 3 from nI_ge (by omega) (by omega))]
      exact ⟨true, rfl, fun z => (nomatch z), fun z => absurd (z i (by omega)) c⟩
theorem x_rise {σ : gw_S} {n N x l : Nat} (h : iN σ n N) (h7 : n ≤ 7) (hx : x < N) (hl : l < x) : ∃ (b : Bool) (τ : gw_S), f_X2_wouldRiseTooHigh (nI x) (nI l) σ = some (tb b, τ) ∧ (∀ a, a ≠ 8 → τ a = σ a) ∧ (b = false ↔ ∀ j, j < N → rw1 (z1x (zs σ) x) (lo1x (zs σ) (lw σ) x l) j ≤ 3) := by
  have hN := h.2.1
  obtain ⟨τ, h1, h2, h3⟩ := x_trial h h7 hx hl
  obtain ⟨b, h4, h5⟩ := x_riseL (τ := τ) (R := rw1 (z1x (zs σ) x) (lo1x (zs σ) (lw σ) x l)) h (h2 4 (by decide)) (fun j z => ⟨h3 j z, by have := rw1_le hN (lo1_lt h hl) (j + 1) j (by omega) z; omega⟩) N 0 64 (by omega) (by omega) (fun j z => absurd z (Nat.not_lt_zero _))
  refine ⟨b, τ, ?_, h2, h5⟩
  unfold f_X2_wouldRiseTooHigh
  rw [h1]
  exact h4
