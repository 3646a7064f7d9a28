/-! A world is entered: the row of codes. -/
theorem ni_or (a b : Nat) : nI a ||| nI b = nI (a ||| b) := by
  apply Int32.toBitVec_inj.1
  show BitVec.ofNat 32 a ||| BitVec.ofNat 32 b = BitVec.ofNat 32 (a ||| b)
  apply BitVec.eq_of_getLsbD_eq
  intro i hi
  simp [hi]
theorem x_pow : ∀ c, c < 16 → ((1 : Int32) <<< (nI c &&& 31)) = nI (2 ^ c) := by decide +kernel
def img (σ : gw_S) (c : Nat) : Nat := (σ 3 c).toNatClampNeg
def iM (σ : gw_S) (n : Nat) : Prop := ∀ c, c < n → σ 3 c = nI (img σ c) ∧ img σ c < n
theorem iM_c {σ τ : gw_S} {n : Nat} (h : iM σ n) (h3 : τ 3 = σ 3) : iM τ n := by
  unfold iM img at *
  rw [h3]
  exact h
def ec (hit : Nat → Bool) (C : Nat → Nat) (σ : gw_S) (m k : Nat) : Nat := if hit (pm σ m k) then 2 ^ C (lw σ m k) else 0
theorem x_enterP {τ : gw_S} {n N m w : Nat} {b : Int32} {hit : Nat → Bool} {C : Nat → Nat} (h : iN τ n N) (h7 : n ≤ 7) (hM : iM τ n) (hm : m < N) (hw : w < 32) (hh : ∀ c, c < n → hit c = if b = 0 then bt (τ 2 c) w else bt (τ 2 (img τ c)) w) (hC : ∀ j, j < m → τ 31 j = nI (C j) ∧ C j < 16) (K : Int32 → Int32 → Int32 → Int32 → gw_S → Option gw_S) : ∀ (d i f : Nat), i + d = zs τ m → d < f → f_X7_enter_L19 f K (nI w) b (nI m) (nI (oz (ec hit C τ m) i)) (nI i) τ = K (nI w) b (nI m) (nI (oz (ec hit C τ m) (zs τ m))) τ
  | d, i, 0, _, q => absurd q (Nat.not_lt_zero _)
  | 0, i, f + 1, q, _ => by
    have hN := h.2.1
    have hz := (h.2.2.1 m (by omega)).2
    have e : i = zs τ m := by omega
    rw [f_X7_enter_L19]
    simp only [x_pairsOf h (show m < 12 by omega), Option.bind_some]
    rw [if_pos (nI_le (by omega) (by omega)), e]
  | d + 1, i, f + 1, q, hf => by
    have hN := h.2.1
    have hz := (h.2.2.1 m (by omega)).2
    have hi : i < zs τ m := by omega
    have ih := x_enterP h h7 hM hm hw hh hC K d (i + 1) f (by omega) (by omega)
    obtain ⟨-, h1, h2⟩ := h.2.2.2.2 m i hm hi
    obtain ⟨hC1, hC2⟩ := hC (lw τ m i) h1
    obtain ⟨hM1, hM2⟩ := hM (pm τ m i) h2
    have hhit := hh (pm τ m i) h2
    rw [f_X7_enter_L19]
    simp only [x_pairsOf h (show m < 12 by omega), Option.bind_some]
    rw [if_neg (nI_ge (by omega) (by omega))]
    simp only [x_promise h h7 hm hi, Option.bind_some, f_X7_codeOf, nI_1, x_lower h h7 hm hi, ni_at (k := 31) (L := 12) rfl (by omega) (show lw τ m i < 12 by omega), x_image (show pm τ m i < 7 by omega), x_stands (show w < 32 from hw) (show pm τ m i < 7 by omega)]
    rw [hM1]
    simp only [x_stands (show w < 32 from hw) (show img τ (pm τ m i) < 7 by omega), Option.bind_some]
    rw [hC1, x_pow _ hC2, ni_or]
    have e1 : hit (pm τ m i) = true → oz (ec hit C τ m) (i + 1) = oz (ec hit C τ m) i ||| 2 ^ C (lw τ m i) := fun z => by
      show oz (ec hit C τ m) i ||| (if hit (pm τ m i) then 2 ^ C (lw τ m i) else 0) = _
      rw [if_pos z]
    have e2 : ¬ hit (pm τ m i) = true → oz (ec hit C τ m) (i + 1) = oz (ec hit C τ m) i := fun z => by
      show oz (ec hit C τ m) i ||| (if hit (pm τ m i) then 2 ^ C (lw τ m i) else 0) = _
      rw [if_neg z, Nat.or_zero]
    by_cases hb : b = 0
    · rw [if_pos hb] at hhit ⊢
      cases hv : bt (τ 2 (pm τ m i)) w
      · rw [if_pos (show tb false = 0 from rfl)]
        rw [e2 (by rw [hhit, hv]; decide)] at ih
        exact ih
      · rw [if_neg (show ¬ tb true = 0 by decide)]
        rw [e1 (by rw [hhit, hv])] at ih
        exact ih
    · rw [if_neg hb] at hhit ⊢
      cases hv : bt (τ 2 (img τ (pm τ m i))) w
      · rw [if_pos (show tb false = 0 from rfl)]
        rw [e2 (by rw [hhit, hv]; decide)] at ih
        exact ih
      · rw [if_neg (show ¬ tb true = 0 by decide)]
        rw [e1 (by rw [hhit, hv])] at ih
        exact ih
theorem x_enterO {σ : gw_S} {n N w : Nat} {b : Int32} {hit : Nat → Bool} {H : Nat → Nat} (h : iN σ n N) (h7 : n ≤ 7) (hM : iM σ n) (hH : iH σ N H) (hw : w < 32) (hh : ∀ c, c < n → hit c = if b = 0 then bt (σ 2 c) w else bt (σ 2 (img σ c)) w) : ∀ (d m f : Nat) (τ : gw_S), m + d = N → d < f → (∀ a, a ≠ 31 → τ a = σ a) → (∀ j, j < m → τ 31 j = nI (cw σ hit j)) → ∃ τ1, f_X7_enter_L2 f (nI w) b (nI m) τ = some τ1 ∧ (∀ a, a ≠ 31 → τ1 a = σ a) ∧ ∀ j, j < N → τ1 31 j = nI (cw σ hit j)
  | d, m, 0, τ, _, q, _, _ => absurd q (Nat.not_lt_zero _)
  | 0, m, f + 1, τ, q, _, hc, hj => by
    have hN := h.2.1
    have e : m = N := by omega
    rw [f_X7_enter_L2]
    simp only [f_X2_size, Option.bind_some]
    rw [hc 4 (by decide), h.1, if_pos (nI_le (by omega) (by omega))]
    exact ⟨τ, rfl, hc, fun j z => hj j (by omega)⟩
  | d + 1, m, f + 1, τ, q, hf, hc, hj => by
    have hN := h.2.1
    have hm : m < N := by omega
    have hiN : iN τ n N := iN_c h (hc 4 (by decide)) (hc 5 (by decide)) (hc 6 (by decide))
    have hz := (h.2.2.1 m (by omega)).2
    rw [f_X7_enter_L2]
    simp only [f_X2_size, Option.bind_some]
    rw [hc 4 (by decide), h.1, if_neg (nI_ge (by omega) (by omega))]
    have e0 : (0 : Int32) = nI (oz (ec hit (cw σ hit) τ m) 0) := rfl
    have hp := x_enterP (τ := τ) (C := cw σ hit) hiN h7 (iM_c hM (hc 3 (by decide))) hm hw (hit := hit) (b := b) (fun c z => by rw [hh c z, hc 2 (by decide)]; unfold img; rw [hc 3 (by decide)]) (fun j z => ⟨hj j z, cw_16 h hH hit (by omega)⟩) (fun w19_1 w19_2 w19_3 w19_4 σ19 => ((f_X8_put 31 w19_3 w19_4 σ19).bind fun p11 => (f_X7_enter_L2 f w19_1 w19_2 (w19_3 + (1 : Int32)) p11))) (zs τ m) 0 64 (by omega) (by rw [zs_c (hc 5 (by decide))]; omega)
    rw [show (0 : Int32) = nI 0 from rfl]
    refine Exists.imp (fun τ1 z => ⟨hp.trans z.1, z.2⟩) ?_
    simp only [ni_put (k := 31) (L := 12) rfl (by omega) (show m < 12 by omega), Option.bind_some, nI_1]
    refine x_enterO h h7 hM hH hw hh d (m + 1) f _ (by omega) (by omega) (fun a ha => by rw [gu_row ha]; exact hc a ha) (fun j hj1 => ?_)
    by_cases c : j = m
    · subst c
      rw [gu_eq, cw_eq h hit hm, zs_c (hc 5 (by decide))]
      refine congrArg nI (oz_c _ (fun k _ => ?_))
      unfold ec
      rw [lw_c (hc 6 (by decide)), pm_c (hc 6 (by decide))]
    · rw [gu_ne c]
      exact hj j (by omega)
theorem x_enter {σ : gw_S} {n N w : Nat} {b : Int32} {hit : Nat → Bool} {H : Nat → Nat} (h : iN σ n N) (h7 : n ≤ 7) (hM : iM σ n) (hH : iH σ N H) (hw : w < 32) (hh : ∀ c, c < n → hit c = if b = 0 then bt (σ 2 c) w else bt (σ 2 (img σ c)) w) : ∃ τ, f_X7_enter (nI w) b σ = some τ ∧ (∀ a, a ≠ 31 → τ a = σ a) ∧ ∀ m, m < N → τ 31 m = nI (cw σ hit m) := by
  have hN := h.2.1
  unfold f_X7_enter
  exact x_enterO h h7 hM hH hw hh N 0 64 σ (by omega) (by omega) (fun _ _ => rfl) (fun j z => absurd z (Nat.not_lt_zero _))
