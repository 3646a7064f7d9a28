/-! Formulas in the world that was entered. -/
theorem bt_nI (x : Nat) {i : Nat} (hi : i < 32) : bt (nI x) i = x.testBit i := by
  show (BitVec.ofNat 32 x).getLsbD i = _
  rw [BitVec.getLsbD_ofNat, decide_eq_true hi, Bool.true_and]
theorem al_f {P : Nat → Bool} {i : Nat} (h : al P i = false) : ∀ k, i ≤ k → al P k = false := fun k hk => by
  cases z : al P k
  · rfl
  · rw [(al_iff P i).mpr (fun j hj => (al_iff P k).mp z j (by omega))] at h
    cases h
theorem ae_t {P : Nat → Bool} {i : Nat} (h : ae P i = true) : ∀ k, i ≤ k → ae P k = true := fun k hk => by
  obtain ⟨j, h1, h2⟩ := (ae_iff P i).mp h
  exact (ae_iff P k).mpr ⟨j, by omega, h2⟩
theorem tc_16 {σ : gw_S} {n N t : Nat} {H : Nat → Nat} (h : iN σ n N) (hH : iH σ N H) (hit : Nat → Bool) {γ : Nat → Nat} (ht : tm N t) (hr : ∀ l, l < 4 → t = 100 + l → γ l < 16) : tc σ hit γ t < 16 := by
  have hN := h.2.1
  unfold tc
  rcases ht with z | ⟨z1, z2⟩
  · rw [if_pos (by omega)]
    exact cw_16 h hH hit z
  · rw [if_neg (by omega)]
    exact hr (t - 100) (by omega) (by omega)
theorem x_meant {σ τ : gw_S} {n N t : Nat} {hit : Nat → Bool} {γ : Nat → Nat} (h : iN σ n N) (h31 : ∀ m, m < N → τ 31 m = nI (cw σ hit m)) (ht : tm N t) (hr : ∀ l, l < 4 → t = 100 + l → τ 32 l = nI (γ l)) : f_X7_meant (nI t) τ = some (nI (tc σ hit γ t), τ) := by
  have hN := h.2.1
  unfold f_X7_meant
  rcases ht with z | ⟨z1, z2⟩
  · simp only [x_isLetter (show t < 2 ^ 31 by omega), Option.bind_some]
    rw [decide_eq_false (by omega), if_pos (show tb false = 0 from rfl)]
    simp only [ni_at (k := 31) (L := 12) rfl (by omega) (show t < 12 by omega), Option.bind_some]
    unfold tc
    rw [if_pos (by omega), h31 t z]
  · have e1 : nI t - (100 : Int32) = nI (t - 100) := pk_sub z1
    simp only [x_isLetter (show t < 2 ^ 31 by omega), Option.bind_some]
    rw [decide_eq_true ⟨z1, z2⟩, if_neg (show ¬ tb true = 0 by decide), e1]
    simp only [ni_at (k := 32) (L := 4) rfl (by omega) (show t - 100 < 4 by omega), Option.bind_some]
    unfold tc
    rw [if_neg (by omega), hr (t - 100) (by omega) (by omega)]
/-- what a loop over codes comes to -/
def lp (each : Bool) (C : Nat) (X : Nat → Bool) (k : Nat) : Bool := if each then al (fun i => !C.testBit i || X i) k else ae (fun i => C.testBit i && X i) k
theorem lp_stop {each : Bool} {C : Nat} {X : Nat → Bool} {i k : Nat} (h : ¬ lp each C X i = each) (hk : i ≤ k) : lp each C X k = lp each C X i := by
  unfold lp at *
  cases each
  · rw [if_neg (by decide)] at h ⊢
    rw [if_neg (by decide)]
    have h2 : ae (fun i => C.testBit i && X i) i = true := by
      cases z : ae (fun i => C.testBit i && X i) i
      · exact absurd z h
      · rfl
    rw [ae_t h2 k hk, h2]
  · rw [if_pos rfl] at h ⊢
    rw [if_pos rfl]
    have h2 : al (fun i => !C.testBit i || X i) i = false := by
      cases z : al (fun i => !C.testBit i || X i) i
      · rfl
      · exact absurd z h
    rw [al_f h2 k hk, h2]
theorem lp_skip {each : Bool} {C : Nat} {X : Nat → Bool} {i : Nat} (h : C.testBit i = false) : lp each C X (i + 1) = lp each C X i := by
  unfold lp
  cases each
  · show (ae _ i || (C.testBit i && X i)) = ae _ i
    rw [h, Bool.false_and, Bool.or_false]
  · show (al _ i && (!C.testBit i || X i)) = al _ i
    rw [h]
    exact Bool.and_true _
theorem lp_step {each : Bool} {C : Nat} {X : Nat → Bool} {i : Nat} (h : C.testBit i = true) (h1 : lp each C X i = each) : lp each C X (i + 1) = X i := by
  unfold lp at *
  cases each
  · rw [if_neg (by decide)] at h1
    show (ae _ i || (C.testBit i && X i)) = X i
    rw [h1, h]
    rfl
  · rw [if_pos rfl] at h1
    show (al _ i && (!C.testBit i || X i)) = X i
    rw [h1, h]
    rfl
theorem x_soL {τ0 : gw_S} {f b c C deep : Nat} (each : Bool) (J : Int32 → Int32 → gw_S → Option (Int32 × gw_S)) (hc : c < 4) (hf : f < 16) (h14 : τ0 14 f = nI b) (hC : C < 16) (X : Nat → Bool)
    (hJ : ∀ m, m < 16 → J (nI b) (nI (deep + 1)) (gw_up τ0 32 c (nI m)) = some (tb (X m), gw_up τ0 32 c (nI m))) :
    ∀ (d i fu : Nat) (τ : gw_S), i + d = 16 → d < fu → (∀ v, gw_up τ 32 c v = gw_up τ0 32 c v) → f_X7_isBoundSo_L61 J fu (nI f) (nI deep) (nI C) (nI c) (τ0 32 c) (tb each) (tb (lp each C X i)) (nI i) τ = some (tb (lp each C X 16), τ0)
  | d, i, 0, _, _, q, _ => absurd q (Nat.not_lt_zero _)
  | 0, i, fu + 1, τ, q, _, hu => by
    have e : i = 16 := by omega
    subst e
    rw [f_X7_isBoundSo_L61, if_pos (show nI 16 ≤ nI 16 from nI_le (by omega) (by omega))]
    simp only [ni_put (k := 32) (L := 4) rfl (by omega) hc, Option.bind_some, hu, gu_self]
  | d + 1, i, fu + 1, τ, q, hfu, hu => by
    have ih := x_soL each J hc hf h14 hC X hJ d (i + 1) fu
    rw [f_X7_isBoundSo_L61, if_neg (show ¬ nI 16 ≤ nI i from nI_ge (by omega) (by omega))]
    by_cases k : lp each C X i = each
    · rw [if_pos (by rw [k])]
      simp only [x_contains _ (show i < 32 by omega), Option.bind_some, bt_nI C (show i < 32 by omega), nI_1]
      cases hb : C.testBit i
      · rw [if_pos (show tb false = 0 from rfl)]
        have z := ih τ (by omega) (by omega) hu
        rw [lp_skip hb] at z
        exact z
      · rw [if_neg (show ¬ tb true = 0 by decide)]
        simp only [ni_put (k := 32) (L := 4) rfl (by omega) hc, Option.bind_some, hu, x_second hf]
        rw [gu_row (show (14 : Nat) ≠ 32 by decide), h14, hJ i (by omega)]
        have z := ih (gw_up τ0 32 c (nI i)) (by omega) (by omega) (fun v => gu_twice _ _ _ _ _)
        rw [lp_step hb k] at z
        exact z
    · rw [if_neg (fun z => k ((tb_i _ _).mp z))]
      simp only [ni_put (k := 32) (L := 4) rfl (by omega) hc, Option.bind_some, hu, gu_self]
      rw [lp_stop k (show i ≤ 16 by omega)]
theorem x_isSo {σ : gw_S} {n N F : Nat} {H : Nat → Nat} {hit : Nat → Bool} (h : iN σ n N) (hH : iH σ N H) (hF : iF σ N F) :
    ∀ (d f deep fu : Nat) (τ : gw_S) (γ : Nat → Nat), f < F → fd σ f ≤ d → deep + d ≤ 6 → d < fu → (∀ a, a ≠ 31 → a ≠ 32 → τ a = σ a) → (∀ m, m < N → τ 31 m = nI (cw σ hit m)) → (∀ l, l < 4 → fo σ f l = true → τ 32 l = nI (γ l) ∧ γ l < 16) → f_X7_isSo fu (nI f) (nI deep) τ = some (tb (hz σ hit d γ f), τ)
  | d, f, deep, 0, _, _, _, _, _, q, _, _, _ => absurd q (Nat.not_lt_zero _)
  | 0, f, deep, fu + 1, _, _, hf, hd, _, _, _, _, _ => by
    have := (hF.2.2 f hf).2.2.1
    omega
  | d + 1, f, deep, fu + 1, τ, γ, hf, hd, hdp, hfu, hτ, h31, hr => by
    have hN := h.2.1
    have hF16 := hF.2.1
    obtain ⟨h13, h16, hd1, hd5, hwf⟩ := hF.2.2 f hf
    have ih := fun f2 τ2 γ2 a1 a2 a3 a4 a5 => x_isSo h hH hF d f2 (deep + 1) fu τ2 γ2 a1 a2 (by omega) (by omega) a3 a4 a5
    rw [f_X7_isSo]
    rw [if_neg (show ¬ nI 5 < nI deep from nI_nlt (by omega) (by omega))]
    simp only [x_knows1 (show τ 11 0 = nI F by rw [hτ 11 (by decide) (by decide)]; exact hF.1) hF16 hf, x_first (show f < 16 by omega), x_second (show f < 16 by omega), x_kind (show f < 16 by omega), Option.bind_some]
    rw [if_neg (show ¬ (1 : Int32) = 0 by decide), hτ 12 (by decide) (by decide), hτ 13 (by decide) (by decide), hτ 14 (by decide) (by decide), h13]
    rcases hwf with ⟨hk, h14, ta, tbb, hop⟩ | ⟨hk, h14, ha, hb, hda, hdb, hop⟩ | ⟨hk, ha, hda, hop⟩ | hwq
    · have a1 := x_meant (τ := τ) (γ := γ) h h31 ta (fun l hl e => (hr l hl (hop l hl (Or.inl e))).1)
      have b1 := x_meant (τ := τ) (γ := γ) h h31 tbb (fun l hl e => (hr l hl (hop l hl (Or.inr e))).1)
      have a2 := tc_16 h hH hit ta (fun l hl e => (hr l hl (hop l hl (Or.inl e))).2)
      have b2 := tc_16 h hH hit tbb (fun l hl e => (hr l hl (hop l hl (Or.inr e))).2)
      rw [h14]
      rcases hk with hk | hk
      · rw [hk, if_neg (by decide), if_neg (by decide), if_pos rfl, b1, hz_e hk]
        simp only [Option.bind_some]
        rw [a1]
        simp only [Option.bind_some, x_contains _ (show tc σ hit γ (fa σ f) < 32 by omega), bt_nI _ (show tc σ hit γ (fa σ f) < 32 by omega)]
      · rw [hk, if_pos rfl, a1, hz_q hk]
        simp only [Option.bind_some]
        rw [b1]
        simp only [Option.bind_some]
        by_cases z : tc σ hit γ (fa σ f) = tc σ hit γ (fb σ f)
        · rw [if_pos (by rw [z]), decide_eq_true z]; rfl
        · rw [if_neg (fun y => z ((nI_eq (by omega) (by omega)).mp y)), decide_eq_false z]; rfl
    · have c1 := ih (fa σ f) τ γ (by omega) (by omega) hτ h31 (fun l hl e => hr l hl (hop l hl (Or.inl e)))
      have c3 := ih (fb σ f) τ γ (by omega) (by omega) hτ h31 (fun l hl e => hr l hl (hop l hl (Or.inr e)))
      rw [h14, nI_1]
      rcases hk with hk | hk
      · rw [hk, if_neg (by decide), if_pos rfl, c1, hz_a hk]
        simp only [Option.bind_some]
        rw [c3]
        cases hz σ hit d γ (fa σ f) <;> cases hz σ hit d γ (fb σ f) <;> rfl
      · rw [hk, if_neg (by decide), if_neg (by decide), if_neg (by decide), if_neg (by decide), if_pos rfl, c1, hz_o hk]
        simp only [Option.bind_some]
        rw [c3]
        cases hz σ hit d γ (fa σ f) <;> cases hz σ hit d γ (fb σ f) <;> rfl
    · have c1 := ih (fa σ f) τ γ (by omega) (by omega) hτ h31 (fun l hl e => hr l hl (hop l hl e))
      rw [hk, if_neg (by decide), if_neg (by decide), if_neg (by decide), if_pos rfl, nI_1, c1, hz_n hk]
      cases hz σ hit d γ (fa σ f) <;> rfl
    · obtain ⟨hk, h14, ht, hb, h15, hc4, hdb, hop⟩ := hwq
      have a1 := x_meant (τ := τ) (γ := γ) h h31 ht (fun l hl e => (hr l hl (hop l hl (Or.inl e))).1)
      have a2 := tc_16 h hH hit ht (fun l hl e => (hr l hl (hop l hl (Or.inl e))).2)
      have hl := fun each => x_soL (τ0 := τ) (b := fb σ f) (C := tc σ hit γ (fa σ f)) (deep := deep) each (f_X7_isSo fu) hc4 (show f < 16 by omega) (by rw [hτ 14 (by decide) (by decide), h14]) a2 (fun m => hz σ hit d (ue γ (fc σ f) m) (fb σ f)) (fun m hm => ih (fb σ f) (gw_up τ 32 (fc σ f) (nI m)) (ue γ (fc σ f) m) (by omega) (by omega) (fun a h1 h2 => (gu_row h2).trans (hτ a h1 h2)) (fun j hj => by rw [gu_row (show (31 : Nat) ≠ 32 by decide)]; exact h31 j hj) (fun l hl e => by
        unfold ue
        by_cases hlc : l = fc σ f
        · rw [if_pos hlc, hlc, gu_eq]
          exact ⟨rfl, hm⟩
        · rw [if_neg hlc, gu_ne hlc]
          exact hr l hl (hop l hl (Or.inr ⟨e, hlc⟩)))) 16 0 64 τ (by omega) (by omega) (fun _ => rfl)
      have run : f_X7_isBoundSo (f_X7_isSo fu) (nI f) (nI deep) τ = some (tb (lp (decide (σ 12 f = 65)) (tc σ hit γ (fa σ f)) (fun m => hz σ hit d (ue γ (fc σ f) m) (fb σ f)) 16), τ) := by
        unfold f_X7_isBoundSo
        simp only [x_first (show f < 16 by omega), Option.bind_some]
        rw [hτ 13 (by decide) (by decide), h13, a1]
        simp only [x_letter (show f < 16 by omega), Option.bind_some]
        rw [hτ 15 (by decide) (by decide), h15]
        simp only [ni_at (k := 32) (L := 4) rfl (by omega) hc4, x_kind (show f < 16 by omega), Option.bind_some]
        rw [hτ 12 (by decide) (by decide)]
        by_cases k : σ 12 f = 65
        · rw [if_pos k, decide_eq_true k]
          exact hl true
        · rw [if_neg k, decide_eq_false k]
          exact hl false
      rcases hk with hk | hk
      · rw [hk] at run ⊢
        rw [if_neg (by decide), if_neg (by decide), if_neg (by decide), if_neg (by decide), if_neg (by decide), run, hz_A hk]
        rfl
      · rw [hk] at run ⊢
        rw [if_neg (by decide), if_neg (by decide), if_neg (by decide), if_neg (by decide), if_neg (by decide), run, hz_E hk]
        rfl
/-- the worlds in which a closed formula is so -/
theorem x_worldsL {σ : gw_S} {n N F f : Nat} {H : Nat → Nat} (h : iN σ n N) (hq : oq n (σ 2) (σ 1 2)) (hn : σ 1 0 = nI n) (hM : iM σ n) (hH : iH σ N H) (hF : iF σ N F) (hf : f < F) (hcl : ∀ l, l < 4 → fo σ f l = false) (ρ : Nat → Nat) : ∀ (d i fu : Nat) (τ : gw_S), i + d = n → d < fu → (∀ a, a ≠ 31 → τ a = σ a) → ∃ τ1, f_X7_worldsOf_L13 fu (nI f) (σ 1 2) (st (fun w => bt (σ 1 2) w && hz σ (hw σ w) 5 (gm σ w ρ) f) i) (nI i) τ = some (sv σ n (fun w => hz σ (hw σ w) 5 (gm σ w ρ) f), τ1) ∧ ∀ a, a ≠ 31 → τ1 a = σ a
  | d, i, 0, _, _, q, _ => absurd q (Nat.not_lt_zero _)
  | 0, i, fu + 1, τ, q, _, hτ => by
    have h7 := hq.1
    have e : i = n := by omega
    subst e
    rw [f_X7_worldsOf_L13]
    simp only [f_X3_size, Option.bind_some]
    rw [hτ 1 (by decide), hn, if_pos (nI_le (Nat.le_refl _) (by omega))]
    exact ⟨τ, rfl, hτ⟩
  | d + 1, i, fu + 1, τ, q, hfu, hτ => by
    have h7 := hq.1
    have ih := x_worldsL h hq hn hM hH hF hf hcl ρ d (i + 1) fu
    rw [f_X7_worldsOf_L13]
    simp only [f_X3_size, Option.bind_some]
    rw [hτ 1 (by decide), hn, if_neg (nI_ge (by omega) (by omega))]
    simp only [x_contains _ (show i < 32 by omega), Option.bind_some, nI_1]
    cases hb : bt (σ 1 2) i
    · rw [if_pos (show tb false = 0 from rfl)]
      have z := ih τ (by omega) (by omega) hτ
      rw [show st (fun w => bt (σ 1 2) w && hz σ (hw σ w) 5 (gm σ w ρ) f) (i + 1) = st (fun w => bt (σ 1 2) w && hz σ (hw σ w) 5 (gm σ w ρ) f) i from if_neg (by rw [hb]; decide)] at z
      exact z
    · rw [if_neg (show ¬ tb true = 0 by decide)]
      have hiN := iN_c h (hτ 4 (by decide)) (hτ 5 (by decide)) (hτ 6 (by decide))
      obtain ⟨τ2, y1, y2, y3⟩ := x_enter (σ := τ) (b := 0) (hit := hw σ i) (H := H) (w := i) hiN h7 (iM_c hM (hτ 3 (by decide))) (by unfold iH at *; rw [hτ 7 (by decide), zs_c (hτ 5 (by decide)), lw_c (hτ 6 (by decide))]; exact hH) (by omega) (fun c _ => by rw [if_pos rfl, hτ 2 (by decide)]; rfl)
      have cwe : cw τ (hw σ i) = cw σ (hw σ i) := by
        unfold cw
        have : ∀ t, cd τ (hw σ i) t = cd σ (hw σ i) t := fun t => by
          induction t with
          | zero => rfl
          | succ t iht =>
            funext m
            show oz _ _ = oz _ _
            rw [zs_c (hτ 5 (by decide)), lw_c (hτ 6 (by decide)), pm_c (hτ 6 (by decide)), iht]
        rw [this 13]
      rw [show (0 : Int32) = 0 from rfl, y1]
      simp only [Option.bind_some]
      unfold f_X7_agrees
      have g : ∀ a, a ≠ 31 → τ2 a = σ a := fun a ha => (y2 a ha).trans (hτ a ha)
      have so := x_isSo (hit := hw σ i) h hH hF 5 f 1 8 τ2 (gm σ i ρ) hf (hF.2.2 f hf).2.2.2.1 (by omega) (by omega) (fun a h1 _ => g a h1) (fun m hm => by rw [y3 m hm, cwe]) (fun l hl e => by rw [hcl l hl] at e; cases e)
      rw [show (1 : Int32) = nI 1 from rfl, so]
      simp only [Option.bind_some]
      have z := ih τ2 (by omega) (by omega) g
      cases hs : hz σ (hw σ i) 5 (gm σ i ρ) f
      · rw [if_pos (show tb false = 0 from rfl), show ∀ x : Int32, x ||| 0 = x from fun x => Int32.or_zero]
        rw [show st (fun w => bt (σ 1 2) w && hz σ (hw σ w) 5 (gm σ w ρ) f) (i + 1) = st (fun w => bt (σ 1 2) w && hz σ (hw σ w) 5 (gm σ w ρ) f) i from if_neg (by rw [hb, hs]; decide)] at z
        exact z
      · rw [if_neg (show ¬ tb true = 0 by decide)]
        rw [show st (fun w => bt (σ 1 2) w && hz σ (hw σ w) 5 (gm σ w ρ) f) (i + 1) = st (fun w => bt (σ 1 2) w && hz σ (hw σ w) 5 (gm σ w ρ) f) i ||| ((1 : Int32) <<< (nI i &&& 31)) from if_pos (by rw [hb, hs]; rfl)] at z
        exact z
