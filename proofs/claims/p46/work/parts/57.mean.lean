/-! What the tables mean: in each world by the codes, and by forcing where the cut is within. -/
section MN
variable {σ : gw_S} {n N : Nat}
theorem pt_w {I : Nat → Int32} {lo pr : Nat → Nat} {b w : Nat} (hw : bt (σ 1 2) w = true) : ∀ k, bt (pt (σ 1 2) (uV σ) I lo pr b k) w = true ↔ ∀ j, j < k → bt (σ 2 (pr j)) w = true → bt (I (lo j * 12 + b)) w = true
  | 0 => ⟨fun _ j z => absurd z (Nat.not_lt_zero _), fun _ => hw⟩
  | k + 1 => by
    show bt (pt (σ 1 2) (uV σ) I lo pr b k &&& uV σ (pr k) (I (lo k * 12 + b))) w = true ↔ _
    unfold uV
    rw [b_and, Bool.and_eq_true, b_or, b_diff, b_and, hw, Bool.or_eq_true]
    rw [show bt (pt (σ 1 2) (fun c x => (σ 1 2 &&& ((σ 2 c &&& σ 1 2) ^^^ (-1 : Int32))) ||| x) I lo pr b k) w = true ↔ _ from pt_w hw k]
    constructor
    · rintro ⟨h1, h2⟩ j hj hd
      by_cases c : j = k
      · subst c
        rcases h2 with h2 | h2
        · rw [hd] at h2; cases h2
        · exact h2
      · exact h1 j (by omega) hd
    · intro h
      refine ⟨fun j hj => h j (by omega), ?_⟩
      cases hd : bt (σ 2 (pr k)) w
      · exact Or.inl rfl
      · exact Or.inr (h k (by omega) hd)
theorem ct_w {L : Nat → Int32} {lo pr : Nat → Nat} {a w : Nat} (hw : bt (σ 1 2) w = true) : ∀ k, bt (ct (aV σ) L lo pr a k) w = true ↔ ∃ j, j < k ∧ bt (σ 2 (pr j)) w = true ∧ bt (L (a * 12 + lo j)) w = true
  | 0 => by
    show bt 0 w = true ↔ _
    rw [b_0]
    exact ⟨fun z => (nomatch z), fun ⟨j, h, _⟩ => absurd h (Nat.not_lt_zero _)⟩
  | k + 1 => by
    show bt (ct (aV σ) L lo pr a k ||| aV σ (pr k) (L (a * 12 + lo k))) w = true ↔ _
    rw [b_or, Bool.or_eq_true, ct_w hw k]
    unfold aV
    rw [b_and, b_and, hw, Bool.and_true, Bool.and_eq_true]
    constructor
    · rintro (⟨j, h1, h2⟩ | h)
      · exact ⟨j, by omega, h2⟩
      · exact ⟨k, by omega, h⟩
    · rintro ⟨j, h1, h2⟩
      by_cases c : j = k
      · subst c
        exact Or.inr h2
      · exact Or.inl ⟨j, by omega, h2⟩
theorem vt_w (h : iN σ n N) {L I : Nat → Int32} (hE : ∀ y x, y < N → x < N → enV σ n L I y x) {w : Nat} (hw : bt (σ 1 2) w = true) : ∀ (t y x : Nat), y + x < t → y < N → x < N → (bt (L (y * 12 + x)) w = true ↔ cw σ (fun c => bt (σ 2 c) w) y = cw σ (fun c => bt (σ 2 c) w) x) ∧ (bt (I (y * 12 + x)) w = true ↔ (cw σ (fun c => bt (σ 2 c) w) x).testBit (cw σ (fun c => bt (σ 2 c) w) y) = true)
  | 0, _, _, q, _, _ => absurd q (Nat.not_lt_zero _)
  | t + 1, y, x, q, hy, hx => by
    have ih := vt_w h hE hw t
    have key : ∀ y x, y + x < t + 1 → y < N → x < N → (bt (pt (σ 1 2) (uV σ) I (lw σ y) (pm σ y) x (zs σ y)) w = true ↔ ∀ i, (cw σ (fun c => bt (σ 2 c) w) y).testBit i = true → (cw σ (fun c => bt (σ 2 c) w) x).testBit i = true) := by
      intro y x q hy hx
      rw [pt_w hw]
      constructor
      · intro z i hi
        obtain ⟨k, h1, h2, h3⟩ := (cw_bit h _ hy i).mp hi
        have hl := (h.2.2.2.2 y k hy h1).2.1
        rw [← h3]
        exact ((ih (lw σ y k) x (by omega) (by omega) hx).2).mp (z k h1 h2)
      · intro z j hj hd
        have hl := (h.2.2.2.2 y j hy hj).2.1
        refine ((ih (lw σ y j) x (by omega) (by omega) hx).2).mpr (z _ ?_)
        exact (cw_bit h _ hy _).mpr ⟨j, hj, hd, rfl⟩
    obtain ⟨e1, e2⟩ := hE y x hy hx
    refine ⟨?_, ?_⟩
    · rw [e1, b_and, Bool.and_eq_true, key y x q hy hx, key x y (by omega) hx hy]
      constructor
      · rintro ⟨h1, h2⟩
        refine Nat.eq_of_testBit_eq (fun i => Bool.eq_iff_iff.mpr ⟨h1 i, h2 i⟩)
      · intro z
        rw [z]
        exact ⟨fun _ z => z, fun _ z => z⟩
    · rw [e2]
      show bt (ct (aV σ) L (lw σ x) (pm σ x) y (zs σ x)) w = true ↔ _
      rw [ct_w hw, cw_bit h _ hx]
      constructor
      · rintro ⟨j, h1, h2, h3⟩
        have hl := (h.2.2.2.2 x j hx h1).2.1
        exact ⟨j, h1, h2, (((ih y (lw σ x j) (by omega) hy (by omega)).1).mp h3).symm⟩
      · rintro ⟨j, h1, h2, h3⟩
        have hl := (h.2.2.2.2 x j hx h1).2.1
        exact ⟨j, h1, h2, ((ih y (lw σ x j) (by omega) hy (by omega)).1).mpr h3.symm⟩
theorem pt_f (hq : oq n (σ 2) (σ 1 2)) (hn : σ 1 0 = nI n) {I IF : Nat → Int32} {lo pr : Nat → Nat} {b : Nat} : ∀ k, (∀ j, j < k → pr j < n ∧ rg n (σ 2) (σ 1 2) (IF (lo j * 12 + b)) (I (lo j * 12 + b))) → rg n (σ 2) (σ 1 2) (pt (((1 : Int32) <<< ((σ 1 0) &&& 31)) - (1 : Int32)) (uf σ n) IF lo pr b k) (pt (σ 1 2) (uV σ) I lo pr b k)
  | 0, _ => rg_whole hq (fun i => by rw [hn]; exact b_full (Nat.le_trans hq.1 (by omega)) i)
  | k + 1, h => by
    obtain ⟨h1, h2⟩ := h k (by omega)
    exact rg_and (pt_f hq hn k (fun j hj => h j (by omega))) (rg_unless hq h1 h2 (fun i => uf_bt hq.1 i))
theorem ct_f (hq : oq n (σ 2) (σ 1 2)) {L LF : Nat → Int32} {lo pr : Nat → Nat} {a : Nat} : ∀ k, (∀ j, j < k → pr j < n ∧ rg n (σ 2) (σ 1 2) (LF (a * 12 + lo j)) (L (a * 12 + lo j))) → dn n (σ 2) (σ 1 2) (ct (aF σ) LF lo pr a k) (ct (aV σ) L lo pr a k)
  | 0, _ => dn_zero
  | k + 1, h => by
    obtain ⟨h1, h2⟩ := h k (by omega)
    exact dn_or (ct_f hq k (fun j hj => h j (by omega))) (dn_along hq h1 h2)
theorem ft_v (h : iN σ n N) (hq : oq n (σ 2) (σ 1 2)) (hn : σ 1 0 = nI n) {L I LF IF : Nat → Int32} (hE : ∀ y x, y < N → x < N → enV σ n L I y x) (hF : ∀ y x, y < N → x < N → enF σ n LF IF y x) : ∀ (t y x : Nat), y + x < t → y < N → x < N → rg n (σ 2) (σ 1 2) (LF (y * 12 + x)) (L (y * 12 + x)) ∧ rg n (σ 2) (σ 1 2) (IF (y * 12 + x)) (I (y * 12 + x))
  | 0, _, _, q, _, _ => absurd q (Nat.not_lt_zero _)
  | t + 1, y, x, q, hy, hx => by
    have ih := ft_v h hq hn hE hF t
    obtain ⟨e1, e2⟩ := hE y x hy hx
    obtain ⟨f1, f2⟩ := hF y x hy hx
    refine ⟨?_, ?_⟩
    · rw [e1, f1]
      refine rg_and (pt_f hq hn _ (fun j hj => ?_)) (pt_f hq hn _ (fun j hj => ?_))
      · obtain ⟨-, hl, hp⟩ := h.2.2.2.2 y j hy hj
        exact ⟨hp, (ih (lw σ y j) x (by omega) (by omega) hx).2⟩
      · obtain ⟨-, hl, hp⟩ := h.2.2.2.2 x j hx hj
        exact ⟨hp, (ih (lw σ x j) y (by omega) (by omega) hy).2⟩
    · rw [e2, f2]
      refine rg_settled hq (ct_f hq _ (fun j hj => ?_)) (fun i => aq_bt hq.1 i) (fun i => aq_bt hq.1 i)
      obtain ⟨-, hl, hp⟩ := h.2.2.2.2 x j hx hj
      exact ⟨hp, (ih y (lw σ x j) (by omega) hy (by omega)).1⟩
end MN
