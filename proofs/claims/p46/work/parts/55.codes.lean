/-! What names become: codes. hit c: the condition c is in the filter. -/
def oz (f : Nat → Nat) : Nat → Nat
  | 0 => 0
  | k + 1 => oz f k ||| f k
theorem oz_bit (f : Nat → Nat) (i : Nat) : ∀ k, (oz f k).testBit i = true ↔ ∃ j, j < k ∧ (f j).testBit i = true
  | 0 => by
    show (0 : Nat).testBit i = true ↔ _
    rw [Nat.zero_testBit]
    exact ⟨fun z => (nomatch z), fun ⟨j, h, _⟩ => absurd h (Nat.not_lt_zero _)⟩
  | k + 1 => by
    show (oz f k ||| f k).testBit i = true ↔ _
    rw [Nat.testBit_or, Bool.or_eq_true, oz_bit f i k]
    constructor
    · rintro (⟨j, h1, h2⟩ | h)
      · exact ⟨j, by omega, h2⟩
      · exact ⟨k, by omega, h⟩
    · rintro ⟨j, h1, h2⟩
      by_cases c : j = k
      · subst c
        exact Or.inr h2
      · exact Or.inl ⟨j, by omega, h2⟩
theorem oz_lt {f : Nat → Nat} {b : Nat} : ∀ k, (∀ j, j < k → f j < 2 ^ b) → oz f k < 2 ^ b
  | 0, _ => Nat.two_pow_pos b
  | k + 1, h => Nat.or_lt_two_pow (oz_lt k (fun j hj => h j (by omega))) (h k (by omega))
theorem oz_c {f g : Nat → Nat} : ∀ k, (∀ j, j < k → f j = g j) → oz f k = oz g k
  | 0, _ => rfl
  | k + 1, h => by
    show oz f k ||| f k = oz g k ||| g k
    rw [oz_c k (fun j hj => h j (by omega)), h k (by omega)]
/-- the code of a name, by names that are lower; f: how deep at most -/
def cd (σ : gw_S) (hit : Nat → Bool) : Nat → Nat → Nat
  | 0, _ => 0
  | f + 1, m => oz (fun k => if hit (pm σ m k) then 2 ^ cd σ hit f (lw σ m k) else 0) (zs σ m)
theorem cd_f {σ : gw_S} {n N : Nat} (h : iN σ n N) (hit : Nat → Bool) : ∀ (m f g : Nat), m < N → m < f → m < g → cd σ hit f m = cd σ hit g m
  | m, 0, g, _, q, _ => absurd q (Nat.not_lt_zero _)
  | m, f + 1, 0, _, _, q => absurd q (Nat.not_lt_zero _)
  | m, f + 1, g + 1, hm, hf, hg => by
    show oz _ _ = oz _ _
    refine oz_c _ (fun k hk => ?_)
    have hl := (h.2.2.2.2 m k hm hk).2.1
    show (if hit (pm σ m k) then 2 ^ cd σ hit f (lw σ m k) else 0) = (if hit (pm σ m k) then 2 ^ cd σ hit g (lw σ m k) else 0)
    rw [cd_f h hit (lw σ m k) f g (by omega) (by omega) (by omega)]
  termination_by m => m
/-- the code, whole -/
def cw (σ : gw_S) (hit : Nat → Bool) (m : Nat) : Nat := cd σ hit 13 m
theorem cw_eq {σ : gw_S} {n N : Nat} (h : iN σ n N) (hit : Nat → Bool) {m : Nat} (hm : m < N) : cw σ hit m = oz (fun k => if hit (pm σ m k) then 2 ^ cw σ hit (lw σ m k) else 0) (zs σ m) := by
  have hN := h.2.1
  show oz _ _ = oz _ _
  refine oz_c _ (fun k hk => ?_)
  have hl := (h.2.2.2.2 m k hm hk).2.1
  show (if hit (pm σ m k) then 2 ^ cd σ hit 12 (lw σ m k) else 0) = (if hit (pm σ m k) then 2 ^ cd σ hit 13 (lw σ m k) else 0)
  rw [cd_f h hit (lw σ m k) 12 13 (by omega) (by omega) (by omega)]
theorem cw_bit {σ : gw_S} {n N : Nat} (h : iN σ n N) (hit : Nat → Bool) {m : Nat} (hm : m < N) (i : Nat) : (cw σ hit m).testBit i = true ↔ ∃ k, k < zs σ m ∧ hit (pm σ m k) = true ∧ cw σ hit (lw σ m k) = i := by
  rw [cw_eq h hit hm, oz_bit]
  refine ⟨fun ⟨k, h1, h2⟩ => ⟨k, h1, ?_⟩, fun ⟨k, h1, h2, h3⟩ => ⟨k, h1, ?_⟩⟩
  · by_cases c : hit (pm σ m k) = true
    · rw [if_pos c, Nat.testBit_two_pow, decide_eq_true_eq] at h2
      exact ⟨c, h2⟩
    · rw [if_neg c, Nat.zero_testBit] at h2
      cases h2
  · rw [if_pos h2, Nat.testBit_two_pow, decide_eq_true_eq]
    exact h3
/-- heights, and the codes that they allow -/
def iH (σ : gw_S) (N : Nat) (H : Nat → Nat) : Prop := (∀ m, m < N → σ 7 m = nI (H m) ∧ H m ≤ 3) ∧ ∀ m k, m < N → k < zs σ m → H (lw σ m k) < H m
def lim : Nat → Nat
  | 0 => 1
  | 1 => 2
  | 2 => 4
  | _ => 16
theorem lim_s {a b : Nat} (h : a < b) (hb : b ≤ 3) : 2 ^ (lim a - 1) < lim b := by
  rcases (show (a = 0 ∧ b = 1) ∨ (a = 0 ∧ b = 2) ∨ (a = 0 ∧ b = 3) ∨ (a = 1 ∧ b = 2) ∨ (a = 1 ∧ b = 3) ∨ (a = 2 ∧ b = 3) by omega) with ⟨rfl, rfl⟩ | ⟨rfl, rfl⟩ | ⟨rfl, rfl⟩ | ⟨rfl, rfl⟩ | ⟨rfl, rfl⟩ | ⟨rfl, rfl⟩ <;> decide
theorem lim_p (b : Nat) : ∃ j, lim b = 2 ^ j ∧ j ≤ 4 := by
  rcases b with _ | _ | _ | b
  · exact ⟨0, rfl, by omega⟩
  · exact ⟨1, rfl, by omega⟩
  · exact ⟨2, rfl, by omega⟩
  · exact ⟨4, rfl, by omega⟩
theorem cw_lim {σ : gw_S} {n N : Nat} {H : Nat → Nat} (h : iN σ n N) (hH : iH σ N H) (hit : Nat → Bool) : ∀ (t m : Nat), m < t → m < N → cw σ hit m < lim (H m)
  | 0, m, q, _ => absurd q (Nat.not_lt_zero _)
  | t + 1, m, q, hm => by
    rw [cw_eq h hit hm]
    obtain ⟨j, e, -⟩ := lim_p (H m)
    rw [e]
    refine oz_lt _ (fun k hk => ?_)
    rw [← e]
    have hl := (h.2.2.2.2 m k hm hk).2.1
    have hh := hH.2 m k hm hk
    have ih := cw_lim h hH hit t (lw σ m k) (by omega) (by omega)
    have h3 := (hH.1 m hm).2
    by_cases c : hit (pm σ m k) = true
    · show (if hit (pm σ m k) then 2 ^ cw σ hit (lw σ m k) else 0) < _
      rw [if_pos c]
      exact Nat.lt_of_le_of_lt (Nat.pow_le_pow_right (by omega) (by omega)) (lim_s hh h3)
    · show (if hit (pm σ m k) then 2 ^ cw σ hit (lw σ m k) else 0) < _
      rw [if_neg c, e]
      exact Nat.two_pow_pos j
theorem cw_16 {σ : gw_S} {n N : Nat} {H : Nat → Nat} (h : iN σ n N) (hH : iH σ N H) (hit : Nat → Bool) {m : Nat} (hm : m < N) : cw σ hit m < 16 := by
  have h1 := cw_lim h hH hit (m + 1) m (by omega) hm
  obtain ⟨j, e, hj⟩ := lim_p (H m)
  rw [e] at h1
  have h2 : 2 ^ j ≤ 2 ^ 4 := Nat.pow_le_pow_right (by omega) hj
  have h3 : (2 : Nat) ^ 4 = 16 := rfl
  omega
/-- a code isn't among its own elements -/
theorem cw_irr (x : Nat) : x.testBit x = false := by
  rw [Nat.testBit_lt_two_pow]
  exact Nat.lt_two_pow_self
