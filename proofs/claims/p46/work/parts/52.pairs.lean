/-! Names' pairs read out of the cells; the tables of likes and insides as equations. -/
def zs (σ : gw_S) (m : Nat) : Nat := (σ 5 m).toNatClampNeg
def lw (σ : gw_S) (m k : Nat) : Nat := (σ 6 (m * 4 + k)).toNatClampNeg % 16
def pm (σ : gw_S) (m k : Nat) : Nat := (σ 6 (m * 4 + k)).toNatClampNeg / 16
def iN (σ : gw_S) (n N : Nat) : Prop := σ 4 1 = nI N ∧ N ≤ 12 ∧ (∀ m, m < 12 → σ 5 m = nI (zs σ m) ∧ zs σ m ≤ 4) ∧ (∀ m, N ≤ m → m < 12 → zs σ m = 0) ∧ ∀ m k, m < N → k < zs σ m → σ 6 (m * 4 + k) = nI (lw σ m k + 16 * pm σ m k) ∧ lw σ m k < m ∧ pm σ m k < n
theorem iN_c {σ τ : gw_S} {n N : Nat} (h : iN σ n N) (h4 : τ 4 = σ 4) (h5 : τ 5 = σ 5) (h6 : τ 6 = σ 6) : iN τ n N := by
  unfold iN zs lw pm at *
  rw [h4, h5, h6]
  exact h
theorem zs_c {σ τ : gw_S} (h5 : τ 5 = σ 5) : zs τ = zs σ := by funext m; unfold zs; rw [h5]
theorem lw_c {σ τ : gw_S} (h6 : τ 6 = σ 6) : lw τ = lw σ := by funext m k; unfold lw; rw [h6]
theorem pm_c {σ τ : gw_S} (h6 : τ 6 = σ 6) : pm τ = pm σ := by funext m k; unfold pm; rw [h6]
theorem x128 : ∀ x, x < 128 → (nI x &&& (15 : Int32)) = nI (x % 16) ∧ (nI x >>> ((4 : Int32) &&& 31)) = nI (x / 16) := by decide +kernel
theorem x_size2 {σ : gw_S} : f_X2_size σ = some (σ 4 1, σ) := rfl
theorem x_pairsOf {σ : gw_S} {n N m : Nat} (h : iN σ n N) (hm : m < 12) : f_X2_pairsOf (nI m) σ = some (nI (zs σ m), σ) := by
  unfold f_X2_pairsOf
  simp only [ni_at (k := 5) (L := 12) rfl (by omega) hm, Option.bind_some]
  rw [← (h.2.2.1 m hm).1]
theorem x_lower {σ : gw_S} {n N m k : Nat} (h : iN σ n N) (h7 : n ≤ 7) (hm : m < N) (hk : k < zs σ m) : f_X2_lower (nI m) (nI k) σ = some (nI (lw σ m k), σ) := by
  have hN := h.2.1
  have hz := (h.2.2.1 m (by omega)).2
  obtain ⟨e, h1, h2⟩ := h.2.2.2.2 m k hm hk
  unfold f_X2_lower
  have e1 : (nI m * (4 : Int32)) + nI k = nI (m * 4 + k) := by show nI m * nI 4 + nI k = _; rw [ni_mul, nI_add]
  rw [e1]
  simp only [ni_at (k := 6) (L := 48) rfl (by omega) (show m * 4 + k < 48 by omega), Option.bind_some]
  rw [e, (x128 _ (by omega)).1, show (lw σ m k + 16 * pm σ m k) % 16 = lw σ m k by omega]
theorem x_promise {σ : gw_S} {n N m k : Nat} (h : iN σ n N) (h7 : n ≤ 7) (hm : m < N) (hk : k < zs σ m) : f_X2_promise (nI m) (nI k) σ = some (nI (pm σ m k), σ) := by
  have hN := h.2.1
  have hz := (h.2.2.1 m (by omega)).2
  obtain ⟨e, h1, h2⟩ := h.2.2.2.2 m k hm hk
  unfold f_X2_promise
  have e1 : (nI m * (4 : Int32)) + nI k = nI (m * 4 + k) := by show nI m * nI 4 + nI k = _; rw [ni_mul, nI_add]
  rw [e1]
  simp only [ni_at (k := 6) (L := 48) rfl (by omega) (show m * 4 + k < 48 by omega), Option.bind_some]
  rw [e, (x128 _ (by omega)).2, show (lw σ m k + 16 * pm σ m k) / 16 = pm σ m k by omega]
theorem x_tab {k u v : Nat} (hL : gw_ln k = 144) (hu : u < 12) (hv : v < 12) (σ : gw_S) : f_X8_at k ((nI u * (12 : Int32)) + nI v) σ = some (σ k (u * 12 + v), σ) := by
  have e1 : (nI u * (12 : Int32)) + nI v = nI (u * 12 + v) := by show nI u * nI 12 + nI v = _; rw [ni_mul, nI_add]
  rw [e1]
  exact ni_at hL (by omega) (by omega) σ
/-- all in a being in b, by the pairs of a -/
def pt (W : Int32) (U : Nat → Int32 → Int32) (I : Nat → Int32) (lo pr : Nat → Nat) (b : Nat) : Nat → Int32
  | 0 => W
  | k + 1 => pt W U I lo pr b k &&& U (pr k) (I (lo k * 12 + b))
/-- a being in b, by the pairs of b -/
def ct (A : Nat → Int32 → Int32) (L : Nat → Int32) (lo pr : Nat → Nat) (a : Nat) : Nat → Int32
  | 0 => 0
  | k + 1 => ct A L lo pr a k ||| A (pr k) (L (a * 12 + lo k))
theorem pt_c {W : Int32} {U : Nat → Int32 → Int32} {I I1 : Nat → Int32} {lo pr : Nat → Nat} {b : Nat} : ∀ k, (∀ j, j < k → I1 (lo j * 12 + b) = I (lo j * 12 + b)) → pt W U I1 lo pr b k = pt W U I lo pr b k
  | 0, _ => rfl
  | k + 1, h => by
    show pt W U I1 lo pr b k &&& U (pr k) (I1 (lo k * 12 + b)) = pt W U I lo pr b k &&& U (pr k) (I (lo k * 12 + b))
    rw [pt_c k (fun j hj => h j (by omega)), h k (by omega)]
theorem ct_c {A : Nat → Int32 → Int32} {L L1 : Nat → Int32} {lo pr : Nat → Nat} {a : Nat} : ∀ k, (∀ j, j < k → L1 (a * 12 + lo j) = L (a * 12 + lo j)) → ct A L1 lo pr a k = ct A L lo pr a k
  | 0, _ => rfl
  | k + 1, h => by
    show ct A L1 lo pr a k ||| A (pr k) (L1 (a * 12 + lo k)) = ct A L lo pr a k ||| A (pr k) (L (a * 12 + lo k))
    rw [ct_c k (fun j hj => h j (by omega)), h k (by omega)]
def uV (σ : gw_S) (c : Nat) (x : Int32) : Int32 := (σ 1 2 &&& ((σ 2 c &&& σ 1 2) ^^^ (-1 : Int32))) ||| x
def aV (σ : gw_S) (c : Nat) (x : Int32) : Int32 := (σ 2 c &&& σ 1 2) &&& x
def aF (σ : gw_S) (c : Nat) (x : Int32) : Int32 := σ 2 c &&& x
/-- one entry of the tables, by entries of a lower sum -/
def eqn (W : Int32) (U A : Nat → Int32 → Int32) (S : Int32 → Int32) (z : Nat → Nat) (lo pr : Nat → Nat → Nat) (L I : Nat → Int32) (y x : Nat) : Prop :=
  L (y * 12 + x) = pt W U I (lo y) (pr y) x (z y) &&& pt W U I (lo x) (pr x) y (z x) ∧ I (y * 12 + x) = S (ct A L (lo x) (pr x) y (z x))
theorem eqn_c {W : Int32} {U A : Nat → Int32 → Int32} {S : Int32 → Int32} {z : Nat → Nat} {lo pr : Nat → Nat → Nat} {L I L1 I1 : Nat → Int32} {y x N : Nat} (hy : y < N) (hx : x < N) (hlo : ∀ m k, m < N → k < z m → lo m k < m) (h : eqn W U A S z lo pr L I y x)
    (hL : ∀ u v, u < N → v < N → (u + v < y + x ∨ (u = y ∧ v = x)) → L1 (u * 12 + v) = L (u * 12 + v)) (hI : ∀ u v, u < N → v < N → (u + v < y + x ∨ (u = y ∧ v = x)) → I1 (u * 12 + v) = I (u * 12 + v)) : eqn W U A S z lo pr L1 I1 y x := by
  obtain ⟨h1, h2⟩ := h
  refine ⟨?_, ?_⟩
  · rw [hL y x hy hx (Or.inr ⟨rfl, rfl⟩), h1, pt_c (I1 := I1) (I := I) (z y) (fun j hj => ?_), pt_c (I1 := I1) (I := I) (z x) (fun j hj => ?_)]
    · have := hlo y j hy hj
      exact hI _ _ (by omega) hx (Or.inl (by omega))
    · have := hlo x j hx hj
      exact hI _ _ (by omega) hy (Or.inl (by omega))
  · rw [hI y x hy hx (Or.inr ⟨rfl, rfl⟩), h2, ct_c (L1 := L1) (L := L) (z x) (fun j hj => ?_)]
    have := hlo x j hx hj
    exact hL _ _ hy (by omega) (Or.inl (by omega))
theorem r_x0 : ∀ s, s < 40 → ∀ N, N < 13 → (if (0 : Int32) < ((nI s - nI N) + (1 : Int32)) then ((nI s - nI N) + (1 : Int32)) else (0 : Int32)) = nI (s + 1 - N) := by decide +kernel
theorem r_end : ∀ s, s < 40 → ∀ N, N < 13 → ((2 : Int32) * (nI N - (1 : Int32)) < nI s ↔ (N = 0 ∨ 2 * N - 2 < s)) := by decide +kernel
theorem r_ix {x s : Nat} (h : x ≤ s) : ((nI x * (12 : Int32)) + nI s) - nI x = nI (x * 12 + (s - x)) := by
  have e1 : (nI x * (12 : Int32)) + nI s = nI (x * 12 + s) := by show nI x * nI 12 + nI s = _; rw [ni_mul, nI_add]
  rw [e1, pk_sub (by omega), show x * 12 + s - x = x * 12 + (s - x) by omega]
