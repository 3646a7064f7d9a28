/-! Cells read and written at numbers. -/
theorem ni_mul (a b : Nat) : nI a * nI b = nI (a * b) := (Int32.ofNat_mul a b).symm
theorem ni_at {k j L : Nat} (hL : gw_ln k = L) (hL2 : L < 2 ^ 31) (hj : j < L) (σ : gw_S) : f_X8_at k (nI j) σ = some (σ k j, σ) := by
  unfold f_X8_at
  rw [hL, if_neg (nI_pos (by omega)), if_neg (show ¬ nI L ≤ nI j from nI_ge hj hL2), nI_clamp (by omega)]
theorem ni_put {k j L : Nat} (hL : gw_ln k = L) (hL2 : L < 2 ^ 31) (hj : j < L) (v : Int32) (σ : gw_S) : f_X8_put k (nI j) v σ = some (gw_up σ k j v) := by
  unfold f_X8_put
  rw [hL, if_neg (nI_pos (by omega)), if_neg (show ¬ nI L ≤ nI j from nI_ge hj hL2), nI_clamp (by omega)]
theorem gu_eq (σ : gw_S) (k j : Nat) (v : Int32) : gw_up σ k j v k j = v := by
  unfold gw_up
  rw [if_pos rfl]
  exact pk_us
theorem gu_row {σ : gw_S} {k j a : Nat} {v : Int32} (h : a ≠ k) : gw_up σ k j v a = σ a := if_neg h
theorem gu_ne {σ : gw_S} {k j i : Nat} {v : Int32} (h : i ≠ j) : gw_up σ k j v k i = σ k i := by
  unfold gw_up
  rw [if_pos rfl]
  exact pk_un h
theorem gu_or (σ : gw_S) (k j a i : Nat) (v : Int32) : gw_up σ k j v a i = if a = k ∧ i = j then v else σ a i := by
  by_cases h : a = k
  · subst h
    by_cases h2 : i = j
    · subst h2
      rw [gu_eq, if_pos ⟨rfl, rfl⟩]
    · rw [gu_ne h2, if_neg (fun z => h2 z.2)]
  · rw [gu_row h, if_neg (fun z => h z.1)]
/-- the truth of a bit, as the class answers it -/
def tb (b : Bool) : Int32 := if b then 1 else 0
theorem tb_0 (b : Bool) : tb b = 0 ↔ b = false := by cases b <;> simp [tb]
theorem tb_n (b : Bool) : ¬ tb b = 0 ↔ b = true := by cases b <;> simp [tb]
theorem tb_i (a b : Bool) : tb a = tb b ↔ a = b := by cases a <;> cases b <;> simp [tb]
theorem x_contains (x : Int32) {j : Nat} (hj : j < 32) (σ : gw_S) : f_X8_contains x (nI j) σ = some (tb (bt x j), σ) := by
  unfold f_X8_contains
  rw [if_neg (nI_pos (by omega)), if_neg (show ¬ nI 32 ≤ nI j from nI_ge hj (by omega))]
  cases h : bt x j
  · rw [if_pos ((b_tst x hj).mpr h)]; rfl
  · rw [if_neg (fun z => by rw [(b_tst x hj).mp z] at h; cases h)]; rfl
theorem x_isPart (a b : Int32) (σ : gw_S) : f_X8_isPart a b σ = some (tb (decide ((a &&& (b ^^^ (-1 : Int32))) = 0)), σ) := by
  unfold f_X8_isPart
  by_cases h : (a &&& (b ^^^ (-1 : Int32))) = 0
  · rw [if_pos h, decide_eq_true h]; rfl
  · rw [if_neg h, decide_eq_false h]; rfl
theorem x_down {q : Nat} (hq : q < 7) (σ : gw_S) : f_X3_down (nI q) σ = some (σ 2 q, σ) := by
  unfold f_X3_down
  simp only [ni_at (k := 2) (L := 7) rfl (by omega) hq, Option.bind_some]
theorem x_stands {p q : Nat} (hp : p < 32) (hq : q < 7) (σ : gw_S) : f_X3_stands (nI p) (nI q) σ = some (tb (bt (σ 2 q) p), σ) := by
  unfold f_X3_stands
  simp only [x_down hq, x_contains _ hp, Option.bind_some]
theorem x_agree {p q : Nat} (hp : p < 7) (hq : q < 7) (σ : gw_S) : f_X3_agree (nI p) (nI q) σ = some (tb (decide (¬ (σ 2 p &&& σ 2 q) = 0)), σ) := by
  unfold f_X3_agree
  simp only [x_down hq, x_down hp, Option.bind_some]
  by_cases h : (σ 2 p &&& σ 2 q) = 0
  · rw [if_pos h, decide_eq_false (fun z => z h)]; rfl
  · rw [if_neg h, decide_eq_true h]; rfl
theorem x_endsOf {q : Nat} (hq : q < 7) (σ : gw_S) : f_X3_endsOf (nI q) σ = some (σ 2 q &&& σ 1 2, σ) := by
  unfold f_X3_endsOf
  simp only [ni_at (k := 2) (L := 7) rfl (by omega) hq, Option.bind_some]
theorem x_image {q : Nat} (hq : q < 7) (σ : gw_S) : f_X3_image (nI q) σ = some (σ 3 q, σ) := by
  unfold f_X3_image
  simp only [ni_at (k := 3) (L := 7) rfl (by omega) hq, Option.bind_some]
/-- those below none of which is in x -/
def aq (σ : gw_S) (x : Int32) (n : Nat) : Int32 := st (fun p => decide ((σ 2 p &&& x) = 0)) n
theorem x_avoidL {σ : gw_S} {n : Nat} (hn : σ 1 0 = nI n) (h7 : n ≤ 7) (x : Int32) : ∀ (d i f : Nat), i + d = n → d < f → f_X3_avoiding_L4 f x (aq σ x i) (nI i) σ = some (aq σ x n, σ)
  | d, i, 0, _, h => absurd h (Nat.not_lt_zero _)
  | 0, i, f + 1, h, _ => by
    have e : i = n := by omega
    subst e
    rw [f_X3_avoiding_L4, if_pos (by rw [hn]; exact nI_le (Nat.le_refl _) (by omega))]
  | d + 1, i, f + 1, h, hf => by
    have ih := x_avoidL hn h7 x d (i + 1) f (by omega) (by omega)
    rw [f_X3_avoiding_L4, if_neg (by rw [hn]; exact nI_ge (by omega) (by omega))]
    simp only [ni_at (k := 2) (L := 7) rfl (by omega) (show i < 7 by omega), Option.bind_some, nI_1]
    by_cases c : (σ 2 i &&& x) = 0
    · rw [if_pos c]
      rw [show aq σ x (i + 1) = aq σ x i ||| ((1 : Int32) <<< (nI i &&& 31)) from if_pos (decide_eq_true c)] at ih
      exact ih
    · rw [if_neg c]
      rw [show aq σ x (i + 1) = aq σ x i from if_neg (fun z => c (of_decide_eq_true z))] at ih
      exact ih
theorem x_avoid {σ : gw_S} {n : Nat} (hn : σ 1 0 = nI n) (h7 : n ≤ 7) (x : Int32) : f_X3_avoiding x σ = some (aq σ x n, σ) := x_avoidL hn h7 x n 0 64 (by omega) (by omega)
theorem aq_bt {σ : gw_S} {x : Int32} {n : Nat} (h7 : n ≤ 7) (i : Nat) : bt (aq σ x n) i = true ↔ i < n ∧ ∀ r, bt (σ 2 i) r = true → bt x r = false := by
  unfold aq
  rw [st_bt _ n (by omega), Bool.and_eq_true, decide_eq_true_eq, decide_eq_true_eq, b_zero]
  refine and_congr Iff.rfl ⟨fun h r z => ?_, fun h r => ?_⟩
  · have z1 := h r
    rw [b_and, z] at z1
    exact z1
  · rw [b_and]
    cases z : bt (σ 2 i) r
    · rfl
    · rw [h r z]; rfl
/-- those with all that is below them and below c in x -/
def uf (σ : gw_S) (n c : Nat) (x : Int32) : Int32 := st (fun p => decide (((σ 2 p &&& σ 2 c) &&& (x ^^^ (-1 : Int32))) = 0)) n
theorem x_unlessFL {σ : gw_S} {n c : Nat} (hn : σ 1 0 = nI n) (h7 : n ≤ 7) (hc : c < 7) (x : Int32) : ∀ (d i f : Nat), i + d = n → d < f → f_X6_unless_F_L5 f (nI c) x (uf σ i c x) (nI i) σ = some (uf σ n c x, σ)
  | d, i, 0, _, h => absurd h (Nat.not_lt_zero _)
  | 0, i, f + 1, h, _ => by
    have e : i = n := by omega
    subst e
    rw [f_X6_unless_F_L5]
    simp only [f_X3_size, Option.bind_some]
    rw [if_pos (by rw [hn]; exact nI_le (Nat.le_refl _) (by omega))]
  | d + 1, i, f + 1, h, hf => by
    have ih := x_unlessFL hn h7 hc x d (i + 1) f (by omega) (by omega)
    rw [f_X6_unless_F_L5]
    simp only [f_X3_size, Option.bind_some]
    rw [if_neg (by rw [hn]; exact nI_ge (by omega) (by omega))]
    simp only [x_down (show i < 7 by omega), x_down hc, x_isPart, Option.bind_some, nI_1]
    by_cases q : ((σ 2 i &&& σ 2 c) &&& (x ^^^ (-1 : Int32))) = 0
    · rw [if_neg (by rw [decide_eq_true q]; decide)]
      rw [show uf σ (i + 1) c x = uf σ i c x ||| ((1 : Int32) <<< (nI i &&& 31)) from if_pos (decide_eq_true q)] at ih
      exact ih
    · rw [if_pos (by rw [decide_eq_false q]; rfl)]
      rw [show uf σ (i + 1) c x = uf σ i c x from if_neg (fun z => q (of_decide_eq_true z))] at ih
      exact ih
theorem x_unlessF {σ : gw_S} {n c : Nat} (hn : σ 1 0 = nI n) (h7 : n ≤ 7) (hc : c < 7) (x : Int32) : f_X6_unless_F (nI c) x σ = some (uf σ n c x, σ) := x_unlessFL hn h7 hc x n 0 64 (by omega) (by omega)
theorem uf_bt {σ : gw_S} {x : Int32} {n c : Nat} (h7 : n ≤ 7) (i : Nat) : bt (uf σ n c x) i = true ↔ i < n ∧ ∀ r, bt (σ 2 i) r = true → bt (σ 2 c) r = true → bt x r = true := by
  unfold uf
  rw [st_bt _ n (by omega), Bool.and_eq_true, decide_eq_true_eq, decide_eq_true_eq, b_part]
  refine and_congr Iff.rfl ⟨fun h r z1 z2 => h r (by rw [b_and, z1, z2]; rfl), fun h r z => ?_⟩
  rw [b_and, Bool.and_eq_true] at z
  exact h r z.1 z.2
theorem x_unlessV {c : Nat} (hc : c < 7) (x : Int32) (σ : gw_S) : f_X4_unless_V (nI c) x σ = some ((σ 1 2 &&& ((σ 2 c &&& σ 1 2) ^^^ (-1 : Int32))) ||| x, σ) := by
  unfold f_X4_unless_V f_X3_ends
  simp only [x_endsOf hc, Option.bind_some]
theorem x_alongV {c : Nat} (hc : c < 7) (x : Int32) (σ : gw_S) : f_X4_along_V (nI c) x σ = some ((σ 2 c &&& σ 1 2) &&& x, σ) := by
  unfold f_X4_along_V
  simp only [x_endsOf hc, Option.bind_some]
theorem x_alongF {c : Nat} (hc : c < 7) (x : Int32) (σ : gw_S) : f_X6_along_F (nI c) x σ = some (σ 2 c &&& x, σ) := by
  unfold f_X6_along_F
  simp only [x_down hc, Option.bind_some]
theorem x_settledF {σ : gw_S} {n : Nat} (hn : σ 1 0 = nI n) (h7 : n ≤ 7) (x : Int32) : f_X0_settled_F x σ = some (aq σ (aq σ x n) n, σ) := by
  unfold f_X0_settled_F
  simp only [x_avoid hn h7, Option.bind_some]
theorem x_deniedF {σ : gw_S} {n : Nat} (hn : σ 1 0 = nI n) (h7 : n ≤ 7) (x : Int32) : f_X6_denied_F x σ = some (aq σ x n, σ) := by
  unfold f_X6_denied_F
  simp only [x_avoid hn h7, Option.bind_some]
