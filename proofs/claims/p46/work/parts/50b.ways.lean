/-! Forcing and values, over an order of n conditions, D q: all below q, e: the last ones. -/
def oq (n : Nat) (D : Nat → Int32) (e : Int32) : Prop := n ≤ 7 ∧ (∀ q, q < n → ∀ p, bt (D q) p = true → p < n) ∧ (∀ q, q < n → bt (D q) q = true) ∧ (∀ p q r, q < n → r < n → bt (D q) p = true → bt (D r) q = true → bt (D r) p = true) ∧ (∀ p q, p < n → q < n → bt (D q) p = true → bt (D p) q = true → p = q) ∧ (∀ w, bt e w = true ↔ w < n ∧ ∀ p, bt (D w) p = true → p = w) ∧ (∀ q, q < n → ∃ w, bt e w = true ∧ bt (D q) w = true)
/-- F: the conditions that force what has the value V -/
def rg (n : Nat) (D : Nat → Int32) (e F V : Int32) : Prop := (∀ i, bt V i = true → bt e i = true) ∧ ∀ i, bt F i = true ↔ i < n ∧ ∀ w, bt e w = true → bt (D i) w = true → bt V w = true
/-- below each condition there is one of X where V has a last one -/
def dn (n : Nat) (D : Nat → Int32) (e X V : Int32) : Prop := (∀ i, bt V i = true → bt e i = true) ∧ ∀ p, p < n → ((∃ r, bt (D p) r = true ∧ bt X r = true) ↔ ∃ w, bt e w = true ∧ bt (D p) w = true ∧ bt V w = true)
section WY
variable {n : Nat} {D : Nat → Int32} {e : Int32}
theorem oq_last (h : oq n D e) {w p : Nat} (hw : bt e w = true) (hp : bt (D w) p = true) : p = w := ((h.2.2.2.2.2.1 w).mp hw).2 p hp
theorem oq_lt (h : oq n D e) {w : Nat} (hw : bt e w = true) : w < n := ((h.2.2.2.2.2.1 w).mp hw).1
theorem rg_whole (h : oq n D e) {F : Int32} (hF : ∀ i, bt F i = decide (i < n)) : rg n D e F e := by
  refine ⟨fun _ z => z, fun i => ?_⟩
  rw [hF, decide_eq_true_eq]
  exact ⟨fun z => ⟨z, fun _ z1 _ => z1⟩, fun z => z.1⟩
theorem rg_and {F V F1 V1 : Int32} (h1 : rg n D e F V) (h2 : rg n D e F1 V1) : rg n D e (F &&& F1) (V &&& V1) := by
  refine ⟨fun i z => ?_, fun i => ?_⟩
  · rw [b_and, Bool.and_eq_true] at z
    exact h1.1 i z.1
  · rw [b_and, Bool.and_eq_true, h1.2 i, h2.2 i]
    constructor
    · rintro ⟨⟨a, b⟩, -, d⟩
      exact ⟨a, fun w z1 z2 => by rw [b_and, b w z1 z2, d w z1 z2]; rfl⟩
    · rintro ⟨a, b⟩
      refine ⟨⟨a, fun w z1 z2 => ?_⟩, a, fun w z1 z2 => ?_⟩
      · have z := b w z1 z2
        rw [b_and, Bool.and_eq_true] at z
        exact z.1
      · have z := b w z1 z2
        rw [b_and, Bool.and_eq_true] at z
        exact z.2
theorem rg_denied (h : oq n D e) {F V X : Int32} (h1 : rg n D e F V) (hX : ∀ i, bt X i = true ↔ i < n ∧ ∀ r, bt (D i) r = true → bt F r = false) : rg n D e X (e &&& (V ^^^ (-1))) := by
  refine ⟨fun i z => ?_, fun i => ?_⟩
  · rw [b_diff, Bool.and_eq_true] at z
    exact z.1
  · rw [hX i]
    constructor
    · rintro ⟨a, b⟩
      refine ⟨a, fun w z1 z2 => ?_⟩
      rw [b_diff, z1]
      cases hv : bt V w
      · rfl
      · have z3 := b w z2
        rw [(h1.2 w).mpr ⟨oq_lt h z1, fun w1 y1 y2 => by rw [oq_last h z1 y2]; exact hv⟩] at z3
        cases z3
    · rintro ⟨a, b⟩
      refine ⟨a, fun r z => ?_⟩
      cases hf : bt F r
      · rfl
      · obtain ⟨hr, hv⟩ := (h1.2 r).mp hf
        obtain ⟨w, hw, hwr⟩ := h.2.2.2.2.2.2 r hr
        have z1 := b w hw (h.2.2.2.1 w r i hr a hwr z)
        rw [b_diff, hw, hv w hw hwr] at z1
        cases z1
theorem rg_unless (h : oq n D e) {F V X : Int32} {c : Nat} (hc : c < n) (h1 : rg n D e F V) (hX : ∀ i, bt X i = true ↔ i < n ∧ ∀ r, bt (D i) r = true → bt (D c) r = true → bt F r = true) : rg n D e X ((e &&& ((D c &&& e) ^^^ (-1))) ||| V) := by
  refine ⟨fun i z => ?_, fun i => ?_⟩
  · rw [b_or, b_diff, Bool.or_eq_true, Bool.and_eq_true] at z
    exact z.elim (fun z => z.1) (fun z => h1.1 i z)
  · rw [hX i]
    constructor
    · rintro ⟨a, b⟩
      refine ⟨a, fun w z1 z2 => ?_⟩
      rw [b_or, b_diff, z1, b_and, z1]
      cases hd : bt (D c) w
      · rfl
      · have z3 := ((h1.2 w).mp (b w z2 hd)).2 w z1 (h.2.2.1 w (oq_lt h z1))
        rw [z3]
        rfl
    · rintro ⟨a, b⟩
      refine ⟨a, fun r z1 z2 => (h1.2 r).mpr ⟨h.2.1 i a r z1, fun w y1 y2 => ?_⟩⟩
      have hr := h.2.1 i a r z1
      have z3 := b w y1 (h.2.2.2.1 w r i hr a y2 z1)
      rw [b_or, b_diff, b_and, y1, h.2.2.2.1 w r c hr hc y2 z2] at z3
      simpa using z3
theorem dn_zero : dn n D e 0 0 := by
  refine ⟨fun i z => ?_, fun p _ => ⟨?_, ?_⟩⟩
  · rw [b_0] at z; cases z
  · rintro ⟨r, -, z⟩
    rw [b_0] at z; cases z
  · rintro ⟨r, -, -, z⟩
    rw [b_0] at z; cases z
theorem dn_or {X V X1 V1 : Int32} (h1 : dn n D e X V) (h2 : dn n D e X1 V1) : dn n D e (X ||| X1) (V ||| V1) := by
  refine ⟨fun i z => ?_, fun p hp => ?_⟩
  · rw [b_or, Bool.or_eq_true] at z
    exact z.elim (h1.1 i) (h2.1 i)
  · constructor
    · rintro ⟨r, a, b⟩
      rw [b_or, Bool.or_eq_true] at b
      rcases b with b | b
      · obtain ⟨w, y1, y2, y3⟩ := (h1.2 p hp).mp ⟨r, a, b⟩
        exact ⟨w, y1, y2, by rw [b_or, y3]; rfl⟩
      · obtain ⟨w, y1, y2, y3⟩ := (h2.2 p hp).mp ⟨r, a, b⟩
        exact ⟨w, y1, y2, by rw [b_or, y3, Bool.or_true]⟩
    · rintro ⟨w, y1, y2, y3⟩
      rw [b_or, Bool.or_eq_true] at y3
      rcases y3 with y3 | y3
      · obtain ⟨r, a, b⟩ := (h1.2 p hp).mpr ⟨w, y1, y2, y3⟩
        exact ⟨r, a, by rw [b_or, b]; rfl⟩
      · obtain ⟨r, a, b⟩ := (h2.2 p hp).mpr ⟨w, y1, y2, y3⟩
        exact ⟨r, a, by rw [b_or, b, Bool.or_true]⟩
theorem dn_along (h : oq n D e) {F V : Int32} {c : Nat} (hc : c < n) (h1 : rg n D e F V) : dn n D e (D c &&& F) ((D c &&& e) &&& V) := by
  refine ⟨fun i z => ?_, fun p hp => ⟨?_, ?_⟩⟩
  · rw [b_and, b_and, Bool.and_eq_true, Bool.and_eq_true] at z
    exact z.1.2
  · rintro ⟨r, a, b⟩
    rw [b_and, Bool.and_eq_true] at b
    obtain ⟨hr, hv⟩ := (h1.2 r).mp b.2
    obtain ⟨w, hw, hwr⟩ := h.2.2.2.2.2.2 r hr
    exact ⟨w, hw, h.2.2.2.1 w r p hr hp hwr a, by rw [b_and, b_and, h.2.2.2.1 w r c hr hc hwr b.1, hw, hv w hw hwr]; rfl⟩
  · rintro ⟨w, y1, y2, y3⟩
    rw [b_and, b_and, Bool.and_eq_true, Bool.and_eq_true] at y3
    exact ⟨w, y2, by rw [b_and, y3.1.1, (h1.2 w).mpr ⟨oq_lt h y1, fun w1 z1 z2 => by rw [oq_last h y1 z2]; exact y3.2⟩]; rfl⟩
theorem dn_rg (h : oq n D e) {F V : Int32} (h1 : rg n D e F V) : dn n D e F V := by
  refine ⟨h1.1, fun p hp => ⟨?_, ?_⟩⟩
  · rintro ⟨r, a, b⟩
    obtain ⟨hr, hv⟩ := (h1.2 r).mp b
    obtain ⟨w, hw, hwr⟩ := h.2.2.2.2.2.2 r hr
    exact ⟨w, hw, h.2.2.2.1 w r p hr hp hwr a, hv w hw hwr⟩
  · rintro ⟨w, y1, y2, y3⟩
    exact ⟨w, y2, (h1.2 w).mpr ⟨oq_lt h y1, fun w1 z1 z2 => by rw [oq_last h y1 z2]; exact y3⟩⟩
theorem rg_settled (h : oq n D e) {X V A B : Int32} (h1 : dn n D e X V) (hA : ∀ i, bt A i = true ↔ i < n ∧ ∀ r, bt (D i) r = true → bt X r = false) (hB : ∀ i, bt B i = true ↔ i < n ∧ ∀ r, bt (D i) r = true → bt A r = false) : rg n D e B V := by
  refine ⟨h1.1, fun i => ?_⟩
  rw [hB i]
  constructor
  · rintro ⟨a, b⟩
    refine ⟨a, fun w z1 z2 => ?_⟩
    cases hv : bt V w
    · have z3 := b w z2
      rw [(hA w).mpr ⟨oq_lt h z1, fun r z => ?_⟩] at z3
      · cases z3
      · cases hx : bt X r
        · rfl
        · obtain ⟨w1, y1, y2, y3⟩ := (h1.2 w (oq_lt h z1)).mp ⟨r, z, hx⟩
          rw [oq_last h z1 y2, hv] at y3
          cases y3
    · rfl
  · rintro ⟨a, b⟩
    refine ⟨a, fun r z => ?_⟩
    cases ha : bt A r
    · rfl
    · obtain ⟨hr, hx⟩ := (hA r).mp ha
      obtain ⟨w, hw, hwr⟩ := h.2.2.2.2.2.2 r hr
      obtain ⟨r1, y1, y2⟩ := (h1.2 r hr).mpr ⟨w, hw, hwr, b w hw (h.2.2.2.1 w r i hr a hwr z)⟩
      rw [hx r1 y1] at y2
      cases y2
theorem rg_uniq {F V F1 : Int32} (h1 : rg n D e F V) (h2 : rg n D e F1 V) : F = F1 := b_ext (fun i _ => Bool.eq_iff_iff.mpr ((h1.2 i).trans (h2.2 i).symm))
/-- what the law asks of a condition that forces -/
theorem rg_cut {F V : Int32} (h1 : rg n D e F V) {p : Nat} (hp : p < n) : bt F p = true ↔ ((D p &&& e) &&& (V ^^^ (-1))) = 0 := by
  rw [h1.2 p, b_part]
  constructor
  · rintro ⟨-, a⟩ i hi
    rw [b_and, Bool.and_eq_true] at hi
    exact a i hi.2 hi.1
  · intro a
    exact ⟨hp, fun w z1 z2 => a w (by rw [b_and, z1, z2]; rfl)⟩
end WY
