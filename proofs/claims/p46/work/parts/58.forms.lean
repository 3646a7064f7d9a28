/-! Formulas: how they lie in the cells, and what they say of codes. -/
def al (P : Nat → Bool) : Nat → Bool
  | 0 => true
  | k + 1 => al P k && P k
def ae (P : Nat → Bool) : Nat → Bool
  | 0 => false
  | k + 1 => ae P k || P k
theorem al_iff (P : Nat → Bool) : ∀ k, al P k = true ↔ ∀ j, j < k → P j = true
  | 0 => ⟨fun _ j z => absurd z (Nat.not_lt_zero _), fun _ => rfl⟩
  | k + 1 => by
    show (al P k && P k) = true ↔ _
    rw [Bool.and_eq_true, al_iff P k]
    constructor
    · rintro ⟨h1, h2⟩ j hj
      by_cases c : j = k
      · rw [c]; exact h2
      · exact h1 j (by omega)
    · intro h
      exact ⟨fun j hj => h j (by omega), h k (by omega)⟩
theorem ae_iff (P : Nat → Bool) : ∀ k, ae P k = true ↔ ∃ j, j < k ∧ P j = true
  | 0 => ⟨fun z => (nomatch z), fun ⟨j, h, _⟩ => absurd h (Nat.not_lt_zero _)⟩
  | k + 1 => by
    show (ae P k || P k) = true ↔ _
    rw [Bool.or_eq_true, ae_iff P k]
    constructor
    · rintro (⟨j, h1, h2⟩ | h)
      · exact ⟨j, by omega, h2⟩
      · exact ⟨k, by omega, h⟩
    · rintro ⟨j, h1, h2⟩
      by_cases c : j = k
      · rw [← c]; exact Or.inr h2
      · exact Or.inl ⟨j, by omega, h2⟩
def fa (σ : gw_S) (f : Nat) : Nat := (σ 13 f).toNatClampNeg
def fb (σ : gw_S) (f : Nat) : Nat := (σ 14 f).toNatClampNeg
def fc (σ : gw_S) (f : Nat) : Nat := (σ 15 f).toNatClampNeg
def fd (σ : gw_S) (f : Nat) : Nat := (σ 16 f).toNatClampNeg
def fo (σ : gw_S) (f l : Nat) : Bool := bt (σ 17 f) l
/-- a term: a name, or a letter from 100 on -/
def tm (N t : Nat) : Prop := t < N ∨ (100 ≤ t ∧ t < 104)
/-- a formula of two terms; of two parts; of one; of a bound and a part -/
def wa (σ : gw_S) (N f : Nat) : Prop := (σ 12 f = 101 ∨ σ 12 f = 61) ∧ σ 14 f = nI (fb σ f) ∧ tm N (fa σ f) ∧ tm N (fb σ f) ∧ ∀ l, l < 4 → (fa σ f = 100 + l ∨ fb σ f = 100 + l) → fo σ f l = true
def wb (σ : gw_S) (f : Nat) : Prop := (σ 12 f = 97 ∨ σ 12 f = 111) ∧ σ 14 f = nI (fb σ f) ∧ fa σ f < f ∧ fb σ f < f ∧ fd σ (fa σ f) < fd σ f ∧ fd σ (fb σ f) < fd σ f ∧ ∀ l, l < 4 → (fo σ (fa σ f) l = true ∨ fo σ (fb σ f) l = true) → fo σ f l = true
def wn (σ : gw_S) (f : Nat) : Prop := σ 12 f = 110 ∧ fa σ f < f ∧ fd σ (fa σ f) < fd σ f ∧ ∀ l, l < 4 → fo σ (fa σ f) l = true → fo σ f l = true
def wq (σ : gw_S) (N f : Nat) : Prop := (σ 12 f = 65 ∨ σ 12 f = 69) ∧ σ 14 f = nI (fb σ f) ∧ tm N (fa σ f) ∧ fb σ f < f ∧ σ 15 f = nI (fc σ f) ∧ fc σ f < 4 ∧ fd σ (fb σ f) < fd σ f ∧ ∀ l, l < 4 → (fa σ f = 100 + l ∨ (fo σ (fb σ f) l = true ∧ l ≠ fc σ f)) → fo σ f l = true
def iF (σ : gw_S) (N F : Nat) : Prop := σ 11 0 = nI F ∧ F ≤ 16 ∧ ∀ f, f < F → σ 13 f = nI (fa σ f) ∧ σ 16 f = nI (fd σ f) ∧ 1 ≤ fd σ f ∧ fd σ f ≤ 5 ∧ (wa σ N f ∨ wb σ f ∨ wn σ f ∨ wq σ N f)
/-- the code of a term -/
def tc (σ : gw_S) (hit : Nat → Bool) (γ : Nat → Nat) (t : Nat) : Nat := if t < 100 then cw σ hit t else γ (t - 100)
/-- the name of a term -/
def nm (ρ : Nat → Nat) (t : Nat) : Nat := if t < 100 then t else ρ (t - 100)
def ue (γ : Nat → Nat) (c v : Nat) : Nat → Nat := fun l => if l = c then v else γ l
/-- what a formula says of codes; d: how deep at most -/
def hz (σ : gw_S) (hit : Nat → Bool) : Nat → (Nat → Nat) → Nat → Bool
  | 0, _, _ => false
  | d + 1, γ, f => if σ 12 f = 61 then decide (tc σ hit γ (fa σ f) = tc σ hit γ (fb σ f)) else if σ 12 f = 97 then hz σ hit d γ (fa σ f) && hz σ hit d γ (fb σ f) else if σ 12 f = 101 then (tc σ hit γ (fb σ f)).testBit (tc σ hit γ (fa σ f)) else if σ 12 f = 110 then !hz σ hit d γ (fa σ f) else if σ 12 f = 111 then hz σ hit d γ (fa σ f) || hz σ hit d γ (fb σ f) else if σ 12 f = 65 then al (fun i => !(tc σ hit γ (fa σ f)).testBit i || hz σ hit d (ue γ (fc σ f) i) (fb σ f)) 16 else ae (fun i => (tc σ hit γ (fa σ f)).testBit i && hz σ hit d (ue γ (fc σ f) i) (fb σ f)) 16
def hw (σ : gw_S) (w : Nat) : Nat → Bool := fun c => bt (σ 2 c) w
def gm (σ : gw_S) (w : Nat) (ρ : Nat → Nat) : Nat → Nat := fun l => cw σ (hw σ w) (ρ l)
theorem tc_gm (σ : gw_S) (w : Nat) (ρ : Nat → Nat) (t : Nat) : tc σ (hw σ w) (gm σ w ρ) t = cw σ (hw σ w) (nm ρ t) := by
  unfold tc nm gm
  by_cases c : t < 100
  · rw [if_pos c, if_pos c]
  · rw [if_neg c, if_neg c]
theorem ue_gm (σ : gw_S) (w : Nat) (ρ : Nat → Nat) (c m : Nat) : ue (gm σ w ρ) c (cw σ (hw σ w) m) = gm σ w (ue ρ c m) := by
  funext l
  unfold ue gm
  by_cases h : l = c
  · rw [if_pos h, if_pos h]
  · rw [if_neg h, if_neg h]
/-- the worlds of which P tells -/
def sv (σ : gw_S) (n : Nat) (P : Nat → Bool) : Int32 := st (fun w => bt (σ 1 2) w && P w) n
section SV
variable {σ : gw_S} {n : Nat}
theorem sv_bt (hq : oq n (σ 2) (σ 1 2)) (P : Nat → Bool) (i : Nat) : bt (sv σ n P) i = (bt (σ 1 2) i && P i) := by
  have h7 := hq.1
  unfold sv
  rw [st_bt _ n (by omega)]
  cases h : bt (σ 1 2) i
  · rw [Bool.false_and, Bool.and_false]
  · rw [decide_eq_true (oq_lt hq h), Bool.true_and]
theorem sv_sub (hq : oq n (σ 2) (σ 1 2)) (P : Nat → Bool) (i : Nat) (h : bt (sv σ n P) i = true) : bt (σ 1 2) i = true := by
  rw [sv_bt hq, Bool.and_eq_true] at h
  exact h.1
theorem sv_of (hq : oq n (σ 2) (σ 1 2)) {V : Int32} {P : Nat → Bool} (h1 : ∀ i, bt V i = true → bt (σ 1 2) i = true) (h2 : ∀ w, bt (σ 1 2) w = true → (bt V w = true ↔ P w = true)) : V = sv σ n P := b_ext (fun i _ => by
  rw [sv_bt hq]
  cases h : bt (σ 1 2) i
  · cases hv : bt V i
    · rfl
    · rw [h1 i hv] at h; cases h
  · rw [Bool.true_and]
    exact Bool.eq_iff_iff.mpr (h2 i h))
theorem sv_c (hq : oq n (σ 2) (σ 1 2)) {P Q : Nat → Bool} (h : ∀ w, bt (σ 1 2) w = true → P w = Q w) : sv σ n P = sv σ n Q := b_ext (fun i _ => by
  rw [sv_bt hq, sv_bt hq]
  cases z : bt (σ 1 2) i
  · rfl
  · rw [h i z])
/-- the two ways: by values, by forcing; and of 'some' before it is settled -/
def rlV (σ : gw_S) (n : Nat) (r : Int32) (P : Nat → Bool) : Prop := r = sv σ n P
def soV (σ : gw_S) (n : Nat) (r : Int32) (P : Nat → Bool) : Prop := r = sv σ n P
def rlF (σ : gw_S) (n : Nat) (r : Int32) (P : Nat → Bool) : Prop := rg n (σ 2) (σ 1 2) r (sv σ n P)
def soF (σ : gw_S) (n : Nat) (r : Int32) (P : Nat → Bool) : Prop := dn n (σ 2) (σ 1 2) r (sv σ n P)
theorem rlV_c (hq : oq n (σ 2) (σ 1 2)) {r : Int32} {P Q : Nat → Bool} (h : ∀ w, bt (σ 1 2) w = true → P w = Q w) (z : rlV σ n r P) : rlV σ n r Q := by
  unfold rlV at *
  rw [← sv_c hq h]
  exact z
theorem soV_c (hq : oq n (σ 2) (σ 1 2)) {r : Int32} {P Q : Nat → Bool} (h : ∀ w, bt (σ 1 2) w = true → P w = Q w) (z : soV σ n r P) : soV σ n r Q := rlV_c hq h z
theorem rlF_c (hq : oq n (σ 2) (σ 1 2)) {r : Int32} {P Q : Nat → Bool} (h : ∀ w, bt (σ 1 2) w = true → P w = Q w) (z : rlF σ n r P) : rlF σ n r Q := by
  unfold rlF at *
  rw [← sv_c hq h]
  exact z
theorem soF_c (hq : oq n (σ 2) (σ 1 2)) {r : Int32} {P Q : Nat → Bool} (h : ∀ w, bt (σ 1 2) w = true → P w = Q w) (z : soF σ n r P) : soF σ n r Q := by
  unfold soF at *
  rw [← sv_c hq h]
  exact z
theorem sv_whole (hq : oq n (σ 2) (σ 1 2)) : σ 1 2 = sv σ n (fun _ => true) := sv_of hq (fun _ z => z) (fun _ z => ⟨fun _ => rfl, fun _ => z⟩)
theorem sv_zero (hq : oq n (σ 2) (σ 1 2)) : 0 = sv σ n (fun _ => false) := sv_of hq (fun i z => by rw [b_0] at z; cases z) (fun w _ => by rw [b_0])
theorem sv_and (hq : oq n (σ 2) (σ 1 2)) (P Q : Nat → Bool) : sv σ n P &&& sv σ n Q = sv σ n (fun w => P w && Q w) := b_ext (fun i _ => by
  rw [b_and, sv_bt hq, sv_bt hq, sv_bt hq]
  cases bt (σ 1 2) i <;> cases P i <;> cases Q i <;> rfl)
theorem sv_or (hq : oq n (σ 2) (σ 1 2)) (P Q : Nat → Bool) : sv σ n P ||| sv σ n Q = sv σ n (fun w => P w || Q w) := b_ext (fun i _ => by
  rw [b_or, sv_bt hq, sv_bt hq, sv_bt hq]
  cases bt (σ 1 2) i <;> cases P i <;> cases Q i <;> rfl)
theorem sv_not (hq : oq n (σ 2) (σ 1 2)) (P : Nat → Bool) : σ 1 2 &&& (sv σ n P ^^^ (-1 : Int32)) = sv σ n (fun w => !P w) := b_ext (fun i _ => by
  rw [b_diff, sv_bt hq, sv_bt hq]
  cases bt (σ 1 2) i <;> cases P i <;> rfl)
theorem sv_unless (hq : oq n (σ 2) (σ 1 2)) (c : Nat) (P : Nat → Bool) : uV σ c (sv σ n P) = sv σ n (fun w => !hw σ w c || P w) := b_ext (fun i _ => by
  unfold uV hw
  rw [b_or, b_diff, b_and, sv_bt hq, sv_bt hq]
  cases bt (σ 1 2) i <;> cases P i <;> cases bt (σ 2 c) i <;> rfl)
theorem sv_along (hq : oq n (σ 2) (σ 1 2)) (c : Nat) (P : Nat → Bool) : aV σ c (sv σ n P) = sv σ n (fun w => hw σ w c && P w) := b_ext (fun i _ => by
  unfold aV hw
  rw [b_and, b_and, sv_bt hq, sv_bt hq]
  cases bt (σ 1 2) i <;> cases P i <;> cases bt (σ 2 c) i <;> rfl)
theorem rlV_whole (hq : oq n (σ 2) (σ 1 2)) : rlV σ n (σ 1 2) (fun _ => true) := sv_whole hq
theorem rlV_and (hq : oq n (σ 2) (σ 1 2)) {r s : Int32} {P Q : Nat → Bool} (h1 : rlV σ n r P) (h2 : rlV σ n s Q) : rlV σ n (r &&& s) (fun w => P w && Q w) := by
  unfold rlV at *
  rw [h1, h2, sv_and hq]
theorem rlV_unless (hq : oq n (σ 2) (σ 1 2)) {r : Int32} {P : Nat → Bool} {c : Nat} (_ : c < n) (h1 : rlV σ n r P) : rlV σ n (uV σ c r) (fun w => !hw σ w c || P w) := by
  unfold rlV at *
  rw [h1, sv_unless hq]
theorem rlV_not (hq : oq n (σ 2) (σ 1 2)) {r : Int32} {P : Nat → Bool} (h1 : rlV σ n r P) : rlV σ n (σ 1 2 &&& (r ^^^ (-1 : Int32))) (fun w => !P w) := by
  unfold rlV at *
  rw [h1, sv_not hq]
theorem soV_zero (hq : oq n (σ 2) (σ 1 2)) : soV σ n 0 (fun _ => false) := sv_zero hq
theorem soV_or (hq : oq n (σ 2) (σ 1 2)) {r s : Int32} {P Q : Nat → Bool} (h1 : soV σ n r P) (h2 : soV σ n s Q) : soV σ n (r ||| s) (fun w => P w || Q w) := by
  unfold soV at *
  rw [h1, h2, sv_or hq]
theorem soV_along (hq : oq n (σ 2) (σ 1 2)) {r : Int32} {P : Nat → Bool} {c : Nat} (_ : c < n) (h1 : rlV σ n r P) : soV σ n (aV σ c r) (fun w => hw σ w c && P w) := by
  unfold soV rlV at *
  rw [h1, sv_along hq]
theorem soV_rl (_ : oq n (σ 2) (σ 1 2)) {r : Int32} {P : Nat → Bool} (h1 : rlV σ n r P) : soV σ n r P := h1
theorem rlV_settled (_ : oq n (σ 2) (σ 1 2)) {r : Int32} {P : Nat → Bool} (h1 : soV σ n r P) : rlV σ n (id r) P := h1
theorem rlF_whole (hq : oq n (σ 2) (σ 1 2)) (hn : σ 1 0 = nI n) : rlF σ n (((1 : Int32) <<< ((σ 1 0) &&& 31)) - (1 : Int32)) (fun _ => true) := by
  unfold rlF
  rw [← sv_whole hq]
  exact rg_whole hq (fun i => by rw [hn]; exact b_full (Nat.le_trans hq.1 (by omega)) i)
theorem rlF_and (hq : oq n (σ 2) (σ 1 2)) {r s : Int32} {P Q : Nat → Bool} (h1 : rlF σ n r P) (h2 : rlF σ n s Q) : rlF σ n (r &&& s) (fun w => P w && Q w) := by
  unfold rlF at *
  rw [← sv_and hq]
  exact rg_and h1 h2
theorem rlF_unless (hq : oq n (σ 2) (σ 1 2)) {r : Int32} {P : Nat → Bool} {c : Nat} (hc : c < n) (h1 : rlF σ n r P) : rlF σ n (uf σ n c r) (fun w => !hw σ w c || P w) := by
  unfold rlF at *
  rw [← sv_unless hq]
  exact rg_unless hq hc h1 (fun i => uf_bt hq.1 i)
theorem rlF_not (hq : oq n (σ 2) (σ 1 2)) {r : Int32} {P : Nat → Bool} (h1 : rlF σ n r P) : rlF σ n (aq σ r n) (fun w => !P w) := by
  unfold rlF at *
  rw [← sv_not hq]
  exact rg_denied hq h1 (fun i => aq_bt hq.1 i)
theorem soF_zero (hq : oq n (σ 2) (σ 1 2)) : soF σ n 0 (fun _ => false) := by
  unfold soF
  rw [← sv_zero hq]
  exact dn_zero
theorem soF_or (hq : oq n (σ 2) (σ 1 2)) {r s : Int32} {P Q : Nat → Bool} (h1 : soF σ n r P) (h2 : soF σ n s Q) : soF σ n (r ||| s) (fun w => P w || Q w) := by
  unfold soF at *
  rw [← sv_or hq]
  exact dn_or h1 h2
theorem soF_along (hq : oq n (σ 2) (σ 1 2)) {r : Int32} {P : Nat → Bool} {c : Nat} (hc : c < n) (h1 : rlF σ n r P) : soF σ n (aF σ c r) (fun w => hw σ w c && P w) := by
  unfold soF rlF at *
  rw [← sv_along hq]
  exact dn_along hq hc h1
theorem soF_rl (hq : oq n (σ 2) (σ 1 2)) {r : Int32} {P : Nat → Bool} (h1 : rlF σ n r P) : soF σ n r P := dn_rg hq h1
theorem rlF_settled (hq : oq n (σ 2) (σ 1 2)) {r : Int32} {P : Nat → Bool} (h1 : soF σ n r P) : rlF σ n (aq σ (aq σ r n) n) P := rg_settled hq h1 (fun i => aq_bt hq.1 i) (fun i => aq_bt hq.1 i)
end SV
theorem x_isLetter {t : Nat} (ht : t < 2 ^ 31) (σ : gw_S) : f_X8_isLetter (nI t) σ = some (tb (decide (100 ≤ t ∧ t < 104)), σ) := by
  unfold f_X8_isLetter
  by_cases c1 : t < 100
  · rw [if_pos (show nI t < nI 100 from nI_lt c1 (by omega)), decide_eq_false (by omega)]; rfl
  · rw [if_neg (show ¬ nI t < nI 100 from nI_nlt (by omega) ht)]
    by_cases c2 : 104 ≤ t
    · rw [if_pos (show nI 104 ≤ nI t from nI_le c2 ht), decide_eq_false (by omega)]; rfl
    · rw [if_neg (show ¬ nI 104 ≤ nI t from nI_ge (by omega) (by omega)), decide_eq_true (by omega)]; rfl
theorem x_knows1 {τ : gw_S} {F f : Nat} (h : τ 11 0 = nI F) (h16 : F ≤ 16) (hf : f < F) : f_X1_knows (nI f) τ = some (1, τ) := by
  unfold f_X1_knows
  rw [if_neg (nI_pos (by omega)), h, if_neg (nI_ge hf (by omega))]
theorem x_first {f : Nat} (hf : f < 16) (σ : gw_S) : f_X1_first (nI f) σ = some (σ 13 f, σ) := by
  unfold f_X1_first
  simp only [ni_at (k := 13) (L := 16) rfl (by omega) hf, Option.bind_some]
theorem x_second {f : Nat} (hf : f < 16) (σ : gw_S) : f_X1_second (nI f) σ = some (σ 14 f, σ) := by
  unfold f_X1_second
  simp only [ni_at (k := 14) (L := 16) rfl (by omega) hf, Option.bind_some]
theorem x_letter {f : Nat} (hf : f < 16) (σ : gw_S) : f_X1_letter (nI f) σ = some (σ 15 f, σ) := by
  unfold f_X1_letter
  simp only [ni_at (k := 15) (L := 16) rfl (by omega) hf, Option.bind_some]
theorem x_kind {f : Nat} (hf : f < 16) (σ : gw_S) : f_X1_kind (nI f) σ = some (σ 12 f, σ) := by
  unfold f_X1_kind
  simp only [ni_at (k := 12) (L := 16) rfl (by omega) hf, Option.bind_some]
theorem gu_back (σ : gw_S) (k j : Nat) (v : Int32) : gw_up (gw_up σ k j v) k j (σ k j) = σ := by
  funext a i
  rw [gu_or]
  by_cases c : a = k ∧ i = j
  · rw [if_pos c, c.1, c.2]
  · rw [if_neg c, gu_or, if_neg c]
theorem gu_twice (σ : gw_S) (k j : Nat) (v u : Int32) : gw_up (gw_up σ k j v) k j u = gw_up σ k j u := by
  funext a i
  rw [gu_or, gu_or, gu_or]
  by_cases c : a = k ∧ i = j
  · rw [if_pos c, if_pos c]
  · rw [if_neg c, if_neg c, if_neg c]
theorem gu_self (σ : gw_S) (k j : Nat) : gw_up σ k j (σ k j) = σ := by
  funext a i
  rw [gu_or]
  by_cases c : a = k ∧ i = j
  · rw [if_pos c, c.1, c.2]
  · rw [if_neg c]
section HZ
variable {σ : gw_S} {hit : Nat → Bool} {d f : Nat} {γ : Nat → Nat}
theorem hz_q (k : σ 12 f = 61) : hz σ hit (d + 1) γ f = decide (tc σ hit γ (fa σ f) = tc σ hit γ (fb σ f)) := by
  rw [hz, k]
  exact if_pos rfl
theorem hz_a (k : σ 12 f = 97) : hz σ hit (d + 1) γ f = (hz σ hit d γ (fa σ f) && hz σ hit d γ (fb σ f)) := by
  rw [hz, k, if_neg (by decide)]
  exact if_pos rfl
theorem hz_e (k : σ 12 f = 101) : hz σ hit (d + 1) γ f = (tc σ hit γ (fb σ f)).testBit (tc σ hit γ (fa σ f)) := by
  rw [hz, k, if_neg (by decide), if_neg (by decide)]
  exact if_pos rfl
theorem hz_n (k : σ 12 f = 110) : hz σ hit (d + 1) γ f = !hz σ hit d γ (fa σ f) := by
  rw [hz, k, if_neg (by decide), if_neg (by decide), if_neg (by decide)]
  exact if_pos rfl
theorem hz_o (k : σ 12 f = 111) : hz σ hit (d + 1) γ f = (hz σ hit d γ (fa σ f) || hz σ hit d γ (fb σ f)) := by
  rw [hz, k, if_neg (by decide), if_neg (by decide), if_neg (by decide), if_neg (by decide)]
  exact if_pos rfl
theorem hz_A (k : σ 12 f = 65) : hz σ hit (d + 1) γ f = al (fun i => !(tc σ hit γ (fa σ f)).testBit i || hz σ hit d (ue γ (fc σ f) i) (fb σ f)) 16 := by
  rw [hz, k, if_neg (by decide), if_neg (by decide), if_neg (by decide), if_neg (by decide), if_neg (by decide)]
  exact if_pos rfl
theorem hz_E (k : σ 12 f = 69) : hz σ hit (d + 1) γ f = ae (fun i => (tc σ hit γ (fa σ f)).testBit i && hz σ hit d (ue γ (fc σ f) i) (fb σ f)) 16 := by
  rw [hz, k, if_neg (by decide), if_neg (by decide), if_neg (by decide), if_neg (by decide), if_neg (by decide), if_neg (by decide)]
end HZ
/-- a name's pairs, or its code's elements -/
theorem al_code {σ : gw_S} {n N B : Nat} {H : Nat → Nat} (h : iN σ n N) (hH : iH σ N H) (hB : B < N) (hit : Nat → Bool) (Y : Nat → Bool) : al (fun k => !hit (pm σ B k) || Y (cw σ hit (lw σ B k))) (zs σ B) = al (fun i => !(cw σ hit B).testBit i || Y i) 16 := by
  rw [Bool.eq_iff_iff, al_iff, al_iff]
  constructor
  · intro z i _
    cases hi : (cw σ hit B).testBit i
    · rfl
    · obtain ⟨k, h1, h2, h3⟩ := (cw_bit h hit hB i).mp hi
      have := z k h1
      rw [h2, h3] at this
      exact this
  · intro z k hk
    show (!hit (pm σ B k) || Y (cw σ hit (lw σ B k))) = true
    cases hk2 : hit (pm σ B k)
    · rfl
    · have hl := (h.2.2.2.2 B k hB hk).2.1
      have := z (cw σ hit (lw σ B k)) (cw_16 h hH hit (by omega))
      rw [(cw_bit h hit hB _).mpr ⟨k, hk, hk2, rfl⟩] at this
      exact this
theorem ae_code {σ : gw_S} {n N B : Nat} {H : Nat → Nat} (h : iN σ n N) (hH : iH σ N H) (hB : B < N) (hit : Nat → Bool) (Y : Nat → Bool) : ae (fun k => hit (pm σ B k) && Y (cw σ hit (lw σ B k))) (zs σ B) = ae (fun i => (cw σ hit B).testBit i && Y i) 16 := by
  rw [Bool.eq_iff_iff, ae_iff, ae_iff]
  constructor
  · rintro ⟨k, hk, z⟩
    rw [Bool.and_eq_true] at z
    have hl := (h.2.2.2.2 B k hB hk).2.1
    exact ⟨_, cw_16 h hH hit (show lw σ B k < N by omega), by rw [(cw_bit h hit hB _).mpr ⟨k, hk, z.1, rfl⟩]; exact z.2⟩
  · rintro ⟨i, _, z⟩
    rw [Bool.and_eq_true] at z
    obtain ⟨k, h1, h2, h3⟩ := (cw_bit h hit hB i).mp z.1
    exact ⟨k, h1, by rw [h2, h3]; exact z.2⟩
