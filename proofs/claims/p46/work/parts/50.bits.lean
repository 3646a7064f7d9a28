/-! Sets as bits of an Int32; the family bt is pasted from the kit's laws (BITS). -/
def bt (x : Int32) (i : Nat) : Bool := x.toBitVec.getLsbD i
theorem b_ext {x y : Int32} (h : ∀ i, i < 32 → bt x i = bt y i) : x = y := Int32.toBitVec_inj.mp (BitVec.eq_of_getLsbD_eq (fun i hi => h i hi))
theorem b_or (x y : Int32) (i : Nat) : bt (x ||| y) i = (bt x i || bt y i) := by unfold bt; rw [Int32.toBitVec_or, BitVec.getLsbD_or]
theorem b_and (x y : Int32) (i : Nat) : bt (x &&& y) i = (bt x i && bt y i) := by unfold bt; rw [Int32.toBitVec_and, BitVec.getLsbD_and]
theorem b_xor (x y : Int32) (i : Nat) : bt (x ^^^ y) i = (bt x i ^^ bt y i) := by unfold bt; rw [Int32.toBitVec_xor, BitVec.getLsbD_xor]
theorem b_big {x : Int32} {i : Nat} (h : 32 ≤ i) : bt x i = false := BitVec.getLsbD_of_ge _ _ h
theorem b_255 (i : Nat) : bt 255 i = decide (i < 8) := by
  rcases Nat.lt_or_ge i 32 with h | h
  · exact (by decide +kernel : ∀ i, i < 32 → bt 255 i = decide (i < 8)) i h
  · rw [b_big h, decide_eq_false (by omega)]
theorem b_65535 (i : Nat) : bt 65535 i = decide (i < 16) := by
  rcases Nat.lt_or_ge i 32 with h | h
  · exact (by decide +kernel : ∀ i, i < 32 → bt 65535 i = decide (i < 16)) i h
  · rw [b_big h, decide_eq_false (by omega)]
theorem b_m1 : ∀ i, i < 32 → bt (-1) i = true := by decide +kernel
theorem b_0 (i : Nat) : bt 0 i = false := BitVec.getLsbD_zero
theorem s_l : ∀ n, n < 32 → ((nI n &&& 31).toBitVec.smod 32).toNat = n := by decide +kernel
theorem s_u : ∀ n, n < 32 → (((nI n).toUInt32 &&& Int32.toUInt32 31).toBitVec % 32).toNat = n := by decide +kernel
theorem b_shl (n : Nat) (hn : n < 32) (x : Int32) {i : Nat} (hi : i < 32) : bt (x <<< (nI n &&& 31)) i = (decide (n ≤ i) && bt x (i - n)) := by
  unfold bt
  rw [Int32.toBitVec_shiftLeft]
  show (x.toBitVec <<< ((nI n &&& 31).toBitVec.smod 32).toNat).getLsbD i = _
  rw [s_l n hn, BitVec.getLsbD_shiftLeft]
  rcases Nat.lt_or_ge i n with h | h
  · simp [h, Nat.not_le.mpr h]
  · simp [hi, h, Nat.not_lt.mpr h]
theorem b_ushr (n : Nat) (hn : n < 32) (x : Int32) (i : Nat) : bt ((x.toUInt32 >>> ((nI n).toUInt32 &&& Int32.toUInt32 31)).toInt32) i = bt x (n + i) := by
  show (x.toUInt32 >>> ((nI n).toUInt32 &&& Int32.toUInt32 31)).toBitVec.getLsbD i = x.toUInt32.toBitVec.getLsbD (n + i)
  rw [UInt32.toBitVec_shiftRight]
  show (x.toUInt32.toBitVec >>> (((nI n).toUInt32 &&& Int32.toUInt32 31).toBitVec % 32).toNat).getLsbD i = _
  rw [s_u n hn, BitVec.getLsbD_ushiftRight]
theorem b_sshr (n : Nat) (hn : n < 32) (x : Int32) {i : Nat} (hi : i < 32) : bt (x >>> (nI n &&& 31)) i = if n + i < 32 then bt x (n + i) else bt x 31 := by
  unfold bt
  rw [Int32.toBitVec_shiftRight]
  show (x.toBitVec.sshiftRight ((nI n &&& 31).toBitVec.smod 32).toNat).getLsbD i = _
  rw [s_l n hn, BitVec.getLsbD_sshiftRight, BitVec.msb_eq_getLsbD_last]
  simp [hi]
theorem b_shl8 (x : Int32) {i : Nat} (hi : i < 32) : bt (x <<< ((8 : Int32) &&& 31)) i = (decide (8 ≤ i) && bt x (i - 8)) := b_shl 8 (by omega) x hi
theorem b_shl16 (x : Int32) {i : Nat} (hi : i < 32) : bt (x <<< ((16 : Int32) &&& 31)) i = (decide (16 ≤ i) && bt x (i - 16)) := b_shl 16 (by omega) x hi
theorem b_shl24 (x : Int32) {i : Nat} (hi : i < 32) : bt (x <<< ((24 : Int32) &&& 31)) i = (decide (24 ≤ i) && bt x (i - 24)) := b_shl 24 (by omega) x hi
theorem b_sshr8 (x : Int32) {i : Nat} (hi : i < 32) : bt (x >>> ((8 : Int32) &&& 31)) i = if 8 + i < 32 then bt x (8 + i) else bt x 31 := b_sshr 8 (by omega) x hi
theorem b_1 : ∀ i, i < 32 → bt 1 i = decide (i = 0) := by decide +kernel
theorem b_lt {x : Int32} {i : Nat} (h : bt x i = true) : i < 32 := by
  rcases Nat.lt_or_ge i 32 with z | z
  · exact z
  · rw [b_big z] at h; cases h
theorem b_one {n : Nat} (hn : n < 32) (i : Nat) : bt ((1 : Int32) <<< (nI n &&& 31)) i = decide (i = n) := by
  rcases Nat.lt_or_ge i 32 with hi | hi
  · rw [b_shl n hn 1 hi, b_1 (i - n) (by omega), Bool.eq_iff_iff]
    simp only [Bool.and_eq_true, decide_eq_true_eq]
    omega
  · rw [b_big hi, decide_eq_false (by omega)]
theorem b_not (x : Int32) {i : Nat} (hi : i < 32) : bt (x ^^^ (-1)) i = !bt x i := by
  rw [b_xor, b_m1 i hi]
  cases bt x i <;> rfl
theorem b_zero {x : Int32} : x = 0 ↔ ∀ i, bt x i = false := ⟨fun h i => by rw [h, b_0], fun h => b_ext (fun i _ => by rw [h i, b_0])⟩
theorem b_ex {x : Int32} : ¬ x = 0 ↔ ∃ i, bt x i = true := by
  constructor
  · intro h
    refine Classical.byContradiction (fun z => h (b_zero.mpr (fun i => ?_)))
    cases hb : bt x i
    · rfl
    · exact absurd ⟨i, hb⟩ z
  · rintro ⟨i, hi⟩ h
    rw [b_zero.mp h i] at hi
    cases hi
theorem b_diff (a b : Int32) (i : Nat) : bt (a &&& (b ^^^ (-1))) i = (bt a i && !bt b i) := by
  rcases Nat.lt_or_ge i 32 with z | z
  · rw [b_and, b_not b z]
  · rw [b_big z, b_big z]; rfl
theorem b_part (a b : Int32) : (a &&& (b ^^^ (-1))) = 0 ↔ ∀ i, bt a i = true → bt b i = true := by
  rw [b_zero]
  constructor
  · intro h i hi
    have h1 := h i
    rw [b_diff, hi] at h1
    cases hb : bt b i
    · rw [hb] at h1; cases h1
    · rfl
  · intro h i
    rw [b_diff]
    cases ha : bt a i
    · rfl
    · rw [h i ha]; rfl
theorem b_tst (x : Int32) {j : Nat} (hj : j < 32) : ((x.toUInt32 >>> ((nI j).toUInt32 &&& Int32.toUInt32 31)).toInt32 &&& (1 : Int32)) = 0 ↔ bt x j = false := by
  rw [b_zero]
  constructor
  · intro h
    have h1 := h 0
    rw [b_and, b_ushr j hj, b_1 0 (by omega)] at h1
    simpa using h1
  · intro h i
    rw [b_and]
    rcases Nat.lt_or_ge i 32 with z | z
    · rw [b_1 i z, b_ushr j hj]
      by_cases e : i = 0
      · subst e
        rw [Nat.add_zero, h]
        rfl
      · simp [e]
    · rw [b_big z]
      rfl
/-- the set of those below k with P -/
def st (P : Nat → Bool) : Nat → Int32
  | 0 => 0
  | k + 1 => if P k then st P k ||| ((1 : Int32) <<< (nI k &&& 31)) else st P k
theorem st_bt (P : Nat → Bool) : ∀ k, k ≤ 32 → ∀ i, bt (st P k) i = (decide (i < k) && P i)
  | 0, _, i => by
    show bt 0 i = _
    rw [b_0, decide_eq_false (by omega)]
    rfl
  | k + 1, h, i => by
    have ih := st_bt P k (by omega) i
    show bt (if P k then st P k ||| ((1 : Int32) <<< (nI k &&& 31)) else st P k) i = _
    by_cases c : P k = true
    · rw [if_pos c, b_or, b_one (by omega), ih, Bool.eq_iff_iff]
      simp only [Bool.or_eq_true, Bool.and_eq_true, decide_eq_true_eq]
      constructor
      · rintro (⟨h1, h2⟩ | h1)
        · exact ⟨by omega, h2⟩
        · subst h1
          exact ⟨by omega, c⟩
      · rintro ⟨h1, h2⟩
        by_cases e : i = k
        · exact Or.inr e
        · exact Or.inl ⟨by omega, h2⟩
    · rw [if_neg c, ih, Bool.eq_iff_iff]
      simp only [Bool.and_eq_true, decide_eq_true_eq]
      constructor
      · rintro ⟨h1, h2⟩
        exact ⟨by omega, h2⟩
      · rintro ⟨h1, h2⟩
        refine ⟨?_, h2⟩
        by_cases e : i = k
        · subst e
          exact absurd h2 c
        · omega
theorem st_eq {P Q : Nat → Bool} {k : Nat} (hk : k ≤ 32) (h : ∀ i, i < k → P i = Q i) : st P k = st Q k := b_ext (fun i _ => by
  rw [st_bt P k hk, st_bt Q k hk]
  by_cases c : i < k
  · rw [h i c]
  · rw [decide_eq_false c]
    rfl)
theorem b_all : ∀ n, n ≤ 16 → ∀ i, i < 32 → bt (((1 : Int32) <<< (nI n &&& 31)) - 1) i = decide (i < n) := by decide +kernel
theorem b_full {n : Nat} (h : n ≤ 16) (i : Nat) : bt (((1 : Int32) <<< (nI n &&& 31)) - 1) i = decide (i < n) := by
  rcases Nat.lt_or_ge i 32 with z | z
  · exact b_all n h i z
  · rw [b_big z, decide_eq_false (by omega)]
