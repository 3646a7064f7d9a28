theorem ev_pair {α β : Type} {x : Option (α × gw_S)} {y : gw_S → Option (β × gw_S)} {a : α} {b : β} {t : Int32} (h : (x.bind fun o => (y o.2).map fun o2 => (o.1, o2.1, o2.2 33 4)) = some (a, b, t)) : ∃ (o : α × gw_S) (o2 : β × gw_S), x = some o ∧ y o.2 = some o2 ∧ o.1 = a ∧ o2.1 = b ∧ o2.2 33 4 = t := by
  obtain ⟨o, h1, h2⟩ := Option.bind_eq_some_iff.mp h
  obtain ⟨o2, h3, h4⟩ := Option.map_eq_some_iff.mp h2
  injection h4 with e1 h5
  injection h5 with e2 e3
  exact ⟨o, o2, h1, h3, e1, e2, e3⟩
theorem ev_k3 (c : Int32) : f_X3_knows c lo_z = some (0, lo_z) := by
  unfold f_X3_knows
  by_cases h : c < 0
  · exact if_pos h
  · exact (if_neg h).trans (if_pos (Int32.not_lt.mp h))
theorem ev_k2 (c : Int32) : f_X2_knows c lo_z = some (0, lo_z) := by
  unfold f_X2_knows
  by_cases h : c < 0
  · exact if_pos h
  · exact (if_neg h).trans (if_pos (Int32.not_lt.mp h))
theorem ev_k1 (c : Int32) : f_X1_knows c lo_z = some (0, lo_z) := by
  unfold f_X1_knows
  by_cases h : c < 0
  · exact if_pos h
  · exact (if_neg h).trans (if_pos (Int32.not_lt.mp h))
theorem ev_nc (c : Int32) : f_X8_needCondition c lo_z = some (.inr "java/lang/IndexOutOfBoundsException", lo_z) := by unfold f_X8_needCondition; rw [ev_k3]; rfl
theorem ev_nn (c : Int32) : f_X8_needName c lo_z = some (.inr "java/lang/IndexOutOfBoundsException", lo_z) := by unfold f_X8_needName; rw [ev_k2]; rfl
theorem ev_nf (c : Int32) : f_X8_needFormula c lo_z = some (.inr "java/lang/IndexOutOfBoundsException", lo_z) := by unfold f_X8_needFormula; rw [ev_k1]; rfl
theorem ev_ncs (a b : Int32) : f_X8_needConditions a b lo_z = some (.inr "java/lang/IndexOutOfBoundsException", lo_z) := by unfold f_X8_needConditions; rw [ev_nc]; rfl
theorem ev_ncl (c : Int32) : f_X8_needClosed c lo_z = some (.inr "java/lang/IndexOutOfBoundsException", lo_z) := by unfold f_X8_needClosed; rw [ev_nf]; rfl
theorem ev_ns {a : Int32} (h : ¬ a = 0) : f_X8_needSet a lo_z = some (.inr "java/lang/IllegalArgumentException", lo_z) := by
  have e : f_X8_isPart a ((((1 : Int32) <<< ((lo_z 1 0) &&& 31)) - (1 : Int32))) lo_z = some (0, lo_z) := by
    unfold f_X8_isPart
    rw [show ((((1 : Int32) <<< ((lo_z 1 0) &&& 31)) - (1 : Int32)) ^^^ (-1 : Int32)) = -1 from by decide +kernel, Int32.and_neg_one]
    exact if_neg h
  unfold f_X8_needSet f_X3_all
  show ((f_X8_isPart a ((((1 : Int32) <<< ((lo_z 1 0) &&& 31)) - (1 : Int32))) lo_z).bind _) = _
  rw [e]
  rfl
theorem ev_nw (a : Int32) : f_X8_needWorld a lo_z = some (.inr "java/lang/IllegalArgumentException", lo_z) := by
  have e : f_X8_contains 0 a lo_z = some (0, lo_z) := by
    unfold f_X8_contains
    by_cases h1 : a < 0
    · exact if_pos h1
    · refine (if_neg h1).trans ?_
      by_cases h2 : (32 : Int32) ≤ a
      · exact if_pos h2
      · refine (if_neg h2).trans (if_pos ?_)
        rw [show (0 : Int32).toUInt32 = 0 from rfl, UInt32.zero_shiftRight]
        rfl
  unfold f_X8_needWorld f_X3_ends
  show ((f_X8_contains 0 a lo_z).bind _) = _
  rw [e]
  rfl
theorem mv_in (a : Int32) (σ : gw_S) : f_X11_isIn a 0 (0 - 1) σ = some (0, σ) := by
  unfold f_X11_isIn
  by_cases h : a < 0
  · exact if_pos h
  · exact (if_neg h).trans (if_pos (Int32.lt_of_lt_of_le (by decide) (Int32.not_lt.mp h)))
theorem mv_isC (a : Int32) : f_X11_isCondition a lo_z = some (0, lo_z) := by
  unfold f_X11_isCondition f_Jx4a65c_size_8abf5_34
  show ((f_X11_isIn a 0 (0 - 1) lo_z).bind _) = _
  rw [mv_in]
  rfl
theorem mv_isN (a : Int32) : f_X11_isName a lo_z = some (0, lo_z) := by
  unfold f_X11_isName f_Jx4a65c_size_8abf5_35
  show ((f_X11_isIn a 0 (0 - 1) lo_z).bind _) = _
  rw [mv_in]
  rfl
theorem mv_isF (a : Int32) : f_X11_isFormula a lo_z = some (0, lo_z) := by
  unfold f_X11_isFormula f_Jx4a65c_size_8abf5_36
  show ((f_X11_isIn a 0 (0 - 1) lo_z).bind _) = _
  rw [mv_in]
  rfl
theorem mv_isS {a : Int32} (h : ¬ a = 0) : f_X11_isSet a lo_z = some (0, lo_z) := by
  have e : f_X11_isIn a 0 ((((1 : Int32) <<< ((lo_z 34 2) &&& 31)) - (1 : Int32))) lo_z = some (0, lo_z) := by
    rw [show ((((1 : Int32) <<< ((lo_z 34 2) &&& 31)) - (1 : Int32))) = 0 from by decide +kernel]
    unfold f_X11_isIn
    by_cases h1 : a < 0
    · exact if_pos h1
    · exact (if_neg h1).trans (if_pos (Int32.lt_of_le_of_ne (Int32.not_lt.mp h1) (fun z => h z.symm)))
  unfold f_X11_isSet f_Jx4a65c_size_8abf5_34
  show ((f_X11_isIn a 0 ((((1 : Int32) <<< ((lo_z 34 2) &&& 31)) - (1 : Int32))) lo_z).bind _) = _
  rw [e]
  rfl
theorem mv_isW (a : Int32) : f_X11_isWorld a lo_z = some (0, lo_z) := by unfold f_X11_isWorld; rw [mv_isC]; rfl
theorem mv_no (t : Int32) (σ : gw_S) : f_X11_no 0 t σ = some (1, gw_up σ 33 4 t) := rfl

theorem ev8_under (a0 a1 : Int32) : f_X8_under a0 a1 lo_z = some (.inr "java/lang/IndexOutOfBoundsException", lo_z) := by unfold f_X8_under; rw [ev_ncs]; rfl
theorem mv8_under (a0 a1 : Int32) : f_X11_under a0 a1 lo_z = some (0, gw_up lo_z 33 4 1) := by unfold f_X11_under; rw [mv_isC]; rfl
theorem ev8_isBelow (a0 a1 : Int32) : f_X8_isBelow a0 a1 lo_z = some (.inr "java/lang/IndexOutOfBoundsException", lo_z) := by unfold f_X8_isBelow; rw [ev_ncs]; rfl
theorem mv8_isBelow (a0 a1 : Int32) : f_X11_isBelow a0 a1 lo_z = some (0, gw_up lo_z 33 4 1) := by unfold f_X11_isBelow; rw [mv_isC]; rfl
theorem ev8_fit (a0 a1 : Int32) : f_X8_fit a0 a1 lo_z = some (.inr "java/lang/IndexOutOfBoundsException", lo_z) := by unfold f_X8_fit; rw [ev_ncs]; rfl
theorem mv8_fit (a0 a1 : Int32) : f_X11_fit a0 a1 lo_z = some (0, gw_up lo_z 33 4 1) := by unfold f_X11_fit; rw [mv_isC]; rfl
theorem ev8_cut (a0 : Int32) : f_X8_cut a0 lo_z = some (.inr "java/lang/IndexOutOfBoundsException", lo_z) := by unfold f_X8_cut; rw [ev_nc]; rfl
theorem mv8_cut (a0 : Int32) : f_X11_cut a0 lo_z = some (0, gw_up lo_z 33 4 1) := by unfold f_X11_cut; rw [mv_isC]; rfl
theorem ev8_filterOf (a0 : Int32) : f_X8_filterOf a0 lo_z = some (.inr "java/lang/IllegalArgumentException", lo_z) := by unfold f_X8_filterOf; rw [ev_nw]; rfl
theorem mv8_filterOf (a0 : Int32) : f_X11_filterOf a0 lo_z = some (0, gw_up lo_z 33 4 1) := by unfold f_X11_filterOf; rw [mv_isW]; rfl
theorem ev8_pair (a0 a1 a2 : Int32) : f_X8_pair a0 a1 a2 lo_z = some (.inr "java/lang/IndexOutOfBoundsException", lo_z) := by unfold f_X8_pair; rw [ev_nn]; rfl
theorem mv8_pair (a0 a1 a2 : Int32) : f_X11_pair a0 a1 a2 lo_z = some (0, gw_up lo_z 33 4 1) := by unfold f_X11_pair; rw [mv_isN]; rfl
theorem ev8_unpair (a0 : Int32) : f_X8_unpair a0 lo_z = some (.inr "java/lang/IndexOutOfBoundsException", lo_z) := by unfold f_X8_unpair; rw [ev_nn]; rfl
theorem mv8_unpair (a0 : Int32) : f_X11_unpair a0 lo_z = some (0, gw_up lo_z 33 4 1) := by unfold f_X11_unpair; rw [mv_isN]; rfl
theorem ev8_rank (a0 : Int32) : f_X8_rank a0 lo_z = some (.inr "java/lang/IndexOutOfBoundsException", lo_z) := by unfold f_X8_rank; rw [ev_nn]; rfl
theorem mv8_rank (a0 : Int32) : f_X11_rank a0 lo_z = some (0, gw_up lo_z 33 4 1) := by unfold f_X11_rank; rw [mv_isN]; rfl
theorem ev8_becomes (a0 a1 : Int32) : f_X8_becomes a0 a1 lo_z = some (.inr "java/lang/IndexOutOfBoundsException", lo_z) := by unfold f_X8_becomes; rw [ev_nn]; rfl
theorem mv8_becomes (a0 a1 : Int32) : f_X11_becomes a0 a1 lo_z = some (0, gw_up lo_z 33 4 1) := by unfold f_X11_becomes; rw [mv_isN]; rfl
theorem ev8_valueIn (a0 a1 : Int32) : f_X8_valueIn a0 a1 lo_z = some (.inr "java/lang/IndexOutOfBoundsException", lo_z) := by unfold f_X8_valueIn; rw [ev_nn]; rfl
theorem mv8_valueIn (a0 a1 : Int32) : f_X11_valueIn a0 a1 lo_z = some (0, gw_up lo_z 33 4 1) := by unfold f_X11_valueIn; rw [mv_isN]; rfl
theorem ev8_valueLike (a0 a1 : Int32) : f_X8_valueLike a0 a1 lo_z = some (.inr "java/lang/IndexOutOfBoundsException", lo_z) := by unfold f_X8_valueLike; rw [ev_nn]; rfl
theorem mv8_valueLike (a0 a1 : Int32) : f_X11_valueLike a0 a1 lo_z = some (0, gw_up lo_z 33 4 1) := by unfold f_X11_valueLike; rw [mv_isN]; rfl
theorem ev8_forcesIn (a0 a1 a2 : Int32) : f_X8_forcesIn a0 a1 a2 lo_z = some (.inr "java/lang/IndexOutOfBoundsException", lo_z) := by unfold f_X8_forcesIn; rw [ev_nc]; rfl
theorem mv8_forcesIn (a0 a1 a2 : Int32) : f_X11_forcesIn a0 a1 a2 lo_z = some (0, gw_up lo_z 33 4 1) := by unfold f_X11_forcesIn; rw [mv_isC]; rfl
theorem ev8_forcesLike (a0 a1 a2 : Int32) : f_X8_forcesLike a0 a1 a2 lo_z = some (.inr "java/lang/IndexOutOfBoundsException", lo_z) := by unfold f_X8_forcesLike; rw [ev_nc]; rfl
theorem mv8_forcesLike (a0 a1 a2 : Int32) : f_X11_forcesLike a0 a1 a2 lo_z = some (0, gw_up lo_z 33 4 1) := by unfold f_X11_forcesLike; rw [mv_isC]; rfl
theorem ev8_mix (a0 a1 a2 a3 : Int32) : f_X8_mix a0 a1 a2 a3 lo_z = some (.inr "java/lang/IndexOutOfBoundsException", lo_z) := by unfold f_X8_mix; rw [ev_nn]; rfl
theorem mv8_mix (a0 a1 a2 a3 : Int32) : f_X11_mix a0 a1 a2 a3 lo_z = some (0, gw_up lo_z 33 4 1) := by unfold f_X11_mix; rw [mv_isN]; rfl
theorem ev8_both (a0 a1 a2 : Int32) : f_X8_both a0 a1 a2 lo_z = some (.inr "java/lang/IndexOutOfBoundsException", lo_z) := by unfold f_X8_both; rw [ev_nf]; rfl
theorem mv8_both (a0 a1 a2 : Int32) : f_X11_both a0 a1 a2 lo_z = some (0, gw_up lo_z 33 4 1) := by unfold f_X11_both; rw [mv_isF]; rfl
theorem ev8_not (a0 : Int32) : f_X8_not a0 lo_z = some (.inr "java/lang/IndexOutOfBoundsException", lo_z) := by unfold f_X8_not; rw [ev_nf]; rfl
theorem mv8_not (a0 : Int32) : f_X11_not a0 lo_z = some (0, gw_up lo_z 33 4 1) := by unfold f_X11_not; rw [mv_isF]; rfl
theorem ev8_bind (a0 a1 a2 a3 : Int32) : f_X8_bind a0 a1 a2 a3 lo_z = some (.inr "java/lang/IndexOutOfBoundsException", lo_z) := by unfold f_X8_bind; rw [ev_nf]; rfl
theorem mv8_bind (a0 a1 a2 a3 : Int32) : f_X11_bind a0 a1 a2 a3 lo_z = some (0, gw_up lo_z 33 4 1) := by unfold f_X11_bind; rw [mv_isF]; rfl
theorem ev8_free (a0 : Int32) : f_X8_free a0 lo_z = some (.inr "java/lang/IndexOutOfBoundsException", lo_z) := by unfold f_X8_free; rw [ev_nf]; rfl
theorem mv8_free (a0 : Int32) : f_X11_free a0 lo_z = some (0, gw_up lo_z 33 4 1) := by unfold f_X11_free; rw [mv_isF]; rfl
theorem ev8_value (a0 : Int32) : f_X8_value a0 lo_z = some (.inr "java/lang/IndexOutOfBoundsException", lo_z) := by unfold f_X8_value; rw [ev_ncl]; rfl
theorem mv8_value (a0 : Int32) : f_X11_value a0 lo_z = some (0, gw_up lo_z 33 4 1) := by unfold f_X11_value; rw [mv_isF]; rfl
theorem ev8_forces (a0 a1 : Int32) : f_X8_forces a0 a1 lo_z = some (.inr "java/lang/IndexOutOfBoundsException", lo_z) := by unfold f_X8_forces; rw [ev_nc]; rfl
theorem mv8_forces (a0 a1 : Int32) : f_X11_forces a0 a1 lo_z = some (0, gw_up lo_z 33 4 1) := by unfold f_X11_forces; rw [mv_isC]; rfl
theorem ev8_weakly (a0 a1 : Int32) : f_X8_weakly a0 a1 lo_z = some (.inr "java/lang/IndexOutOfBoundsException", lo_z) := by unfold f_X8_weakly; rw [ev_nc]; rfl
theorem mv8_weakly (a0 a1 : Int32) : f_X11_weakly a0 a1 lo_z = some (0, gw_up lo_z 33 4 1) := by unfold f_X11_weakly; rw [mv_isC]; rfl
theorem ev8_holds (a0 a1 : Int32) : f_X8_holds a0 a1 lo_z = some (.inr "java/lang/IndexOutOfBoundsException", lo_z) := by unfold f_X8_holds; rw [ev_ncl]; rfl
theorem mv8_holds (a0 a1 : Int32) : f_X11_holds a0 a1 lo_z = some (0, gw_up lo_z 33 4 1) := by unfold f_X11_holds; rw [mv_isF]; rfl
theorem ev8_against (a0 : Int32) : f_X8_against a0 lo_z = some (.inr "java/lang/IndexOutOfBoundsException", lo_z) := by unfold f_X8_against; rw [ev_ncl]; rfl
theorem mv8_against (a0 : Int32) : f_X11_against a0 lo_z = some (0, gw_up lo_z 33 4 1) := by unfold f_X11_against; rw [mv_isF]; rfl
theorem ev8_swap (a0 a1 : Int32) : f_X8_swap a0 a1 lo_z = some (.inr "java/lang/IndexOutOfBoundsException", lo_z) := by unfold f_X8_swap; rw [ev_ncs]; rfl
theorem mv8_swap (a0 a1 : Int32) : f_X11_swap a0 a1 lo_z = some (0, gw_up lo_z 33 4 1) := by unfold f_X11_swap; rw [mv_isC]; rfl
theorem ev8_goes (a0 : Int32) : f_X8_goes a0 lo_z = some (.inr "java/lang/IndexOutOfBoundsException", lo_z) := by unfold f_X8_goes; rw [ev_nc]; rfl
theorem mv8_goes (a0 : Int32) : f_X11_goes a0 lo_z = some (0, gw_up lo_z 33 4 1) := by unfold f_X11_goes; rw [mv_isC]; rfl
theorem ev8_isFixed (a0 : Int32) : f_X8_isFixed a0 lo_z = some (.inr "java/lang/IndexOutOfBoundsException", lo_z) := by unfold f_X8_isFixed; rw [ev_nn]; rfl
theorem mv8_isFixed (a0 : Int32) : f_X11_isFixed a0 lo_z = some (0, gw_up lo_z 33 4 1) := by unfold f_X11_isFixed; rw [mv_isN]; rfl
theorem ev8_isAntichain (a0 : Int32) (h : ¬ a0 = 0) : f_X8_isAntichain a0 lo_z = some (.inr "java/lang/IllegalArgumentException", lo_z) := by unfold f_X8_isAntichain; rw [ev_ns h]; rfl
theorem mv8_isAntichain (a0 : Int32) (h : ¬ a0 = 0) : f_X11_isAntichain a0 lo_z = some (0, gw_up lo_z 33 4 1) := by unfold f_X11_isAntichain; rw [mv_isS h]; rfl
theorem ev8_isDense (a0 : Int32) (h : ¬ a0 = 0) : f_X8_isDense a0 lo_z = some (.inr "java/lang/IllegalArgumentException", lo_z) := by unfold f_X8_isDense; rw [ev_ns h]; rfl
theorem mv8_isDense (a0 : Int32) (h : ¬ a0 = 0) : f_X11_isDense a0 lo_z = some (0, gw_up lo_z 33 4 1) := by unfold f_X11_isDense; rw [mv_isS h]; rfl
theorem ev8_isFilter (a0 : Int32) (h : ¬ a0 = 0) : f_X8_isFilter a0 lo_z = some (.inr "java/lang/IllegalArgumentException", lo_z) := by unfold f_X8_isFilter; rw [ev_ns h]; rfl
theorem mv8_isFilter (a0 : Int32) (h : ¬ a0 = 0) : f_X11_isFilter a0 lo_z = some (0, gw_up lo_z 33 4 1) := by unfold f_X11_isFilter; rw [mv_isS h]; rfl
theorem ev8_closure (a0 : Int32) (h : ¬ a0 = 0) : f_X8_closure a0 lo_z = some (.inr "java/lang/IllegalArgumentException", lo_z) := by unfold f_X8_closure; rw [ev_ns h]; rfl
theorem mv8_closure (a0 : Int32) (h : ¬ a0 = 0) : f_X11_closure a0 lo_z = some (0, gw_up lo_z 33 4 1) := by unfold f_X11_closure; rw [mv_isS h]; rfl
