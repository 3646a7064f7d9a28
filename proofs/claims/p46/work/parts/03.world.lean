/-! The class's world: 33 cells at addresses that never change; what they hold is a function of cell and place. -/
-- words that stay while the tables grow
def gw_st (w : Cond) : Bool := goodWord w || (match w with
  | .methodLinkNest .. => true
  | .fieldLinkNest .. => true
  | .declares _ => true
  | .castable .. => true
  | _ => false)
theorem gw_warm {args a' : Array Value} {s U : State} {w : Cond} (hW : s.WarmedH U.vm) (h : gw_st w = true) (hb : w.before args s = true) : w.before a' U = true := by
  by_cases h1 : goodWord w = true
  · exact word_at hW (good_of_word h1) hb
  · cases w with
    | methodLinkNest a i x h => exact va_Nw.use rfl (va_Nw.warmM hW (va_Nw.of rfl hb))
    | fieldLinkNest a i b n d h => exact va_Nw.use rfl (va_Nw.warmF hW (va_Nw.of rfl hb))
    | declares x => exact va_Nw.use rfl (va_Nw.warmD hW (va_Nw.of rfl hb))
    | castable C T => exact va_Nw.use rfl (va_Nw.warmC hW (va_Nw.of rfl hb))
    | _ => simp [gw_st, h1] at h
/-- a private method of a class above, found by the receiver -/
theorem gw_selp {C C0 : String} {x0 y0 y : MethodName} {s : State} {args : Array Value} {n : Nat} (hy : y.cls ≠ "java/lang/invoke/MethodHandle" ∧ y.cls ≠ "java/lang/invoke/VarHandle") (h0 : (Cond.selects C0 x0 y0).before args s = true) (hc0 : y0.cls = y.cls)
    (hins : (Cond.instantiable C n).before args s = true) (hpriv : (Cond.privateMethod y).before args s = true) (hinst : (Cond.instanceMethod y).before args s = true) : (Cond.selects C y y).before args s = true := by
  obtain ⟨c, k, hc, hk, -, -, -, -⟩ := Cond.instantiable_spec hins
  obtain ⟨mk, methM, hnamed, hmethM, -, -⟩ := Cond.instanceMethod_spec hinst
  have hfound : s.methodFound? y.cls y.name y.desc = some mk := State.methodFound?_of_named hnamed hy
  have hsel : selectMethod {} s.vm c mk = .method mk := selectMethod_private hmethM (Cond.privateMethod_at hpriv mk methM hnamed hmethM)
  have hni : (s.vm.classes[mk.cls]?).any (!·.isInterface) = true := by
    simp only [Cond.before, Cond.holds, Cond.value] at h0
    revert h0
    cases s.vm.findClass C0 with
    | none => intro h0; simp at h0
    | some c0 =>
      cases s.methodFound? x0.cls x0.name x0.desc with
      | none => intro h0; simp at h0
      | some r0 =>
        cases hm0 : s.methodNamed? y0 with
        | none => intro h0; simp at h0
        | some m0 =>
          intro h0
          have e1 := findClass_of_methodNamed hm0
          have e2 := findClass_of_methodNamed hnamed
          rw [hc0] at e1
          have e3 : m0.cls = mk.cls := Option.some.inj (e1.symm.trans e2)
          rw [← e3]
          simp only [beq_iff_eq, Option.some.injEq] at h0
          split at h0
          · exact (Bool.and_eq_true_iff.mp h0).2
          · exact absurd h0 (by decide)
  simp only [Cond.before, Cond.holds, Cond.value, hc, hfound, hnamed, hsel, hni]
  simp
def gw_x : List Cond := [Cond.selects RX4 yX5_refresh yX5_refresh, Cond.selects RX4 yX5_partly yX5_partly, Cond.selects RX4 yX5_contained yX5_contained, Cond.selects RX4 yX5_named yX5_named, Cond.selects RX4 yX5_judged yX5_judged, Cond.selects RX4 yX5_judgedBound yX5_judgedBound, Cond.selects RX0 yX5_refresh yX5_refresh, Cond.selects RX0 yX5_partly yX5_partly, Cond.selects RX0 yX5_contained yX5_contained, Cond.selects RX0 yX5_named yX5_named, Cond.selects RX0 yX5_judged yX5_judged, Cond.selects RX0 yX5_judgedBound yX5_judgedBound, Cond.selects RX6 yX5_refresh yX5_refresh, Cond.selects RX6 yX5_partly yX5_partly, Cond.selects RX6 yX5_contained yX5_contained, Cond.selects RX6 yX5_named yX5_named, Cond.selects RX6 yX5_judged yX5_judged, Cond.selects RX6 yX5_judgedBound yX5_judgedBound]
def gw_L : List Cond := (gw_x ++ lw_tbl).filter gw_st
theorem gw_tab (i : Nat) {w : Cond} (h : tables_1[i]? = some w) (hs : gw_st w = true) : w ∈ gw_L := List.mem_filter.mpr ⟨List.mem_append_right _ (List.mem_append_right _ (List.mem_of_getElem? h)), hs⟩
theorem gw_sel (i : Nat) {w : Cond} (h : (k2_sels lw_privs)[i]? = some w) (hs : gw_st w = true) : w ∈ gw_L := List.mem_filter.mpr ⟨List.mem_append_right _ (List.mem_append_left _ (List.mem_of_getElem? h)), hs⟩
theorem gw_xs (i : Nat) {w : Cond} (h : gw_x[i]? = some w) (hs : gw_st w = true) : w ∈ gw_L := List.mem_filter.mpr ⟨List.mem_append_left _ (List.mem_of_getElem? h), hs⟩
theorem gw_all {args a' : Array Value} {s U : State} (hW : s.WarmedH U.vm) (h : ∀ w ∈ gw_L, w.before args s = true) : ∀ w ∈ gw_L, w.before a' U = true := fun w hw => gw_warm hW (List.mem_filter.mp hw).2 (h w hw)
-- the world
abbrev gw_S : Type := Nat → Nat → Int32
def gw_up (σ : gw_S) (k j : Nat) (v : Int32) : gw_S := fun a => if a = k then upd (σ a) j v else σ a
abbrev gw_G : Type := va_G × (Nat → Nat) × ClassId × (Nat → Nat)
/-- the cells: the wood 0; the order 1 with downs 2, images 3; the names 4 with sizes 5, pairs 6, heights 7, trial 8, drafted 9, standards 10; the formulas 11 with kinds 12, firsts 13, seconds 14, letters 15, depths 16, opens 17; valued 18 with likes 19, insides 20, letters 21; forced 22 (23, 24, 25); weak 26 (27, 28, 29); the world 30 with codes 31, letters 32 -/
def gw_W (G : gw_G) (σ : gw_S) : va_W :=
  [(G.2.1 0, .inr (10, [.ref (G.2.1 1), .ref (G.2.1 4), .ref (G.2.1 11), .ref (G.2.1 18), .ref (G.2.1 22), .ref (G.2.1 26), .ref (G.2.1 30)])),
   (G.2.1 1, .inr (6, [.int (σ 1 0), .int (σ 1 1), .int (σ 1 2), .ref (G.2.1 2), .ref (G.2.1 3)])),
   (G.2.1 2, .inl (G.2.2.1, 7, .inl (σ 2))), (G.2.1 3, .inl (G.2.2.1, 7, .inl (σ 3))),
   (G.2.1 4, .inr (5, [.ref (G.2.1 1), .int (σ 4 1), .int (σ 4 2), .ref (G.2.1 5), .ref (G.2.1 6), .ref (G.2.1 7), .ref (G.2.1 8), .ref (G.2.1 9), .ref (G.2.1 10)])),
   (G.2.1 5, .inl (G.2.2.1, 12, .inl (σ 5))), (G.2.1 6, .inl (G.2.2.1, 48, .inl (σ 6))), (G.2.1 7, .inl (G.2.2.1, 12, .inl (σ 7))), (G.2.1 8, .inl (G.2.2.1, 12, .inl (σ 8))), (G.2.1 9, .inl (G.2.2.1, 4, .inl (σ 9))), (G.2.1 10, .inl (G.2.2.1, 16, .inl (σ 10))),
   (G.2.1 11, .inr (4, [.int (σ 11 0), .ref (G.2.1 12), .ref (G.2.1 13), .ref (G.2.1 14), .ref (G.2.1 15), .ref (G.2.1 16), .ref (G.2.1 17)])),
   (G.2.1 12, .inl (G.2.2.1, 16, .inl (σ 12))), (G.2.1 13, .inl (G.2.2.1, 16, .inl (σ 13))), (G.2.1 14, .inl (G.2.2.1, 16, .inl (σ 14))), (G.2.1 15, .inl (G.2.2.1, 16, .inl (σ 15))), (G.2.1 16, .inl (G.2.2.1, 16, .inl (σ 16))), (G.2.1 17, .inl (G.2.2.1, 16, .inl (σ 17))),
   (G.2.1 18, .inr (7, [.ref (G.2.1 1), .ref (G.2.1 4), .ref (G.2.1 11), .ref (G.2.1 19), .ref (G.2.1 20), .ref (G.2.1 21), .int (σ 18 6)])),
   (G.2.1 19, .inl (G.2.2.1, 144, .inl (σ 19))), (G.2.1 20, .inl (G.2.2.1, 144, .inl (σ 20))), (G.2.1 21, .inl (G.2.2.1, 4, .inl (σ 21))),
   (G.2.1 22, .inr (3, [.ref (G.2.1 1), .ref (G.2.1 4), .ref (G.2.1 11), .ref (G.2.1 23), .ref (G.2.1 24), .ref (G.2.1 25), .int (σ 22 6)])),
   (G.2.1 23, .inl (G.2.2.1, 144, .inl (σ 23))), (G.2.1 24, .inl (G.2.2.1, 144, .inl (σ 24))), (G.2.1 25, .inl (G.2.2.1, 4, .inl (σ 25))),
   (G.2.1 26, .inr (8, [.ref (G.2.1 1), .ref (G.2.1 4), .ref (G.2.1 11), .ref (G.2.1 27), .ref (G.2.1 28), .ref (G.2.1 29), .int (σ 26 6)])),
   (G.2.1 27, .inl (G.2.2.1, 144, .inl (σ 27))), (G.2.1 28, .inl (G.2.2.1, 144, .inl (σ 28))), (G.2.1 29, .inl (G.2.2.1, 4, .inl (σ 29))),
   (G.2.1 30, .inr (9, [.ref (G.2.1 1), .ref (G.2.1 4), .ref (G.2.1 11), .ref (G.2.1 31), .ref (G.2.1 32)])),
   (G.2.1 31, .inl (G.2.2.1, 12, .inl (σ 31))), (G.2.1 32, .inl (G.2.2.1, 4, .inl (σ 32)))]
def gw_P (G : gw_G) (σ : gw_S) (H : Heap) : Prop := va_P G.1 vwCl (gw_W G σ) H
/-- the addresses are apart -/
def gw_I (G : gw_G) : Prop := ∀ i j : Nat, i < 33 → j < 33 → G.2.1 i = G.2.1 j → i = j
/-- what the class's methods may change -/
def gw_A (G : gw_G) (sz : Nat) : Nat → Prop := fun q => (∃ k : Nat, k < 33 ∧ q = G.2.1 k) ∨ sz ≤ q
theorem gw_at (G : gw_G) (σ : gw_S) : ∀ (k : Nat) (q : Nat × va_E), (gw_W G σ)[k]? = some q → k < 33 ∧ q.1 = G.2.1 k := by
  intro k q h
  have hl : k < (gw_W G σ).length := (List.getElem?_eq_some_iff.mp h).1
  have hk : k < 33 := hl
  refine ⟨hk, ?_⟩
  have h2 : ((gw_W G σ).map (fun z => z.1))[k]? = some q.1 := by rw [List.getElem?_map, h]; rfl
  have h3 : ((List.range 33).map G.2.1)[k]? = some (G.2.1 k) := by
    rw [List.getElem?_map, List.getElem?_range hk]; rfl
  have h4 : (gw_W G σ).map (fun z => z.1) = (List.range 33).map G.2.1 := rfl
  rw [h4, h3] at h2
  exact (Option.some.inj h2).symm
theorem gw_D {G : gw_G} (h : gw_I G) (sz : Nat) (σ : gw_S) : va_D (gw_A G sz) (gw_W G σ) := by
  refine ⟨fun i j p q hi hj e => ?_, fun k q hk => ?_⟩
  · obtain ⟨h1, h2⟩ := gw_at G σ i p hi
    obtain ⟨h3, h4⟩ := gw_at G σ j q hj
    exact h i j h1 h3 (by rw [← h2, ← h4]; exact e)
  · obtain ⟨h1, h2⟩ := gw_at G σ k q hk
    exact Or.inl ⟨k, h1, h2⟩
theorem gw_Asub {G : gw_G} {H : Heap} {sz : Nat} (hz : sz ≤ H.size) : ∀ q, gw_A G H.size q → gw_A G sz q := fun _ h => h.elim Or.inl (fun h => Or.inr (Nat.le_trans hz h))
theorem gw_Asz {G : gw_G} {sz : Nat} : ∀ q, sz ≤ q → gw_A G sz q := fun _ h => Or.inr h
/-- which places are rows, and how long they are -/
def gw_ln (k : Nat) : Nat := match k with
  | 2 => 7 | 3 => 7 | 5 => 12 | 6 => 48 | 7 => 12 | 8 => 12 | 9 => 4 | 10 => 16 | 12 => 16 | 13 => 16 | 14 => 16 | 15 => 16 | 16 => 16 | 17 => 16
  | 19 => 144 | 20 => 144 | 21 => 4 | 23 => 144 | 24 => 144 | 25 => 4 | 27 => 144 | 28 => 144 | 29 => 4 | 31 => 12 | 32 => 4 | _ => 0
def gw_row (k : Nat) : Prop := k < 33 ∧ 0 < gw_ln k
theorem gw_rowAt {k : Nat} (h : gw_row k) (G : gw_G) (σ : gw_S) : (gw_W G σ)[k]? = some (G.2.1 k, .inl (G.2.2.1, gw_ln k, .inl (σ k))) := by
  obtain ⟨h1, h2⟩ := h
  match k, h1, h2 with
  | 0, _, h2 => exact absurd h2 (by decide)
  | 1, _, h2 => exact absurd h2 (by decide)
  | 2, _, _ => rfl
  | 3, _, _ => rfl
  | 4, _, h2 => exact absurd h2 (by decide)
  | 5, _, _ => rfl
  | 6, _, _ => rfl
  | 7, _, _ => rfl
  | 8, _, _ => rfl
  | 9, _, _ => rfl
  | 10, _, _ => rfl
  | 11, _, h2 => exact absurd h2 (by decide)
  | 12, _, _ => rfl
  | 13, _, _ => rfl
  | 14, _, _ => rfl
  | 15, _, _ => rfl
  | 16, _, _ => rfl
  | 17, _, _ => rfl
  | 18, _, h2 => exact absurd h2 (by decide)
  | 19, _, _ => rfl
  | 20, _, _ => rfl
  | 21, _, _ => rfl
  | 22, _, h2 => exact absurd h2 (by decide)
  | 23, _, _ => rfl
  | 24, _, _ => rfl
  | 25, _, _ => rfl
  | 26, _, h2 => exact absurd h2 (by decide)
  | 27, _, _ => rfl
  | 28, _, _ => rfl
  | 29, _, _ => rfl
  | 30, _, h2 => exact absurd h2 (by decide)
  | 31, _, _ => rfl
  | 32, _, _ => rfl
  | k + 33, h1, _ => omega
theorem gw_rowSet {k : Nat} (h : gw_row k) (G : gw_G) (σ : gw_S) (j : Nat) (v : Int32) : (gw_W G σ).set k (G.2.1 k, .inl (G.2.2.1, gw_ln k, .inl (upd (σ k) j v))) = gw_W G (gw_up σ k j v) := by
  obtain ⟨h1, h2⟩ := h
  match k, h1, h2 with
  | 0, _, h2 => exact absurd h2 (by decide)
  | 1, _, h2 => exact absurd h2 (by decide)
  | 2, _, _ => rfl
  | 3, _, _ => rfl
  | 4, _, h2 => exact absurd h2 (by decide)
  | 5, _, _ => rfl
  | 6, _, _ => rfl
  | 7, _, _ => rfl
  | 8, _, _ => rfl
  | 9, _, _ => rfl
  | 10, _, _ => rfl
  | 11, _, h2 => exact absurd h2 (by decide)
  | 12, _, _ => rfl
  | 13, _, _ => rfl
  | 14, _, _ => rfl
  | 15, _, _ => rfl
  | 16, _, _ => rfl
  | 17, _, _ => rfl
  | 18, _, h2 => exact absurd h2 (by decide)
  | 19, _, _ => rfl
  | 20, _, _ => rfl
  | 21, _, _ => rfl
  | 22, _, h2 => exact absurd h2 (by decide)
  | 23, _, _ => rfl
  | 24, _, _ => rfl
  | 25, _, _ => rfl
  | 26, _, h2 => exact absurd h2 (by decide)
  | 27, _, _ => rfl
  | 28, _, _ => rfl
  | 29, _, _ => rfl
  | 30, _, h2 => exact absurd h2 (by decide)
  | 31, _, _ => rfl
  | 32, _, _ => rfl
  | k + 33, h1, _ => omega
theorem gw_fs_1_0 (G : gw_G) (σ : gw_S) (v : Int32) : (gw_W G σ).set 1 (G.2.1 1, .inr (6, [.int (σ 1 0), .int (σ 1 1), .int (σ 1 2), .ref (G.2.1 2), .ref (G.2.1 3)].set 0 (.int v))) = gw_W G (gw_up σ 1 0 v) := rfl
