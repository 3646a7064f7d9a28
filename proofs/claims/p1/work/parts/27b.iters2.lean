theorem ib_76 : Cond.methodLink RX11 76 ⟨"java/util/List", "iterator", "()Ljava/util/Iterator;"⟩ ∈ gw_L := gw_tab 1354 (by decide +kernel) (by decide +kernel)
theorem ib_76v : Cond.selects RJx4a65c ⟨"java/util/List", "iterator", "()Ljava/util/Iterator;"⟩ yJx4a65c_iterator_32c93 ∈ gw_L ∧ Cond.instanceMethod yJx4a65c_iterator_32c93 ∈ gw_L := ⟨gw_tab 1357 (by decide +kernel) (by decide +kernel), gw_tab 1359 (by decide +kernel) (by decide +kernel)⟩
theorem ib_80 : Cond.methodLink RX11 80 ⟨"java/util/Iterator", "hasNext", "()Z"⟩ ∈ gw_L := gw_tab 1382 (by decide +kernel) (by decide +kernel)
theorem ib_80v : Cond.selects RJx35411 ⟨"java/util/Iterator", "hasNext", "()Z"⟩ yJx35411_hasNext_aae02 ∈ gw_L ∧ Cond.instanceMethod yJx35411_hasNext_aae02 ∈ gw_L := ⟨gw_tab 1386 (by decide +kernel) (by decide +kernel), gw_tab 1388 (by decide +kernel) (by decide +kernel)⟩
theorem ib_one {A : Nat → Prop} {h : Nat} {x : va_E} (hA : A h) : va_D A [(h, x)] := ⟨fun i j p q hi hj _ => by
    have h1 : i < 1 := (List.getElem?_eq_some_iff.mp hi).1
    have h2 : j < 1 := (List.getElem?_eq_some_iff.mp hj).1
    omega, fun k q hk => by
    have h1 : k < 1 := (List.getElem?_eq_some_iff.mp hk).1
    have h3 : k = 0 := by omega
    subst h3
    have h4 : (h, x) = q := Option.some.inj hk
    rw [← h4]
    exact hA⟩
/-- one cell that a call can't have touched -/
theorem ib_kept {D : va_G} {h : Nat} {x : va_E} {H H1 : Heap} {A : Nat → Prop} (hP : va_P D vwCl [(h, x)] H) (hn : h < H.size → ¬ A h) (hk : ∀ q : Nat, q < H.size → ¬ A q → H1[q]? = H[q]?) : va_P D vwCl [(h, x)] H1 := fun k q hq => by
  have h1 : k < 1 := (List.getElem?_eq_some_iff.mp hq).1
  have h3 : k = 0 := by omega
  subst h3
  have h4 : (h, x) = q := Option.some.inj hq
  have hlt := (hP 0 q hq).lt
  refine (hP 0 q hq).kept (hk _ hlt ?_)
  rw [← h4] at hlt ⊢
  exact hn hlt
section IB
variable {p : Program} {l : Launch} {e : Env} {R : Room} {s : State} {m : MethodId} {args : Array Value} {below : List Frame} {meth : Method} {c : Code} {H : Heap} {locs : List Loc} {cells slots : Nat} {Q : State → Prop}
variable {cc : ByteArray} {nL pc : Nat} {ret0 : Option FieldType} {G : gw_G} {ls : Array Slot} {st0 rest : List Value} {h a : Nat} {mc n : Int32}
/-- a list's iterator, asked for by the reference -/
theorem ib_iter (X : gw_X p s m args meth c cc nL RX11 ret0 G) (hP : va_P G.1 vwCl [(h, .inr (2, [.int mc, .ref a, .int n]))] H) (hh : gw_A G s.heap.size h) (hS : va_S (gw_A G s.heap.size) s.heap H locs) (hst : st0 = .ref h :: rest) (hW : (rest.map fun v => v.category).sum ≤ 8) (hls : ls.size = nL) (hR : 3 ≤ R.frames ∧ 60 ≤ R.locals) (hf : cells + 1 ≤ R.cells ∧ slots + 4 ≤ R.slots) (hdg : decode cc pc = .ok (.invokeinterface 76 1, 5))
    (kk : ∀ (it : Nat) (H1 : Heap) (locs1 : List Loc), va_P G.1 vwCl (ia_W it h a (-1) mc mc n (.ref h)) H1 → H.size ≤ it → (∀ q : Nat, q < H.size → ¬ (q = h ∨ H.size ≤ q) → H1[q]? = H[q]?) → va_S (gw_A G s.heap.size) s.heap H1 locs1 → W p l e R s m args below meth c H1 locs1 (cells + 1) (slots + 4) Q (F0 m (pc + 5) ls (.ref it :: rest))) : W p l e R s m args below meth c H locs cells slots Q (F0 m pc ls st0) := by
  have hts := X.2.2.2.2.1
  have hT : gw_T G s := X.2.2.2.2.2.2.2.1
  have hA1 : ∀ q : Nat, (q = h ∨ H.size ≤ q) → gw_A G s.heap.size q := fun q z => z.elim (fun z => by rw [z]; exact hh) (fun z => Or.inr (Nat.le_trans hS.1 z))
  refine va_callFr (va_runF (x := ⟨"java/util/List", "iterator", "()Ljava/util/Iterator;"⟩) (C := RJx4a65c) (As := []) (hT.2.1.1 2 _ rfl).2 (gw_fix X) (ia_iterator l G.1 h a mc n H.size) (la_cF hts (hT.2.2.2 4 _ rfl) ia_kt ⟨by decide +kernel, by decide +kernel⟩ ib_76 ib_76v rfl rfl ⟨hR.1, hR.2⟩) ⟨ia_blind _ _ _ _, va_recv (hT.2.1.sub (tys' := []) [] rfl) hP (ci := 2) (q0 := 0) rfl rfl, fun U hU hWm => ⟨rfl, by rw [hU], by rw [hU]; exact hP, (hT.2.1.sub [] rfl).moved hWm.alike, ib_one trivial⟩⟩ rfl rfl hls hst (lv_room hW) hdg hf) hS (fun q _ z => hA1 q z) hA1 (fun _ it t H1 locs1 ht hvm _ hB hz hk hS1 => ?_)
  obtain ⟨hB1, hB2⟩ := hB
  rw [ht] at hB1
  exact kk it H1 locs1 hB1 hB2 hk hS1
theorem ib_next {it : Nat} {x1 x2 : Int32} (X : gw_X p s m args meth c cc nL RX11 ret0 G) (hP : va_P G.1 vwCl (ia_W it h a x1 x2 mc 0 (.ref h)) H) (hne : it ≠ h) (hS : va_S (gw_A G s.heap.size) s.heap H locs) (hst : st0 = .ref it :: rest) (hW : (rest.map fun v => v.category).sum ≤ 8) (hls : ls.size = nL) (hR : 1 ≤ R.frames ∧ 20 ≤ R.locals) (hf : cells + 0 ≤ R.cells ∧ slots + 0 ≤ R.slots) (hdg : decode cc pc = .ok (.invokeinterface 80 1, 5))
    (kk : ∀ (H1 : Heap) (locs1 : List Loc), (∀ q : Nat, q < H.size → H1[q]? = H[q]?) → va_S (gw_A G s.heap.size) s.heap H1 locs1 → W p l e R s m args below meth c H1 locs1 cells slots Q (F0 m (pc + 5) ls (.int 0 :: rest))) : W p l e R s m args below meth c H locs cells slots Q (F0 m pc ls st0) := by
  have hts := X.2.2.2.2.1
  have hT : gw_T G s := X.2.2.2.2.2.2.2.1
  have hD : va_D (fun _ => True) (ia_W it h a x1 x2 mc 0 (.ref h)) := ⟨fun i j y z hi hj hyz => by
    have h1 : i < 2 := (List.getElem?_eq_some_iff.mp hi).1
    have h2 : j < 2 := (List.getElem?_eq_some_iff.mp hj).1
    rcases (show (i = 0 ∨ i = 1) by omega) with rfl | rfl <;> rcases (show (j = 0 ∨ j = 1) by omega) with rfl | rfl
    · rfl
    · have e1 := Option.some.inj hi
      have e2 := Option.some.inj hj
      rw [← e1, ← e2] at hyz
      exact absurd hyz hne
    · have e1 := Option.some.inj hi
      have e2 := Option.some.inj hj
      rw [← e1, ← e2] at hyz
      exact absurd hyz.symm hne
    · rfl, fun _ _ _ => trivial⟩
  refine va_callFi (va_runF (x := ⟨"java/util/Iterator", "hasNext", "()Z"⟩) (C := RJx35411) (As := []) (hT.2.1.1 1 _ rfl).2 (gw_fix X) (ia_hasNext l G.1 it h a x1 x2 mc H.size) (la_cF hts (hT.2.2.2 5 _ rfl) ia_kh ⟨by decide +kernel, by decide +kernel⟩ ib_80 ib_80v rfl rfl ⟨hR.1, hR.2⟩) ⟨ia_blind _ _ _ _, va_recv (hT.2.1.sub (tys' := []) [] rfl) hP (ci := 1) (q0 := 0) rfl rfl, fun U hU hWm => ⟨rfl, by rw [hU], by rw [hU]; exact hP, (hT.2.1.sub [] rfl).moved hWm.alike, hD⟩⟩ rfl rfl hls hst (lv_room hW) hdg hf) hS (fun _ _ z => z.elim) (fun _ z => z.elim) (fun r _ t H1 locs1 ht hvm hr hB hz hk hS1 => ?_)
  have hr : r = 0 := hr
  subst hr
  exact kk H1 locs1 (fun q hq => hk q hq (fun z => z)) hS1
end IB
