/-! Constructors: an object comes fresh, its rows are made. -/
def gi_Pre (D : va_G) (cA : ClassId) (sz : Nat) (ws : va_W) (U : State) : Prop := U.heap.size = sz ∧ va_P D vwCl ws U.heap ∧ va_K D vwCl [(cA, .int)] U ∧ va_D (fun _ => True) ws
theorem gi_blind (As : List Value) (D : va_G) (cA : ClassId) (sz : Nat) (ws : va_W) : FrameBlind (va_Pc As (gi_Pre D cA sz ws)) := fun a U g mk q => ⟨q.1, q.2.1, q.2.2.1, va_K.moved (u := U) (U := U.calling g mk a) (Vm.Alike.refl U.vm) q.2.2.2.1, q.2.2.2.2⟩
theorem gi_pre {D : va_G} {cA : ClassId} {ws : va_W} {s : State} {H : Heap} {A : Nat → Prop} (hP : va_P D vwCl ws H) (hK : va_K D vwCl [(cA, .int)] s) (hD : va_D A ws) : ∀ U : State, U.heap = H → s.WarmedH U.vm → gi_Pre D cA H.size ws U := fun U hU hW => ⟨by rw [hU], by rw [hU]; exact hP, va_K.moved hW.alike hK, hD.weaken (fun _ _ _ _ => trivial)⟩
section GIN
variable {p : Program} {l : Launch} {e : Env} {R : Room} {s : State} {m : MethodId} {args : Array Value} {below : List Frame} {meth : Method} {c : Code} {H H0 : Heap} {locs : List Loc} {cells slots : Nat} {Q : State → Prop} {cc : ByteArray} {pc : Nat} {ls : Array Slot} {rest : List Value}
theorem gi_new {D : va_G} {cl : List vw_C} {A : Nat → Prop} {ws : va_W} {cA : ClassId} {n : Int32} {N : Nat} (hexec : p.tables.exec = Jvm.exec) (hb : c.code = cc) (harr : (Cond.arrayClass .int).before args s = true) (hK : va_K D cl [(cA, .int)] s) (hP : va_P D cl ws H) (hD : va_D A ws) (hS : va_S A H0 H locs) (hA : ∀ q, H0.size ≤ q → A q)
    (hn : ¬ n < 0) (hN : n.toNatClampNeg = N) (hbytes : N * componentBytes .int ≤ 536870912) (hc : cells + 1 ≤ R.cells) (hs : slots + N ≤ R.slots) (hdg : decode cc pc = .ok (.newarray .int, 2))
    (kk : ∀ (q : Nat) (H1 : Heap), va_P D cl (ws ++ [(q, .inl (cA, N, .inl (fun _ => 0)))]) H1 → va_D A (ws ++ [(q, .inl (cA, N, .inl (fun _ => 0)))]) → va_S A H0 H1 locs → W p l e R s m args below meth c H1 locs (cells + 1) (slots + N) Q (F0 m (pc + 2) ls (.ref q :: rest))) : W p l e R s m args below meth c H locs cells slots Q (F0 m pc ls (.int n :: rest)) := by
  refine va_newa (atype := .int) (ty := .int) (a0 := (N, .inl (fun _ => 0))) hexec hb harr rfl hK hP hD hS hA (fun _ => rfl) hn hN hbytes hc hs hdg (fun q cA1 H1 hK1 hP1 hD1 hS1 => ?_)
  have e : cA1 = cA := Option.some.inj ((hK1.2 1 _ rfl).2.symm.trans (hK1.2 0 _ rfl).2)
  subst e
  exact kk q H1 hP1 hD1 hS1
theorem gi_cw {own : String} {index maxL n mc ms : Nat} {y : MethodName} {bytes : ByteArray} {rm : Room} (hts : ∀ w ∈ gw_L, w.before args s = true) (q : gw_K y bytes maxL none n) (hl : Cond.methodLink own index y ∈ gw_L) (hv : Cond.instanceMethod y ∈ gw_L) (hn : y.name = "<init>") (hrc : rm.cells = mc) (hrs : rm.slots = ms) (hR : rm.frames + 1 ≤ R.frames ∧ 8 + (maxL + 11) + rm.locals ≤ R.locals) :
    CallB R s args own index y bytes maxL none (.code y bytes maxL none :: gw_L) rm mc ms n ∧ y.name = "<init>" ∧ (Cond.instanceMethod y).before args s = true :=
  ⟨⟨hrc, hrs, hR.1, hR.2, fun w hw a' U hW => (List.mem_cons.mp hw).elim (fun e => by rw [e]; exact gw_all hW hts _ q.1) (fun h => gw_all hW hts _ h), List.mem_cons_self, hts _ q.1, hts _ q.2.1, q.2.2.1, gw_sig q.2.2.2, hts _ hl⟩, hn, hts _ hv⟩
theorem gi_cwN {own host : String} {index maxL n mc ms : Nat} {y : MethodName} {bytes : ByteArray} {rm : Room} (hts : ∀ w ∈ gw_L, w.before args s = true) (q : gw_K y bytes maxL none n) (hl : Cond.methodLinkNest own index y host ∈ gw_L) (hv : Cond.instanceMethod y ∈ gw_L) (hn : y.name = "<init>") (hrc : rm.cells = mc) (hrs : rm.slots = ms) (hR : rm.frames + 1 ≤ R.frames ∧ 8 + (maxL + 11) + rm.locals ≤ R.locals) :
    va_CN R s args own index y host bytes maxL none (.code y bytes maxL none :: gw_L) rm mc ms n ∧ y.name = "<init>" ∧ (Cond.instanceMethod y).before args s = true :=
  ⟨⟨⟨hrc, hrs, hR.1, hR.2, fun w hw a' U hW => (List.mem_cons.mp hw).elim (fun e => by rw [e]; exact gw_all hW hts _ q.1) (fun h => gw_all hW hts _ h), List.mem_cons_self⟩, hts _ q.1, hts _ q.2.1, q.2.2.1, gw_sig q.2.2.2, hts _ hl⟩, hn, hts _ hv⟩
end GIN
theorem gi_int : Cond.arrayClass .int ∈ gw_L := gw_tab 64 (by decide +kernel) (by decide +kernel)
theorem gi_o1 : Cond.instanceMethod objectInit ∈ gw_L := gw_tab 40 (by decide +kernel) (by decide +kernel)
theorem gi_o2 : Cond.code objectInit ⟨#[0xb1]⟩ 1 none ∈ gw_L := gw_tab 41 (by decide +kernel) (by decide +kernel)
theorem gi_dfX0 : ∀ j, j < 7 → defaultValue (tyX0 j) = vp_V [.null, .null, .null, .null, .null, .null, .int 0] j := fun j hj => by rcases (show j = 0 ∨ j = 1 ∨ j = 2 ∨ j = 3 ∨ j = 4 ∨ j = 5 ∨ j = 6 by omega) with rfl | rfl | rfl | rfl | rfl | rfl | rfl <;> rfl
theorem gi_dfX1 : ∀ j, j < 7 → defaultValue (tyX1 j) = vp_V [.int 0, .null, .null, .null, .null, .null, .null] j := fun j hj => by rcases (show j = 0 ∨ j = 1 ∨ j = 2 ∨ j = 3 ∨ j = 4 ∨ j = 5 ∨ j = 6 by omega) with rfl | rfl | rfl | rfl | rfl | rfl | rfl <;> rfl
theorem gi_dfX2 : ∀ j, j < 9 → defaultValue (tyX2 j) = vp_V [.null, .int 0, .int 0, .null, .null, .null, .null, .null, .null] j := fun j hj => by rcases (show j = 0 ∨ j = 1 ∨ j = 2 ∨ j = 3 ∨ j = 4 ∨ j = 5 ∨ j = 6 ∨ j = 7 ∨ j = 8 by omega) with rfl | rfl | rfl | rfl | rfl | rfl | rfl | rfl | rfl <;> rfl
theorem gi_dfX3 : ∀ j, j < 5 → defaultValue (tyX3 j) = vp_V [.int 0, .int 0, .int 0, .null, .null] j := fun j hj => by rcases (show j = 0 ∨ j = 1 ∨ j = 2 ∨ j = 3 ∨ j = 4 by omega) with rfl | rfl | rfl | rfl | rfl <;> rfl
theorem gi_dfX4 : ∀ j, j < 7 → defaultValue (tyX4 j) = vp_V [.null, .null, .null, .null, .null, .null, .int 0] j := fun j hj => by rcases (show j = 0 ∨ j = 1 ∨ j = 2 ∨ j = 3 ∨ j = 4 ∨ j = 5 ∨ j = 6 by omega) with rfl | rfl | rfl | rfl | rfl | rfl | rfl <;> rfl
theorem gi_dfX6 : ∀ j, j < 7 → defaultValue (tyX6 j) = vp_V [.null, .null, .null, .null, .null, .null, .int 0] j := fun j hj => by rcases (show j = 0 ∨ j = 1 ∨ j = 2 ∨ j = 3 ∨ j = 4 ∨ j = 5 ∨ j = 6 by omega) with rfl | rfl | rfl | rfl | rfl | rfl | rfl <;> rfl
theorem gi_dfX7 : ∀ j, j < 5 → defaultValue (tyX7 j) = vp_V [.null, .null, .null, .null, .null] j := fun j hj => by rcases (show j = 0 ∨ j = 1 ∨ j = 2 ∨ j = 3 ∨ j = 4 by omega) with rfl | rfl | rfl | rfl | rfl <;> rfl
theorem gi_dfX8 : ∀ j, j < 7 → defaultValue (tyX8 j) = vp_V [.null, .null, .null, .null, .null, .null, .null] j := fun j hj => by rcases (show j = 0 ∨ j = 1 ∨ j = 2 ∨ j = 3 ∨ j = 4 ∨ j = 5 ∨ j = 6 by omega) with rfl | rfl | rfl | rfl | rfl | rfl | rfl <;> rfl
theorem gv_64 : Cond.arrayClass .int ∈ gw_L := gw_tab 64 (by decide +kernel) (by decide +kernel)
theorem gv_47 : Cond.methodLink RX3 3 objectInit ∈ gw_L := gw_tab 47 (by decide +kernel) (by decide +kernel)
theorem gv_70 : Cond.methodLink RX2 3 objectInit ∈ gw_L := gw_tab 70 (by decide +kernel) (by decide +kernel)
theorem gv_104 : Cond.methodLink RX1 3 objectInit ∈ gw_L := gw_tab 104 (by decide +kernel) (by decide +kernel)
theorem gv_135 : Cond.methodLink RX5 3 objectInit ∈ gw_L := gw_tab 135 (by decide +kernel) (by decide +kernel)
theorem gv_134 : Cond.code yX5_init cX5_init 4 none ∈ gw_L := gw_tab 134 (by decide +kernel) (by decide +kernel)
theorem gk_X5_init : gw_K yX5_init cX5_init 4 none 3 := ⟨gv_134, gv_5, by decide +kernel, by decide +kernel⟩
theorem gv_172 : Cond.methodLink RX6 1 yX5_init ∈ gw_L := gw_tab 172 (by decide +kernel) (by decide +kernel)
theorem gv_133 : Cond.instanceMethod yX5_init ∈ gw_L := gw_tab 133 (by decide +kernel) (by decide +kernel)
theorem gv_132 : Cond.methodLink RX4 1 yX5_init ∈ gw_L := gw_tab 132 (by decide +kernel) (by decide +kernel)
theorem gv_171 : Cond.code yX6_init cX6_init 4 none ∈ gw_L := gw_tab 171 (by decide +kernel) (by decide +kernel)
theorem gk_X6_init : gw_K yX6_init cX6_init 4 none 3 := ⟨gv_171, gv_7, by decide +kernel, by decide +kernel⟩
theorem gv_169 : Cond.methodLink RX0 1 yX6_init ∈ gw_L := gw_tab 169 (by decide +kernel) (by decide +kernel)
theorem gv_170 : Cond.instanceMethod yX6_init ∈ gw_L := gw_tab 170 (by decide +kernel) (by decide +kernel)
theorem gv_197 : Cond.methodLink RX7 3 objectInit ∈ gw_L := gw_tab 197 (by decide +kernel) (by decide +kernel)
theorem gv_39 : Cond.methodLink RX8 1 objectInit ∈ gw_L := gw_tab 39 (by decide +kernel) (by decide +kernel)
theorem gv_42 : Cond.classLink RX8 7 RX3 ∈ gw_L := gw_tab 42 (by decide +kernel) (by decide +kernel)
theorem gv_43 : Cond.instantiable RX3 5 ∈ gw_L := gw_tab 43 (by decide +kernel) (by decide +kernel)
theorem gv_46 : Cond.code yX3_init cX3_init 1 none ∈ gw_L := gw_tab 46 (by decide +kernel) (by decide +kernel)
theorem gk_X3_init : gw_K yX3_init cX3_init 1 none 0 := ⟨gv_46, gv_2, by decide +kernel, by decide +kernel⟩
theorem gv_44 : Cond.methodLinkNest RX8 9 yX3_init "Genericwood" ∈ gw_L := gw_tab 44 (by decide +kernel) (by decide +kernel)
theorem gv_45 : Cond.instanceMethod yX3_init ∈ gw_L := gw_tab 45 (by decide +kernel) (by decide +kernel)
theorem gv_65 : Cond.classLink RX8 10 RX2 ∈ gw_L := gw_tab 65 (by decide +kernel) (by decide +kernel)
theorem gv_66 : Cond.instantiable RX2 9 ∈ gw_L := gw_tab 66 (by decide +kernel) (by decide +kernel)
theorem gv_69 : Cond.code yX2_init cX2_init 2 none ∈ gw_L := gw_tab 69 (by decide +kernel) (by decide +kernel)
theorem gk_X2_init : gw_K yX2_init cX2_init 2 none 1 := ⟨gv_69, gv_3, by decide +kernel, by decide +kernel⟩
theorem gv_67 : Cond.methodLink RX8 12 yX2_init ∈ gw_L := gw_tab 67 (by decide +kernel) (by decide +kernel)
theorem gv_68 : Cond.instanceMethod yX2_init ∈ gw_L := gw_tab 68 (by decide +kernel) (by decide +kernel)
theorem gv_99 : Cond.classLink RX8 15 RX1 ∈ gw_L := gw_tab 99 (by decide +kernel) (by decide +kernel)
theorem gv_100 : Cond.instantiable RX1 7 ∈ gw_L := gw_tab 100 (by decide +kernel) (by decide +kernel)
theorem gv_103 : Cond.code yX1_init cX1_init 1 none ∈ gw_L := gw_tab 103 (by decide +kernel) (by decide +kernel)
theorem gk_X1_init : gw_K yX1_init cX1_init 1 none 0 := ⟨gv_103, gv_4, by decide +kernel, by decide +kernel⟩
theorem gv_101 : Cond.methodLinkNest RX8 17 yX1_init "Genericwood" ∈ gw_L := gw_tab 101 (by decide +kernel) (by decide +kernel)
theorem gv_102 : Cond.instanceMethod yX1_init ∈ gw_L := gw_tab 102 (by decide +kernel) (by decide +kernel)
theorem gv_127 : Cond.classLink RX8 32 RX4 ∈ gw_L := gw_tab 127 (by decide +kernel) (by decide +kernel)
theorem gv_128 : Cond.instantiable RX4 7 ∈ gw_L := gw_tab 128 (by decide +kernel) (by decide +kernel)
theorem gv_131 : Cond.code yX4_init cX4_init 4 none ∈ gw_L := gw_tab 131 (by decide +kernel) (by decide +kernel)
theorem gk_X4_init : gw_K yX4_init cX4_init 4 none 3 := ⟨gv_131, gv_6, by decide +kernel, by decide +kernel⟩
theorem gv_129 : Cond.methodLink RX8 34 yX4_init ∈ gw_L := gw_tab 129 (by decide +kernel) (by decide +kernel)
theorem gv_130 : Cond.instanceMethod yX4_init ∈ gw_L := gw_tab 130 (by decide +kernel) (by decide +kernel)
theorem gv_164 : Cond.classLink RX8 41 RX0 ∈ gw_L := gw_tab 164 (by decide +kernel) (by decide +kernel)
theorem gv_165 : Cond.instantiable RX0 7 ∈ gw_L := gw_tab 165 (by decide +kernel) (by decide +kernel)
theorem gv_168 : Cond.code yX0_init cX0_init 4 none ∈ gw_L := gw_tab 168 (by decide +kernel) (by decide +kernel)
theorem gk_X0_init : gw_K yX0_init cX0_init 4 none 3 := ⟨gv_168, gv_8, by decide +kernel, by decide +kernel⟩
theorem gv_166 : Cond.methodLink RX8 43 yX0_init ∈ gw_L := gw_tab 166 (by decide +kernel) (by decide +kernel)
theorem gv_167 : Cond.instanceMethod yX0_init ∈ gw_L := gw_tab 167 (by decide +kernel) (by decide +kernel)
theorem gv_181 : Cond.classLink RX8 47 RX6 ∈ gw_L := gw_tab 181 (by decide +kernel) (by decide +kernel)
theorem gv_182 : Cond.instantiable RX6 7 ∈ gw_L := gw_tab 182 (by decide +kernel) (by decide +kernel)
theorem gv_183 : Cond.methodLink RX8 49 yX6_init ∈ gw_L := gw_tab 183 (by decide +kernel) (by decide +kernel)
theorem gv_192 : Cond.classLink RX8 53 RX7 ∈ gw_L := gw_tab 192 (by decide +kernel) (by decide +kernel)
theorem gv_193 : Cond.instantiable RX7 5 ∈ gw_L := gw_tab 193 (by decide +kernel) (by decide +kernel)
theorem gv_196 : Cond.code yX7_init cX7_init 4 none ∈ gw_L := gw_tab 196 (by decide +kernel) (by decide +kernel)
theorem gk_X7_init : gw_K yX7_init cX7_init 4 none 3 := ⟨gv_196, gv_9, by decide +kernel, by decide +kernel⟩
theorem gv_194 : Cond.methodLink RX8 55 yX7_init ∈ gw_L := gw_tab 194 (by decide +kernel) (by decide +kernel)
theorem gv_195 : Cond.instanceMethod yX7_init ∈ gw_L := gw_tab 195 (by decide +kernel) (by decide +kernel)
set_option maxHeartbeats 4000000 in
set_option maxRecDepth 100000 in
theorem gi_X3_init (l : Launch) (D : va_G) (cA : ClassId) (h0 : Nat) (sz : Nat) : Met l yX3_init (.code yX3_init cX3_init 1 none :: gw_L) { frames := 1, cells := 2, slots := 14, locals := 13 } (va_Pc [.ref h0] (gi_Pre D cA sz [(h0, .inr (6, [.int 0, .int 0, .int 0, .null, .null]))])) (va_Qv (fun (_ : Unit) => True) (fun _ t => ∃ q7 q15 : Nat, va_P D vwCl [(h0, .inr (6, [.int 0, .int 0, .int 0, .ref q7, .ref q15])), (q7, .inl (cA, 7, .inl (fun _ => 0))), (q15, .inl (cA, 7, .inl (fun _ => 0)))] t.heap ∧ va_D (va_A [(h0, .inr (6, [.int 0, .int 0, .int 0, .null, .null]))] sz) [(h0, .inr (6, [.int 0, .int 0, .int 0, .ref q7, .ref q15])), (q7, .inl (cA, 7, .inl (fun _ => 0))), (q15, .inl (cA, 7, .inl (fun _ => 0)))]) (va_A [(h0, .inr (6, [.int 0, .int 0, .int 0, .null, .null]))] sz)) 2 14 (va_A [(h0, .inr (6, [.int 0, .int 0, .int 0, .null, .null]))] sz) := by
  refine Met.ofW (cc := cX3_init) (maxL := 1) (ret := none) (by decide +kernel) rfl ?_
  intro p e s m args below meth c s₁ B hml hv
  obtain ⟨rfl, hsz, hP, hK, hD0⟩ := hv
  have hx := B.exec
  have hb := B.bytes
  have hr := B.returns
  have hts0 := atoms_spec (ws := .code yX3_init cX3_init 1 none :: gw_L) B.pre
  have hts : ∀ w ∈ gw_L, w.before _ s = true := fun w hw => hts0 w (List.mem_cons_of_mem _ hw)
  have hown : s.vm.findClass RX3 = some m.cls := findClass_of_methodNamed B.named
  have hlocks := B.notSynchronized
  have hin : meth.name = "<init>" := (name_of_methodNamed B.named B.method).1
  subst hsz
  have hD := hD0.self (sz := s.heap.size)
  generalize hAe : va_A [(h0, .inr (6, [.int 0, .int 0, .int 0, .null, .null]))] s.heap.size = A at hD ⊢
  have hA : ∀ q : Nat, s.heap.size ≤ q → A q := fun q h => by rw [← hAe]; exact Or.inr h
  have hS : va_S A s.heap s.heap [] := va_S.rf
  have hP : va_P D vwCl [(h0, .inr (6, [.int 0, .int 0, .int 0, .null, .null]))] s.heap := hP
  have hl := lv_entry ([.ref h0]) (n := 1) (Nat.le_of_ble_eq_true rfl)
  rw [lg_entry_eq]
  generalize (lg_sl ([.ref h0]) ++ List.replicate (1 - (lg_sl ([.ref h0])).length) Slot.unset).toArray = ls at hl ⊢
  have hl : lv_has ls 1 [(0, .ref h0)] := hl
  refine lv_aload_n hx hb dX3_init_0 rfl (lv_at hl 0 rfl) ?_
  refine W.objInit hx hb hown (hts _ gv_47) (hts _ gi_o1) (hts _ gi_o2) rfl (by rw [hml]; exact hl.1) rfl dX3_init_1 (Nat.le_of_ble_eq_true rfl) (Nat.le_of_ble_eq_true rfl) ?_
  refine W.eq (g2 := F0 m 4 ls []) rfl ?_
  refine lv_aload_n hx hb dX3_init_4 rfl (lv_at hl 0 rfl) ?_
  refine lv_bipush (v := 7) hx hb dX3_init_5 (by decide) ?_
  refine gi_new (N := 7) hx hb (hts _ gi_int) hK hP hD hS hA (by decide) (by decide) (Nat.le_of_ble_eq_true rfl) (Nat.le_of_ble_eq_true rfl) (Nat.le_of_ble_eq_true rfl) dX3_init_7 (fun q7 H hP hD hS => ?_)
  have hP : va_P D vwCl [(h0, .inr (6, [.int 0, .int 0, .int 0, .null, .null])), (q7, .inl (cA, 7, .inl (fun _ => 0)))] H := hP
  have hD : va_D A [(h0, .inr (6, [.int 0, .int 0, .int 0, .null, .null])), (q7, .inl (cA, 7, .inl (fun _ => 0)))] := hD
  refine W.widen (k := 1) (n := 7) (Nat.le_of_ble_eq_true rfl) (Nat.le_of_ble_eq_true rfl) ?_
  refine va_putF (D := D) (ci := 6) (v := .ref q7) (ty := .array .int) (C := RX3) (T := TX3) (N := 5) hx hb hts gx_X3 tyX3 tyX3_ok nmX3 hown hK hP hD hS 0 rfl rfl 3 (by decide) (hts _ gv_51) (fun _ h9 => h9) rfl hin rfl (by decide +kernel) rfl rfl (Nat.le_of_ble_eq_true rfl) dX3_init_9 (fun H locs hP hD hS => ?_)
  have hP : va_P D vwCl [(h0, .inr (6, [.int 0, .int 0, .int 0, .ref q7, .null])), (q7, .inl (cA, 7, .inl (fun _ => 0)))] H := hP
  have hD : va_D A [(h0, .inr (6, [.int 0, .int 0, .int 0, .ref q7, .null])), (q7, .inl (cA, 7, .inl (fun _ => 0)))] := hD
  refine lv_aload_n hx hb dX3_init_12 rfl (lv_at hl 0 rfl) ?_
  refine lv_bipush (v := 7) hx hb dX3_init_13 (by decide) ?_
  refine gi_new (N := 7) hx hb (hts _ gi_int) hK hP hD hS hA (by decide) (by decide) (Nat.le_of_ble_eq_true rfl) (Nat.le_of_ble_eq_true rfl) (Nat.le_of_ble_eq_true rfl) dX3_init_15 (fun q15 H hP hD hS => ?_)
  have hP : va_P D vwCl [(h0, .inr (6, [.int 0, .int 0, .int 0, .ref q7, .null])), (q7, .inl (cA, 7, .inl (fun _ => 0))), (q15, .inl (cA, 7, .inl (fun _ => 0)))] H := hP
  have hD : va_D A [(h0, .inr (6, [.int 0, .int 0, .int 0, .ref q7, .null])), (q7, .inl (cA, 7, .inl (fun _ => 0))), (q15, .inl (cA, 7, .inl (fun _ => 0)))] := hD
  refine W.widen (k := 2) (n := 14) (Nat.le_of_ble_eq_true rfl) (Nat.le_of_ble_eq_true rfl) ?_
  refine va_putF (D := D) (ci := 6) (v := .ref q15) (ty := .array .int) (C := RX3) (T := TX3) (N := 5) hx hb hts gx_X3 tyX3 tyX3_ok nmX3 hown hK hP hD hS 0 rfl rfl 4 (by decide) (hts _ gv_52) (fun _ h9 => h9) rfl hin rfl (by decide +kernel) rfl rfl (Nat.le_of_ble_eq_true rfl) dX3_init_17 (fun H locs hP hD hS => ?_)
  have hP : va_P D vwCl [(h0, .inr (6, [.int 0, .int 0, .int 0, .ref q7, .ref q15])), (q7, .inl (cA, 7, .inl (fun _ => 0))), (q15, .inl (cA, 7, .inl (fun _ => 0)))] H := hP
  have hD : va_D A [(h0, .inr (6, [.int 0, .int 0, .int 0, .ref q7, .ref q15])), (q7, .inl (cA, 7, .inl (fun _ => 0))), (q15, .inl (cA, 7, .inl (fun _ => 0)))] := hD
  exact W.vret hx hb hr (fun t ht hW => ⟨⟨(), rfl, trivial, q7, q15, by rw [ht]; exact hP, hD⟩, hS.F ht⟩) hS.2.2 dX3_init_20
set_option maxHeartbeats 4000000 in
set_option maxRecDepth 100000 in
theorem gi_X2_init (l : Launch) (D : va_G) (cA : ClassId) (h0 h1 : Nat) (sz : Nat) : Met l yX2_init (.code yX2_init cX2_init 2 none :: gw_L) { frames := 1, cells := 6, slots := 104, locals := 13 } (va_Pc [.ref h0, .ref h1] (gi_Pre D cA sz [(h0, .inr (5, [.null, .int 0, .int 0, .null, .null, .null, .null, .null, .null]))])) (va_Qv (fun (_ : Unit) => True) (fun _ t => ∃ q7 q15 q23 q31 q38 q46 : Nat, va_P D vwCl [(h0, .inr (5, [.ref h1, .int 0, .int 0, .ref q7, .ref q15, .ref q23, .ref q31, .ref q38, .ref q46])), (q7, .inl (cA, 12, .inl (fun _ => 0))), (q15, .inl (cA, 48, .inl (fun _ => 0))), (q23, .inl (cA, 12, .inl (fun _ => 0))), (q31, .inl (cA, 12, .inl (fun _ => 0))), (q38, .inl (cA, 4, .inl (fun _ => 0))), (q46, .inl (cA, 16, .inl (fun _ => 0)))] t.heap ∧ va_D (va_A [(h0, .inr (5, [.null, .int 0, .int 0, .null, .null, .null, .null, .null, .null]))] sz) [(h0, .inr (5, [.ref h1, .int 0, .int 0, .ref q7, .ref q15, .ref q23, .ref q31, .ref q38, .ref q46])), (q7, .inl (cA, 12, .inl (fun _ => 0))), (q15, .inl (cA, 48, .inl (fun _ => 0))), (q23, .inl (cA, 12, .inl (fun _ => 0))), (q31, .inl (cA, 12, .inl (fun _ => 0))), (q38, .inl (cA, 4, .inl (fun _ => 0))), (q46, .inl (cA, 16, .inl (fun _ => 0)))]) (va_A [(h0, .inr (5, [.null, .int 0, .int 0, .null, .null, .null, .null, .null, .null]))] sz)) 6 104 (va_A [(h0, .inr (5, [.null, .int 0, .int 0, .null, .null, .null, .null, .null, .null]))] sz) := by
  refine Met.ofW (cc := cX2_init) (maxL := 2) (ret := none) (by decide +kernel) rfl ?_
  intro p e s m args below meth c s₁ B hml hv
  obtain ⟨rfl, hsz, hP, hK, hD0⟩ := hv
  have hx := B.exec
  have hb := B.bytes
  have hr := B.returns
  have hts0 := atoms_spec (ws := .code yX2_init cX2_init 2 none :: gw_L) B.pre
  have hts : ∀ w ∈ gw_L, w.before _ s = true := fun w hw => hts0 w (List.mem_cons_of_mem _ hw)
  have hown : s.vm.findClass RX2 = some m.cls := findClass_of_methodNamed B.named
  have hlocks := B.notSynchronized
  have hin : meth.name = "<init>" := (name_of_methodNamed B.named B.method).1
  subst hsz
  have hD := hD0.self (sz := s.heap.size)
  generalize hAe : va_A [(h0, .inr (5, [.null, .int 0, .int 0, .null, .null, .null, .null, .null, .null]))] s.heap.size = A at hD ⊢
  have hA : ∀ q : Nat, s.heap.size ≤ q → A q := fun q h => by rw [← hAe]; exact Or.inr h
  have hS : va_S A s.heap s.heap [] := va_S.rf
  have hP : va_P D vwCl [(h0, .inr (5, [.null, .int 0, .int 0, .null, .null, .null, .null, .null, .null]))] s.heap := hP
  have hl := lv_entry ([.ref h0, .ref h1]) (n := 2) (Nat.le_of_ble_eq_true rfl)
  rw [lg_entry_eq]
  generalize (lg_sl ([.ref h0, .ref h1]) ++ List.replicate (2 - (lg_sl ([.ref h0, .ref h1])).length) Slot.unset).toArray = ls at hl ⊢
  have hl : lv_has ls 2 [(0, .ref h0), (1, .ref h1)] := hl
  refine lv_aload_n hx hb dX2_init_0 rfl (lv_at hl 0 rfl) ?_
  refine W.objInit hx hb hown (hts _ gv_70) (hts _ gi_o1) (hts _ gi_o2) rfl (by rw [hml]; exact hl.1) rfl dX2_init_1 (Nat.le_of_ble_eq_true rfl) (Nat.le_of_ble_eq_true rfl) ?_
  refine W.eq (g2 := F0 m 4 ls []) rfl ?_
  refine lv_aload_n hx hb dX2_init_4 rfl (lv_at hl 0 rfl) ?_
  refine lv_bipush (v := 12) hx hb dX2_init_5 (by decide) ?_
  refine gi_new (N := 12) hx hb (hts _ gi_int) hK hP hD hS hA (by decide) (by decide) (Nat.le_of_ble_eq_true rfl) (Nat.le_of_ble_eq_true rfl) (Nat.le_of_ble_eq_true rfl) dX2_init_7 (fun q7 H hP hD hS => ?_)
  have hP : va_P D vwCl [(h0, .inr (5, [.null, .int 0, .int 0, .null, .null, .null, .null, .null, .null])), (q7, .inl (cA, 12, .inl (fun _ => 0)))] H := hP
  have hD : va_D A [(h0, .inr (5, [.null, .int 0, .int 0, .null, .null, .null, .null, .null, .null])), (q7, .inl (cA, 12, .inl (fun _ => 0)))] := hD
  refine W.widen (k := 1) (n := 12) (Nat.le_of_ble_eq_true rfl) (Nat.le_of_ble_eq_true rfl) ?_
  refine va_putF (D := D) (ci := 5) (v := .ref q7) (ty := .array .int) (C := RX2) (T := TX2) (N := 9) hx hb hts gx_X2 tyX2 tyX2_ok nmX2 hown hK hP hD hS 0 rfl rfl 3 (by decide) (hts _ gv_74) (fun _ h9 => h9) rfl hin rfl (by decide +kernel) rfl rfl (Nat.le_of_ble_eq_true rfl) dX2_init_9 (fun H locs hP hD hS => ?_)
  have hP : va_P D vwCl [(h0, .inr (5, [.null, .int 0, .int 0, .ref q7, .null, .null, .null, .null, .null])), (q7, .inl (cA, 12, .inl (fun _ => 0)))] H := hP
  have hD : va_D A [(h0, .inr (5, [.null, .int 0, .int 0, .ref q7, .null, .null, .null, .null, .null])), (q7, .inl (cA, 12, .inl (fun _ => 0)))] := hD
  refine lv_aload_n hx hb dX2_init_12 rfl (lv_at hl 0 rfl) ?_
  refine lv_bipush (v := 48) hx hb dX2_init_13 (by decide) ?_
  refine gi_new (N := 48) hx hb (hts _ gi_int) hK hP hD hS hA (by decide) (by decide) (Nat.le_of_ble_eq_true rfl) (Nat.le_of_ble_eq_true rfl) (Nat.le_of_ble_eq_true rfl) dX2_init_15 (fun q15 H hP hD hS => ?_)
  have hP : va_P D vwCl [(h0, .inr (5, [.null, .int 0, .int 0, .ref q7, .null, .null, .null, .null, .null])), (q7, .inl (cA, 12, .inl (fun _ => 0))), (q15, .inl (cA, 48, .inl (fun _ => 0)))] H := hP
  have hD : va_D A [(h0, .inr (5, [.null, .int 0, .int 0, .ref q7, .null, .null, .null, .null, .null])), (q7, .inl (cA, 12, .inl (fun _ => 0))), (q15, .inl (cA, 48, .inl (fun _ => 0)))] := hD
  refine W.widen (k := 2) (n := 60) (Nat.le_of_ble_eq_true rfl) (Nat.le_of_ble_eq_true rfl) ?_
  refine va_putF (D := D) (ci := 5) (v := .ref q15) (ty := .array .int) (C := RX2) (T := TX2) (N := 9) hx hb hts gx_X2 tyX2 tyX2_ok nmX2 hown hK hP hD hS 0 rfl rfl 4 (by decide) (hts _ gv_75) (fun _ h9 => h9) rfl hin rfl (by decide +kernel) rfl rfl (Nat.le_of_ble_eq_true rfl) dX2_init_17 (fun H locs hP hD hS => ?_)
  have hP : va_P D vwCl [(h0, .inr (5, [.null, .int 0, .int 0, .ref q7, .ref q15, .null, .null, .null, .null])), (q7, .inl (cA, 12, .inl (fun _ => 0))), (q15, .inl (cA, 48, .inl (fun _ => 0)))] H := hP
  have hD : va_D A [(h0, .inr (5, [.null, .int 0, .int 0, .ref q7, .ref q15, .null, .null, .null, .null])), (q7, .inl (cA, 12, .inl (fun _ => 0))), (q15, .inl (cA, 48, .inl (fun _ => 0)))] := hD
  refine lv_aload_n hx hb dX2_init_20 rfl (lv_at hl 0 rfl) ?_
  refine lv_bipush (v := 12) hx hb dX2_init_21 (by decide) ?_
  refine gi_new (N := 12) hx hb (hts _ gi_int) hK hP hD hS hA (by decide) (by decide) (Nat.le_of_ble_eq_true rfl) (Nat.le_of_ble_eq_true rfl) (Nat.le_of_ble_eq_true rfl) dX2_init_23 (fun q23 H hP hD hS => ?_)
  have hP : va_P D vwCl [(h0, .inr (5, [.null, .int 0, .int 0, .ref q7, .ref q15, .null, .null, .null, .null])), (q7, .inl (cA, 12, .inl (fun _ => 0))), (q15, .inl (cA, 48, .inl (fun _ => 0))), (q23, .inl (cA, 12, .inl (fun _ => 0)))] H := hP
  have hD : va_D A [(h0, .inr (5, [.null, .int 0, .int 0, .ref q7, .ref q15, .null, .null, .null, .null])), (q7, .inl (cA, 12, .inl (fun _ => 0))), (q15, .inl (cA, 48, .inl (fun _ => 0))), (q23, .inl (cA, 12, .inl (fun _ => 0)))] := hD
  refine W.widen (k := 3) (n := 72) (Nat.le_of_ble_eq_true rfl) (Nat.le_of_ble_eq_true rfl) ?_
  refine va_putF (D := D) (ci := 5) (v := .ref q23) (ty := .array .int) (C := RX2) (T := TX2) (N := 9) hx hb hts gx_X2 tyX2 tyX2_ok nmX2 hown hK hP hD hS 0 rfl rfl 5 (by decide) (hts _ gv_76) (fun _ h9 => h9) rfl hin rfl (by decide +kernel) rfl rfl (Nat.le_of_ble_eq_true rfl) dX2_init_25 (fun H locs hP hD hS => ?_)
  have hP : va_P D vwCl [(h0, .inr (5, [.null, .int 0, .int 0, .ref q7, .ref q15, .ref q23, .null, .null, .null])), (q7, .inl (cA, 12, .inl (fun _ => 0))), (q15, .inl (cA, 48, .inl (fun _ => 0))), (q23, .inl (cA, 12, .inl (fun _ => 0)))] H := hP
  have hD : va_D A [(h0, .inr (5, [.null, .int 0, .int 0, .ref q7, .ref q15, .ref q23, .null, .null, .null])), (q7, .inl (cA, 12, .inl (fun _ => 0))), (q15, .inl (cA, 48, .inl (fun _ => 0))), (q23, .inl (cA, 12, .inl (fun _ => 0)))] := hD
  refine lv_aload_n hx hb dX2_init_28 rfl (lv_at hl 0 rfl) ?_
  refine lv_bipush (v := 12) hx hb dX2_init_29 (by decide) ?_
  refine gi_new (N := 12) hx hb (hts _ gi_int) hK hP hD hS hA (by decide) (by decide) (Nat.le_of_ble_eq_true rfl) (Nat.le_of_ble_eq_true rfl) (Nat.le_of_ble_eq_true rfl) dX2_init_31 (fun q31 H hP hD hS => ?_)
  have hP : va_P D vwCl [(h0, .inr (5, [.null, .int 0, .int 0, .ref q7, .ref q15, .ref q23, .null, .null, .null])), (q7, .inl (cA, 12, .inl (fun _ => 0))), (q15, .inl (cA, 48, .inl (fun _ => 0))), (q23, .inl (cA, 12, .inl (fun _ => 0))), (q31, .inl (cA, 12, .inl (fun _ => 0)))] H := hP
  have hD : va_D A [(h0, .inr (5, [.null, .int 0, .int 0, .ref q7, .ref q15, .ref q23, .null, .null, .null])), (q7, .inl (cA, 12, .inl (fun _ => 0))), (q15, .inl (cA, 48, .inl (fun _ => 0))), (q23, .inl (cA, 12, .inl (fun _ => 0))), (q31, .inl (cA, 12, .inl (fun _ => 0)))] := hD
  refine W.widen (k := 4) (n := 84) (Nat.le_of_ble_eq_true rfl) (Nat.le_of_ble_eq_true rfl) ?_
  refine va_putF (D := D) (ci := 5) (v := .ref q31) (ty := .array .int) (C := RX2) (T := TX2) (N := 9) hx hb hts gx_X2 tyX2 tyX2_ok nmX2 hown hK hP hD hS 0 rfl rfl 6 (by decide) (hts _ gv_77) (fun _ h9 => h9) rfl hin rfl (by decide +kernel) rfl rfl (Nat.le_of_ble_eq_true rfl) dX2_init_33 (fun H locs hP hD hS => ?_)
  have hP : va_P D vwCl [(h0, .inr (5, [.null, .int 0, .int 0, .ref q7, .ref q15, .ref q23, .ref q31, .null, .null])), (q7, .inl (cA, 12, .inl (fun _ => 0))), (q15, .inl (cA, 48, .inl (fun _ => 0))), (q23, .inl (cA, 12, .inl (fun _ => 0))), (q31, .inl (cA, 12, .inl (fun _ => 0)))] H := hP
  have hD : va_D A [(h0, .inr (5, [.null, .int 0, .int 0, .ref q7, .ref q15, .ref q23, .ref q31, .null, .null])), (q7, .inl (cA, 12, .inl (fun _ => 0))), (q15, .inl (cA, 48, .inl (fun _ => 0))), (q23, .inl (cA, 12, .inl (fun _ => 0))), (q31, .inl (cA, 12, .inl (fun _ => 0)))] := hD
  refine lv_aload_n hx hb dX2_init_36 rfl (lv_at hl 0 rfl) ?_
  refine lv_iconst (v := 4) hx hb dX2_init_37 (by decide) ?_
  refine gi_new (N := 4) hx hb (hts _ gi_int) hK hP hD hS hA (by decide) (by decide) (Nat.le_of_ble_eq_true rfl) (Nat.le_of_ble_eq_true rfl) (Nat.le_of_ble_eq_true rfl) dX2_init_38 (fun q38 H hP hD hS => ?_)
  have hP : va_P D vwCl [(h0, .inr (5, [.null, .int 0, .int 0, .ref q7, .ref q15, .ref q23, .ref q31, .null, .null])), (q7, .inl (cA, 12, .inl (fun _ => 0))), (q15, .inl (cA, 48, .inl (fun _ => 0))), (q23, .inl (cA, 12, .inl (fun _ => 0))), (q31, .inl (cA, 12, .inl (fun _ => 0))), (q38, .inl (cA, 4, .inl (fun _ => 0)))] H := hP
  have hD : va_D A [(h0, .inr (5, [.null, .int 0, .int 0, .ref q7, .ref q15, .ref q23, .ref q31, .null, .null])), (q7, .inl (cA, 12, .inl (fun _ => 0))), (q15, .inl (cA, 48, .inl (fun _ => 0))), (q23, .inl (cA, 12, .inl (fun _ => 0))), (q31, .inl (cA, 12, .inl (fun _ => 0))), (q38, .inl (cA, 4, .inl (fun _ => 0)))] := hD
  refine W.widen (k := 5) (n := 88) (Nat.le_of_ble_eq_true rfl) (Nat.le_of_ble_eq_true rfl) ?_
  refine va_putF (D := D) (ci := 5) (v := .ref q38) (ty := .array .int) (C := RX2) (T := TX2) (N := 9) hx hb hts gx_X2 tyX2 tyX2_ok nmX2 hown hK hP hD hS 0 rfl rfl 7 (by decide) (hts _ gv_78) (fun _ h9 => h9) rfl hin rfl (by decide +kernel) rfl rfl (Nat.le_of_ble_eq_true rfl) dX2_init_40 (fun H locs hP hD hS => ?_)
  have hP : va_P D vwCl [(h0, .inr (5, [.null, .int 0, .int 0, .ref q7, .ref q15, .ref q23, .ref q31, .ref q38, .null])), (q7, .inl (cA, 12, .inl (fun _ => 0))), (q15, .inl (cA, 48, .inl (fun _ => 0))), (q23, .inl (cA, 12, .inl (fun _ => 0))), (q31, .inl (cA, 12, .inl (fun _ => 0))), (q38, .inl (cA, 4, .inl (fun _ => 0)))] H := hP
  have hD : va_D A [(h0, .inr (5, [.null, .int 0, .int 0, .ref q7, .ref q15, .ref q23, .ref q31, .ref q38, .null])), (q7, .inl (cA, 12, .inl (fun _ => 0))), (q15, .inl (cA, 48, .inl (fun _ => 0))), (q23, .inl (cA, 12, .inl (fun _ => 0))), (q31, .inl (cA, 12, .inl (fun _ => 0))), (q38, .inl (cA, 4, .inl (fun _ => 0)))] := hD
  refine lv_aload_n hx hb dX2_init_43 rfl (lv_at hl 0 rfl) ?_
  refine lv_bipush (v := 16) hx hb dX2_init_44 (by decide) ?_
  refine gi_new (N := 16) hx hb (hts _ gi_int) hK hP hD hS hA (by decide) (by decide) (Nat.le_of_ble_eq_true rfl) (Nat.le_of_ble_eq_true rfl) (Nat.le_of_ble_eq_true rfl) dX2_init_46 (fun q46 H hP hD hS => ?_)
  have hP : va_P D vwCl [(h0, .inr (5, [.null, .int 0, .int 0, .ref q7, .ref q15, .ref q23, .ref q31, .ref q38, .null])), (q7, .inl (cA, 12, .inl (fun _ => 0))), (q15, .inl (cA, 48, .inl (fun _ => 0))), (q23, .inl (cA, 12, .inl (fun _ => 0))), (q31, .inl (cA, 12, .inl (fun _ => 0))), (q38, .inl (cA, 4, .inl (fun _ => 0))), (q46, .inl (cA, 16, .inl (fun _ => 0)))] H := hP
  have hD : va_D A [(h0, .inr (5, [.null, .int 0, .int 0, .ref q7, .ref q15, .ref q23, .ref q31, .ref q38, .null])), (q7, .inl (cA, 12, .inl (fun _ => 0))), (q15, .inl (cA, 48, .inl (fun _ => 0))), (q23, .inl (cA, 12, .inl (fun _ => 0))), (q31, .inl (cA, 12, .inl (fun _ => 0))), (q38, .inl (cA, 4, .inl (fun _ => 0))), (q46, .inl (cA, 16, .inl (fun _ => 0)))] := hD
  refine W.widen (k := 6) (n := 104) (Nat.le_of_ble_eq_true rfl) (Nat.le_of_ble_eq_true rfl) ?_
  refine va_putF (D := D) (ci := 5) (v := .ref q46) (ty := .array .int) (C := RX2) (T := TX2) (N := 9) hx hb hts gx_X2 tyX2 tyX2_ok nmX2 hown hK hP hD hS 0 rfl rfl 8 (by decide) (hts _ gv_79) (fun _ h9 => h9) rfl hin rfl (by decide +kernel) rfl rfl (Nat.le_of_ble_eq_true rfl) dX2_init_48 (fun H locs hP hD hS => ?_)
  have hP : va_P D vwCl [(h0, .inr (5, [.null, .int 0, .int 0, .ref q7, .ref q15, .ref q23, .ref q31, .ref q38, .ref q46])), (q7, .inl (cA, 12, .inl (fun _ => 0))), (q15, .inl (cA, 48, .inl (fun _ => 0))), (q23, .inl (cA, 12, .inl (fun _ => 0))), (q31, .inl (cA, 12, .inl (fun _ => 0))), (q38, .inl (cA, 4, .inl (fun _ => 0))), (q46, .inl (cA, 16, .inl (fun _ => 0)))] H := hP
  have hD : va_D A [(h0, .inr (5, [.null, .int 0, .int 0, .ref q7, .ref q15, .ref q23, .ref q31, .ref q38, .ref q46])), (q7, .inl (cA, 12, .inl (fun _ => 0))), (q15, .inl (cA, 48, .inl (fun _ => 0))), (q23, .inl (cA, 12, .inl (fun _ => 0))), (q31, .inl (cA, 12, .inl (fun _ => 0))), (q38, .inl (cA, 4, .inl (fun _ => 0))), (q46, .inl (cA, 16, .inl (fun _ => 0)))] := hD
  refine lv_aload_n hx hb dX2_init_51 rfl (lv_at hl 0 rfl) ?_
  refine lv_aload_n hx hb dX2_init_52 rfl (lv_at hl 1 rfl) ?_
  refine va_putF (D := D) (ci := 5) (v := .ref h1) (ty := .object "Genericwood$Order") (C := RX2) (T := TX2) (N := 9) hx hb hts gx_X2 tyX2 tyX2_ok nmX2 hown hK hP hD hS 0 rfl rfl 0 (by decide) (hts _ gv_71) (fun _ h9 => h9) rfl hin rfl (by decide +kernel) rfl rfl (Nat.le_of_ble_eq_true rfl) dX2_init_53 (fun H locs hP hD hS => ?_)
  have hP : va_P D vwCl [(h0, .inr (5, [.ref h1, .int 0, .int 0, .ref q7, .ref q15, .ref q23, .ref q31, .ref q38, .ref q46])), (q7, .inl (cA, 12, .inl (fun _ => 0))), (q15, .inl (cA, 48, .inl (fun _ => 0))), (q23, .inl (cA, 12, .inl (fun _ => 0))), (q31, .inl (cA, 12, .inl (fun _ => 0))), (q38, .inl (cA, 4, .inl (fun _ => 0))), (q46, .inl (cA, 16, .inl (fun _ => 0)))] H := hP
  have hD : va_D A [(h0, .inr (5, [.ref h1, .int 0, .int 0, .ref q7, .ref q15, .ref q23, .ref q31, .ref q38, .ref q46])), (q7, .inl (cA, 12, .inl (fun _ => 0))), (q15, .inl (cA, 48, .inl (fun _ => 0))), (q23, .inl (cA, 12, .inl (fun _ => 0))), (q31, .inl (cA, 12, .inl (fun _ => 0))), (q38, .inl (cA, 4, .inl (fun _ => 0))), (q46, .inl (cA, 16, .inl (fun _ => 0)))] := hD
  exact W.vret hx hb hr (fun t ht hW => ⟨⟨(), rfl, trivial, q7, q15, q23, q31, q38, q46, by rw [ht]; exact hP, hD⟩, hS.F ht⟩) hS.2.2 dX2_init_56
set_option maxHeartbeats 4000000 in
set_option maxRecDepth 100000 in
theorem gi_X1_init (l : Launch) (D : va_G) (cA : ClassId) (h0 : Nat) (sz : Nat) : Met l yX1_init (.code yX1_init cX1_init 1 none :: gw_L) { frames := 1, cells := 6, slots := 96, locals := 13 } (va_Pc [.ref h0] (gi_Pre D cA sz [(h0, .inr (4, [.int 0, .null, .null, .null, .null, .null, .null]))])) (va_Qv (fun (_ : Unit) => True) (fun _ t => ∃ q7 q15 q23 q31 q39 q47 : Nat, va_P D vwCl [(h0, .inr (4, [.int 0, .ref q7, .ref q15, .ref q23, .ref q31, .ref q39, .ref q47])), (q7, .inl (cA, 16, .inl (fun _ => 0))), (q15, .inl (cA, 16, .inl (fun _ => 0))), (q23, .inl (cA, 16, .inl (fun _ => 0))), (q31, .inl (cA, 16, .inl (fun _ => 0))), (q39, .inl (cA, 16, .inl (fun _ => 0))), (q47, .inl (cA, 16, .inl (fun _ => 0)))] t.heap ∧ va_D (va_A [(h0, .inr (4, [.int 0, .null, .null, .null, .null, .null, .null]))] sz) [(h0, .inr (4, [.int 0, .ref q7, .ref q15, .ref q23, .ref q31, .ref q39, .ref q47])), (q7, .inl (cA, 16, .inl (fun _ => 0))), (q15, .inl (cA, 16, .inl (fun _ => 0))), (q23, .inl (cA, 16, .inl (fun _ => 0))), (q31, .inl (cA, 16, .inl (fun _ => 0))), (q39, .inl (cA, 16, .inl (fun _ => 0))), (q47, .inl (cA, 16, .inl (fun _ => 0)))]) (va_A [(h0, .inr (4, [.int 0, .null, .null, .null, .null, .null, .null]))] sz)) 6 96 (va_A [(h0, .inr (4, [.int 0, .null, .null, .null, .null, .null, .null]))] sz) := by
  refine Met.ofW (cc := cX1_init) (maxL := 1) (ret := none) (by decide +kernel) rfl ?_
  intro p e s m args below meth c s₁ B hml hv
  obtain ⟨rfl, hsz, hP, hK, hD0⟩ := hv
  have hx := B.exec
  have hb := B.bytes
  have hr := B.returns
  have hts0 := atoms_spec (ws := .code yX1_init cX1_init 1 none :: gw_L) B.pre
  have hts : ∀ w ∈ gw_L, w.before _ s = true := fun w hw => hts0 w (List.mem_cons_of_mem _ hw)
  have hown : s.vm.findClass RX1 = some m.cls := findClass_of_methodNamed B.named
  have hlocks := B.notSynchronized
  have hin : meth.name = "<init>" := (name_of_methodNamed B.named B.method).1
  subst hsz
  have hD := hD0.self (sz := s.heap.size)
  generalize hAe : va_A [(h0, .inr (4, [.int 0, .null, .null, .null, .null, .null, .null]))] s.heap.size = A at hD ⊢
  have hA : ∀ q : Nat, s.heap.size ≤ q → A q := fun q h => by rw [← hAe]; exact Or.inr h
  have hS : va_S A s.heap s.heap [] := va_S.rf
  have hP : va_P D vwCl [(h0, .inr (4, [.int 0, .null, .null, .null, .null, .null, .null]))] s.heap := hP
  have hl := lv_entry ([.ref h0]) (n := 1) (Nat.le_of_ble_eq_true rfl)
  rw [lg_entry_eq]
  generalize (lg_sl ([.ref h0]) ++ List.replicate (1 - (lg_sl ([.ref h0])).length) Slot.unset).toArray = ls at hl ⊢
  have hl : lv_has ls 1 [(0, .ref h0)] := hl
  refine lv_aload_n hx hb dX1_init_0 rfl (lv_at hl 0 rfl) ?_
  refine W.objInit hx hb hown (hts _ gv_104) (hts _ gi_o1) (hts _ gi_o2) rfl (by rw [hml]; exact hl.1) rfl dX1_init_1 (Nat.le_of_ble_eq_true rfl) (Nat.le_of_ble_eq_true rfl) ?_
  refine W.eq (g2 := F0 m 4 ls []) rfl ?_
  refine lv_aload_n hx hb dX1_init_4 rfl (lv_at hl 0 rfl) ?_
  refine lv_bipush (v := 16) hx hb dX1_init_5 (by decide) ?_
  refine gi_new (N := 16) hx hb (hts _ gi_int) hK hP hD hS hA (by decide) (by decide) (Nat.le_of_ble_eq_true rfl) (Nat.le_of_ble_eq_true rfl) (Nat.le_of_ble_eq_true rfl) dX1_init_7 (fun q7 H hP hD hS => ?_)
  have hP : va_P D vwCl [(h0, .inr (4, [.int 0, .null, .null, .null, .null, .null, .null])), (q7, .inl (cA, 16, .inl (fun _ => 0)))] H := hP
  have hD : va_D A [(h0, .inr (4, [.int 0, .null, .null, .null, .null, .null, .null])), (q7, .inl (cA, 16, .inl (fun _ => 0)))] := hD
  refine W.widen (k := 1) (n := 16) (Nat.le_of_ble_eq_true rfl) (Nat.le_of_ble_eq_true rfl) ?_
  refine va_putF (D := D) (ci := 4) (v := .ref q7) (ty := .array .int) (C := RX1) (T := TX1) (N := 7) hx hb hts gx_X1 tyX1 tyX1_ok nmX1 hown hK hP hD hS 0 rfl rfl 1 (by decide) (hts _ gv_106) (fun _ h9 => h9) rfl hin rfl (by decide +kernel) rfl rfl (Nat.le_of_ble_eq_true rfl) dX1_init_9 (fun H locs hP hD hS => ?_)
  have hP : va_P D vwCl [(h0, .inr (4, [.int 0, .ref q7, .null, .null, .null, .null, .null])), (q7, .inl (cA, 16, .inl (fun _ => 0)))] H := hP
  have hD : va_D A [(h0, .inr (4, [.int 0, .ref q7, .null, .null, .null, .null, .null])), (q7, .inl (cA, 16, .inl (fun _ => 0)))] := hD
  refine lv_aload_n hx hb dX1_init_12 rfl (lv_at hl 0 rfl) ?_
  refine lv_bipush (v := 16) hx hb dX1_init_13 (by decide) ?_
  refine gi_new (N := 16) hx hb (hts _ gi_int) hK hP hD hS hA (by decide) (by decide) (Nat.le_of_ble_eq_true rfl) (Nat.le_of_ble_eq_true rfl) (Nat.le_of_ble_eq_true rfl) dX1_init_15 (fun q15 H hP hD hS => ?_)
  have hP : va_P D vwCl [(h0, .inr (4, [.int 0, .ref q7, .null, .null, .null, .null, .null])), (q7, .inl (cA, 16, .inl (fun _ => 0))), (q15, .inl (cA, 16, .inl (fun _ => 0)))] H := hP
  have hD : va_D A [(h0, .inr (4, [.int 0, .ref q7, .null, .null, .null, .null, .null])), (q7, .inl (cA, 16, .inl (fun _ => 0))), (q15, .inl (cA, 16, .inl (fun _ => 0)))] := hD
  refine W.widen (k := 2) (n := 32) (Nat.le_of_ble_eq_true rfl) (Nat.le_of_ble_eq_true rfl) ?_
  refine va_putF (D := D) (ci := 4) (v := .ref q15) (ty := .array .int) (C := RX1) (T := TX1) (N := 7) hx hb hts gx_X1 tyX1 tyX1_ok nmX1 hown hK hP hD hS 0 rfl rfl 2 (by decide) (hts _ gv_107) (fun _ h9 => h9) rfl hin rfl (by decide +kernel) rfl rfl (Nat.le_of_ble_eq_true rfl) dX1_init_17 (fun H locs hP hD hS => ?_)
  have hP : va_P D vwCl [(h0, .inr (4, [.int 0, .ref q7, .ref q15, .null, .null, .null, .null])), (q7, .inl (cA, 16, .inl (fun _ => 0))), (q15, .inl (cA, 16, .inl (fun _ => 0)))] H := hP
  have hD : va_D A [(h0, .inr (4, [.int 0, .ref q7, .ref q15, .null, .null, .null, .null])), (q7, .inl (cA, 16, .inl (fun _ => 0))), (q15, .inl (cA, 16, .inl (fun _ => 0)))] := hD
  refine lv_aload_n hx hb dX1_init_20 rfl (lv_at hl 0 rfl) ?_
  refine lv_bipush (v := 16) hx hb dX1_init_21 (by decide) ?_
  refine gi_new (N := 16) hx hb (hts _ gi_int) hK hP hD hS hA (by decide) (by decide) (Nat.le_of_ble_eq_true rfl) (Nat.le_of_ble_eq_true rfl) (Nat.le_of_ble_eq_true rfl) dX1_init_23 (fun q23 H hP hD hS => ?_)
  have hP : va_P D vwCl [(h0, .inr (4, [.int 0, .ref q7, .ref q15, .null, .null, .null, .null])), (q7, .inl (cA, 16, .inl (fun _ => 0))), (q15, .inl (cA, 16, .inl (fun _ => 0))), (q23, .inl (cA, 16, .inl (fun _ => 0)))] H := hP
  have hD : va_D A [(h0, .inr (4, [.int 0, .ref q7, .ref q15, .null, .null, .null, .null])), (q7, .inl (cA, 16, .inl (fun _ => 0))), (q15, .inl (cA, 16, .inl (fun _ => 0))), (q23, .inl (cA, 16, .inl (fun _ => 0)))] := hD
  refine W.widen (k := 3) (n := 48) (Nat.le_of_ble_eq_true rfl) (Nat.le_of_ble_eq_true rfl) ?_
  refine va_putF (D := D) (ci := 4) (v := .ref q23) (ty := .array .int) (C := RX1) (T := TX1) (N := 7) hx hb hts gx_X1 tyX1 tyX1_ok nmX1 hown hK hP hD hS 0 rfl rfl 3 (by decide) (hts _ gv_108) (fun _ h9 => h9) rfl hin rfl (by decide +kernel) rfl rfl (Nat.le_of_ble_eq_true rfl) dX1_init_25 (fun H locs hP hD hS => ?_)
  have hP : va_P D vwCl [(h0, .inr (4, [.int 0, .ref q7, .ref q15, .ref q23, .null, .null, .null])), (q7, .inl (cA, 16, .inl (fun _ => 0))), (q15, .inl (cA, 16, .inl (fun _ => 0))), (q23, .inl (cA, 16, .inl (fun _ => 0)))] H := hP
  have hD : va_D A [(h0, .inr (4, [.int 0, .ref q7, .ref q15, .ref q23, .null, .null, .null])), (q7, .inl (cA, 16, .inl (fun _ => 0))), (q15, .inl (cA, 16, .inl (fun _ => 0))), (q23, .inl (cA, 16, .inl (fun _ => 0)))] := hD
  refine lv_aload_n hx hb dX1_init_28 rfl (lv_at hl 0 rfl) ?_
  refine lv_bipush (v := 16) hx hb dX1_init_29 (by decide) ?_
  refine gi_new (N := 16) hx hb (hts _ gi_int) hK hP hD hS hA (by decide) (by decide) (Nat.le_of_ble_eq_true rfl) (Nat.le_of_ble_eq_true rfl) (Nat.le_of_ble_eq_true rfl) dX1_init_31 (fun q31 H hP hD hS => ?_)
  have hP : va_P D vwCl [(h0, .inr (4, [.int 0, .ref q7, .ref q15, .ref q23, .null, .null, .null])), (q7, .inl (cA, 16, .inl (fun _ => 0))), (q15, .inl (cA, 16, .inl (fun _ => 0))), (q23, .inl (cA, 16, .inl (fun _ => 0))), (q31, .inl (cA, 16, .inl (fun _ => 0)))] H := hP
  have hD : va_D A [(h0, .inr (4, [.int 0, .ref q7, .ref q15, .ref q23, .null, .null, .null])), (q7, .inl (cA, 16, .inl (fun _ => 0))), (q15, .inl (cA, 16, .inl (fun _ => 0))), (q23, .inl (cA, 16, .inl (fun _ => 0))), (q31, .inl (cA, 16, .inl (fun _ => 0)))] := hD
  refine W.widen (k := 4) (n := 64) (Nat.le_of_ble_eq_true rfl) (Nat.le_of_ble_eq_true rfl) ?_
  refine va_putF (D := D) (ci := 4) (v := .ref q31) (ty := .array .int) (C := RX1) (T := TX1) (N := 7) hx hb hts gx_X1 tyX1 tyX1_ok nmX1 hown hK hP hD hS 0 rfl rfl 4 (by decide) (hts _ gv_109) (fun _ h9 => h9) rfl hin rfl (by decide +kernel) rfl rfl (Nat.le_of_ble_eq_true rfl) dX1_init_33 (fun H locs hP hD hS => ?_)
  have hP : va_P D vwCl [(h0, .inr (4, [.int 0, .ref q7, .ref q15, .ref q23, .ref q31, .null, .null])), (q7, .inl (cA, 16, .inl (fun _ => 0))), (q15, .inl (cA, 16, .inl (fun _ => 0))), (q23, .inl (cA, 16, .inl (fun _ => 0))), (q31, .inl (cA, 16, .inl (fun _ => 0)))] H := hP
  have hD : va_D A [(h0, .inr (4, [.int 0, .ref q7, .ref q15, .ref q23, .ref q31, .null, .null])), (q7, .inl (cA, 16, .inl (fun _ => 0))), (q15, .inl (cA, 16, .inl (fun _ => 0))), (q23, .inl (cA, 16, .inl (fun _ => 0))), (q31, .inl (cA, 16, .inl (fun _ => 0)))] := hD
  refine lv_aload_n hx hb dX1_init_36 rfl (lv_at hl 0 rfl) ?_
  refine lv_bipush (v := 16) hx hb dX1_init_37 (by decide) ?_
  refine gi_new (N := 16) hx hb (hts _ gi_int) hK hP hD hS hA (by decide) (by decide) (Nat.le_of_ble_eq_true rfl) (Nat.le_of_ble_eq_true rfl) (Nat.le_of_ble_eq_true rfl) dX1_init_39 (fun q39 H hP hD hS => ?_)
  have hP : va_P D vwCl [(h0, .inr (4, [.int 0, .ref q7, .ref q15, .ref q23, .ref q31, .null, .null])), (q7, .inl (cA, 16, .inl (fun _ => 0))), (q15, .inl (cA, 16, .inl (fun _ => 0))), (q23, .inl (cA, 16, .inl (fun _ => 0))), (q31, .inl (cA, 16, .inl (fun _ => 0))), (q39, .inl (cA, 16, .inl (fun _ => 0)))] H := hP
  have hD : va_D A [(h0, .inr (4, [.int 0, .ref q7, .ref q15, .ref q23, .ref q31, .null, .null])), (q7, .inl (cA, 16, .inl (fun _ => 0))), (q15, .inl (cA, 16, .inl (fun _ => 0))), (q23, .inl (cA, 16, .inl (fun _ => 0))), (q31, .inl (cA, 16, .inl (fun _ => 0))), (q39, .inl (cA, 16, .inl (fun _ => 0)))] := hD
  refine W.widen (k := 5) (n := 80) (Nat.le_of_ble_eq_true rfl) (Nat.le_of_ble_eq_true rfl) ?_
  refine va_putF (D := D) (ci := 4) (v := .ref q39) (ty := .array .int) (C := RX1) (T := TX1) (N := 7) hx hb hts gx_X1 tyX1 tyX1_ok nmX1 hown hK hP hD hS 0 rfl rfl 5 (by decide) (hts _ gv_110) (fun _ h9 => h9) rfl hin rfl (by decide +kernel) rfl rfl (Nat.le_of_ble_eq_true rfl) dX1_init_41 (fun H locs hP hD hS => ?_)
  have hP : va_P D vwCl [(h0, .inr (4, [.int 0, .ref q7, .ref q15, .ref q23, .ref q31, .ref q39, .null])), (q7, .inl (cA, 16, .inl (fun _ => 0))), (q15, .inl (cA, 16, .inl (fun _ => 0))), (q23, .inl (cA, 16, .inl (fun _ => 0))), (q31, .inl (cA, 16, .inl (fun _ => 0))), (q39, .inl (cA, 16, .inl (fun _ => 0)))] H := hP
  have hD : va_D A [(h0, .inr (4, [.int 0, .ref q7, .ref q15, .ref q23, .ref q31, .ref q39, .null])), (q7, .inl (cA, 16, .inl (fun _ => 0))), (q15, .inl (cA, 16, .inl (fun _ => 0))), (q23, .inl (cA, 16, .inl (fun _ => 0))), (q31, .inl (cA, 16, .inl (fun _ => 0))), (q39, .inl (cA, 16, .inl (fun _ => 0)))] := hD
  refine lv_aload_n hx hb dX1_init_44 rfl (lv_at hl 0 rfl) ?_
  refine lv_bipush (v := 16) hx hb dX1_init_45 (by decide) ?_
  refine gi_new (N := 16) hx hb (hts _ gi_int) hK hP hD hS hA (by decide) (by decide) (Nat.le_of_ble_eq_true rfl) (Nat.le_of_ble_eq_true rfl) (Nat.le_of_ble_eq_true rfl) dX1_init_47 (fun q47 H hP hD hS => ?_)
  have hP : va_P D vwCl [(h0, .inr (4, [.int 0, .ref q7, .ref q15, .ref q23, .ref q31, .ref q39, .null])), (q7, .inl (cA, 16, .inl (fun _ => 0))), (q15, .inl (cA, 16, .inl (fun _ => 0))), (q23, .inl (cA, 16, .inl (fun _ => 0))), (q31, .inl (cA, 16, .inl (fun _ => 0))), (q39, .inl (cA, 16, .inl (fun _ => 0))), (q47, .inl (cA, 16, .inl (fun _ => 0)))] H := hP
  have hD : va_D A [(h0, .inr (4, [.int 0, .ref q7, .ref q15, .ref q23, .ref q31, .ref q39, .null])), (q7, .inl (cA, 16, .inl (fun _ => 0))), (q15, .inl (cA, 16, .inl (fun _ => 0))), (q23, .inl (cA, 16, .inl (fun _ => 0))), (q31, .inl (cA, 16, .inl (fun _ => 0))), (q39, .inl (cA, 16, .inl (fun _ => 0))), (q47, .inl (cA, 16, .inl (fun _ => 0)))] := hD
  refine W.widen (k := 6) (n := 96) (Nat.le_of_ble_eq_true rfl) (Nat.le_of_ble_eq_true rfl) ?_
  refine va_putF (D := D) (ci := 4) (v := .ref q47) (ty := .array .int) (C := RX1) (T := TX1) (N := 7) hx hb hts gx_X1 tyX1 tyX1_ok nmX1 hown hK hP hD hS 0 rfl rfl 6 (by decide) (hts _ gv_111) (fun _ h9 => h9) rfl hin rfl (by decide +kernel) rfl rfl (Nat.le_of_ble_eq_true rfl) dX1_init_49 (fun H locs hP hD hS => ?_)
  have hP : va_P D vwCl [(h0, .inr (4, [.int 0, .ref q7, .ref q15, .ref q23, .ref q31, .ref q39, .ref q47])), (q7, .inl (cA, 16, .inl (fun _ => 0))), (q15, .inl (cA, 16, .inl (fun _ => 0))), (q23, .inl (cA, 16, .inl (fun _ => 0))), (q31, .inl (cA, 16, .inl (fun _ => 0))), (q39, .inl (cA, 16, .inl (fun _ => 0))), (q47, .inl (cA, 16, .inl (fun _ => 0)))] H := hP
  have hD : va_D A [(h0, .inr (4, [.int 0, .ref q7, .ref q15, .ref q23, .ref q31, .ref q39, .ref q47])), (q7, .inl (cA, 16, .inl (fun _ => 0))), (q15, .inl (cA, 16, .inl (fun _ => 0))), (q23, .inl (cA, 16, .inl (fun _ => 0))), (q31, .inl (cA, 16, .inl (fun _ => 0))), (q39, .inl (cA, 16, .inl (fun _ => 0))), (q47, .inl (cA, 16, .inl (fun _ => 0)))] := hD
  exact W.vret hx hb hr (fun t ht hW => ⟨⟨(), rfl, trivial, q7, q15, q23, q31, q39, q47, by rw [ht]; exact hP, hD⟩, hS.F ht⟩) hS.2.2 dX1_init_52
set_option maxHeartbeats 4000000 in
set_option maxRecDepth 100000 in
theorem gi_X5_init_X4 (l : Launch) (D : va_G) (cA : ClassId) (h0 h1 h2 h3 : Nat) (sz : Nat) : Met l yX5_init (.code yX5_init cX5_init 4 none :: gw_L) { frames := 1, cells := 3, slots := 292, locals := 13 } (va_Pc [.ref h0, .ref h1, .ref h2, .ref h3] (gi_Pre D cA sz [(h0, .inr (7, [.null, .null, .null, .null, .null, .null, .int 0]))])) (va_Qv (fun (_ : Unit) => True) (fun _ t => ∃ q8 q17 q24 : Nat, va_P D vwCl [(h0, .inr (7, [.ref h1, .ref h2, .ref h3, .ref q8, .ref q17, .ref q24, .int 0])), (q8, .inl (cA, 144, .inl (fun _ => 0))), (q17, .inl (cA, 144, .inl (fun _ => 0))), (q24, .inl (cA, 4, .inl (fun _ => 0)))] t.heap ∧ va_D (va_A [(h0, .inr (7, [.null, .null, .null, .null, .null, .null, .int 0]))] sz) [(h0, .inr (7, [.ref h1, .ref h2, .ref h3, .ref q8, .ref q17, .ref q24, .int 0])), (q8, .inl (cA, 144, .inl (fun _ => 0))), (q17, .inl (cA, 144, .inl (fun _ => 0))), (q24, .inl (cA, 4, .inl (fun _ => 0)))]) (va_A [(h0, .inr (7, [.null, .null, .null, .null, .null, .null, .int 0]))] sz)) 3 292 (va_A [(h0, .inr (7, [.null, .null, .null, .null, .null, .null, .int 0]))] sz) := by
  refine Met.ofW (cc := cX5_init) (maxL := 4) (ret := none) (by decide +kernel) rfl ?_
  intro p e s m args below meth c s₁ B hml hv
  obtain ⟨rfl, hsz, hP, hK, hD0⟩ := hv
  have hx := B.exec
  have hb := B.bytes
  have hr := B.returns
  have hts0 := atoms_spec (ws := .code yX5_init cX5_init 4 none :: gw_L) B.pre
  have hts : ∀ w ∈ gw_L, w.before _ s = true := fun w hw => hts0 w (List.mem_cons_of_mem _ hw)
  have hown : s.vm.findClass RX5 = some m.cls := findClass_of_methodNamed B.named
  have hlocks := B.notSynchronized
  have hin : meth.name = "<init>" := (name_of_methodNamed B.named B.method).1
  subst hsz
  have hD := hD0.self (sz := s.heap.size)
  generalize hAe : va_A [(h0, .inr (7, [.null, .null, .null, .null, .null, .null, .int 0]))] s.heap.size = A at hD ⊢
  have hA : ∀ q : Nat, s.heap.size ≤ q → A q := fun q h => by rw [← hAe]; exact Or.inr h
  have hS : va_S A s.heap s.heap [] := va_S.rf
  have hP : va_P D vwCl [(h0, .inr (7, [.null, .null, .null, .null, .null, .null, .int 0]))] s.heap := hP
  have hl := lv_entry ([.ref h0, .ref h1, .ref h2, .ref h3]) (n := 4) (Nat.le_of_ble_eq_true rfl)
  rw [lg_entry_eq]
  generalize (lg_sl ([.ref h0, .ref h1, .ref h2, .ref h3]) ++ List.replicate (4 - (lg_sl ([.ref h0, .ref h1, .ref h2, .ref h3])).length) Slot.unset).toArray = ls at hl ⊢
  have hl : lv_has ls 4 [(0, .ref h0), (1, .ref h1), (2, .ref h2), (3, .ref h3)] := hl
  refine lv_aload_n hx hb dX5_init_0 rfl (lv_at hl 0 rfl) ?_
  refine W.objInit hx hb hown (hts _ gv_135) (hts _ gi_o1) (hts _ gi_o2) rfl (by rw [hml]; exact hl.1) rfl dX5_init_1 (Nat.le_of_ble_eq_true rfl) (Nat.le_of_ble_eq_true rfl) ?_
  refine W.eq (g2 := F0 m 4 ls []) rfl ?_
  refine lv_aload_n hx hb dX5_init_4 rfl (lv_at hl 0 rfl) ?_
  refine lv_sipush (v := 144) hx hb dX5_init_5 (by decide) ?_
  refine gi_new (N := 144) hx hb (hts _ gi_int) hK hP hD hS hA (by decide) (by decide) (Nat.le_of_ble_eq_true rfl) (Nat.le_of_ble_eq_true rfl) (Nat.le_of_ble_eq_true rfl) dX5_init_8 (fun q8 H hP hD hS => ?_)
  have hP : va_P D vwCl [(h0, .inr (7, [.null, .null, .null, .null, .null, .null, .int 0])), (q8, .inl (cA, 144, .inl (fun _ => 0)))] H := hP
  have hD : va_D A [(h0, .inr (7, [.null, .null, .null, .null, .null, .null, .int 0])), (q8, .inl (cA, 144, .inl (fun _ => 0)))] := hD
  refine W.widen (k := 1) (n := 144) (Nat.le_of_ble_eq_true rfl) (Nat.le_of_ble_eq_true rfl) ?_
  refine va_putF (D := D) (ci := 7) (v := .ref q8) (ty := .array .int) (C := RX4) (T := TX4) (N := 7) hx hb hts gx_X4 tyX4 tyX4_ok nmX4 hown hK hP hD hS 0 rfl rfl 3 (by decide) (hts _ gv_145) (fun _ h9 => h9) rfl hin rfl (by decide +kernel) rfl rfl (Nat.le_of_ble_eq_true rfl) dX5_init_10 (fun H locs hP hD hS => ?_)
  have hP : va_P D vwCl [(h0, .inr (7, [.null, .null, .null, .ref q8, .null, .null, .int 0])), (q8, .inl (cA, 144, .inl (fun _ => 0)))] H := hP
  have hD : va_D A [(h0, .inr (7, [.null, .null, .null, .ref q8, .null, .null, .int 0])), (q8, .inl (cA, 144, .inl (fun _ => 0)))] := hD
  refine lv_aload_n hx hb dX5_init_13 rfl (lv_at hl 0 rfl) ?_
  refine lv_sipush (v := 144) hx hb dX5_init_14 (by decide) ?_
  refine gi_new (N := 144) hx hb (hts _ gi_int) hK hP hD hS hA (by decide) (by decide) (Nat.le_of_ble_eq_true rfl) (Nat.le_of_ble_eq_true rfl) (Nat.le_of_ble_eq_true rfl) dX5_init_17 (fun q17 H hP hD hS => ?_)
  have hP : va_P D vwCl [(h0, .inr (7, [.null, .null, .null, .ref q8, .null, .null, .int 0])), (q8, .inl (cA, 144, .inl (fun _ => 0))), (q17, .inl (cA, 144, .inl (fun _ => 0)))] H := hP
  have hD : va_D A [(h0, .inr (7, [.null, .null, .null, .ref q8, .null, .null, .int 0])), (q8, .inl (cA, 144, .inl (fun _ => 0))), (q17, .inl (cA, 144, .inl (fun _ => 0)))] := hD
  refine W.widen (k := 2) (n := 288) (Nat.le_of_ble_eq_true rfl) (Nat.le_of_ble_eq_true rfl) ?_
  refine va_putF (D := D) (ci := 7) (v := .ref q17) (ty := .array .int) (C := RX4) (T := TX4) (N := 7) hx hb hts gx_X4 tyX4 tyX4_ok nmX4 hown hK hP hD hS 0 rfl rfl 4 (by decide) (hts _ gv_146) (fun _ h9 => h9) rfl hin rfl (by decide +kernel) rfl rfl (Nat.le_of_ble_eq_true rfl) dX5_init_19 (fun H locs hP hD hS => ?_)
  have hP : va_P D vwCl [(h0, .inr (7, [.null, .null, .null, .ref q8, .ref q17, .null, .int 0])), (q8, .inl (cA, 144, .inl (fun _ => 0))), (q17, .inl (cA, 144, .inl (fun _ => 0)))] H := hP
  have hD : va_D A [(h0, .inr (7, [.null, .null, .null, .ref q8, .ref q17, .null, .int 0])), (q8, .inl (cA, 144, .inl (fun _ => 0))), (q17, .inl (cA, 144, .inl (fun _ => 0)))] := hD
  refine lv_aload_n hx hb dX5_init_22 rfl (lv_at hl 0 rfl) ?_
  refine lv_iconst (v := 4) hx hb dX5_init_23 (by decide) ?_
  refine gi_new (N := 4) hx hb (hts _ gi_int) hK hP hD hS hA (by decide) (by decide) (Nat.le_of_ble_eq_true rfl) (Nat.le_of_ble_eq_true rfl) (Nat.le_of_ble_eq_true rfl) dX5_init_24 (fun q24 H hP hD hS => ?_)
  have hP : va_P D vwCl [(h0, .inr (7, [.null, .null, .null, .ref q8, .ref q17, .null, .int 0])), (q8, .inl (cA, 144, .inl (fun _ => 0))), (q17, .inl (cA, 144, .inl (fun _ => 0))), (q24, .inl (cA, 4, .inl (fun _ => 0)))] H := hP
  have hD : va_D A [(h0, .inr (7, [.null, .null, .null, .ref q8, .ref q17, .null, .int 0])), (q8, .inl (cA, 144, .inl (fun _ => 0))), (q17, .inl (cA, 144, .inl (fun _ => 0))), (q24, .inl (cA, 4, .inl (fun _ => 0)))] := hD
  refine W.widen (k := 3) (n := 292) (Nat.le_of_ble_eq_true rfl) (Nat.le_of_ble_eq_true rfl) ?_
  refine va_putF (D := D) (ci := 7) (v := .ref q24) (ty := .array .int) (C := RX4) (T := TX4) (N := 7) hx hb hts gx_X4 tyX4 tyX4_ok nmX4 hown hK hP hD hS 0 rfl rfl 5 (by decide) (hts _ gv_147) (fun _ h9 => h9) rfl hin rfl (by decide +kernel) rfl rfl (Nat.le_of_ble_eq_true rfl) dX5_init_26 (fun H locs hP hD hS => ?_)
  have hP : va_P D vwCl [(h0, .inr (7, [.null, .null, .null, .ref q8, .ref q17, .ref q24, .int 0])), (q8, .inl (cA, 144, .inl (fun _ => 0))), (q17, .inl (cA, 144, .inl (fun _ => 0))), (q24, .inl (cA, 4, .inl (fun _ => 0)))] H := hP
  have hD : va_D A [(h0, .inr (7, [.null, .null, .null, .ref q8, .ref q17, .ref q24, .int 0])), (q8, .inl (cA, 144, .inl (fun _ => 0))), (q17, .inl (cA, 144, .inl (fun _ => 0))), (q24, .inl (cA, 4, .inl (fun _ => 0)))] := hD
  refine lv_aload_n hx hb dX5_init_29 rfl (lv_at hl 0 rfl) ?_
  refine lv_aload_n hx hb dX5_init_30 rfl (lv_at hl 1 rfl) ?_
  refine va_putF (D := D) (ci := 7) (v := .ref h1) (ty := .object "Genericwood$Order") (C := RX4) (T := TX4) (N := 7) hx hb hts gx_X4 tyX4 tyX4_ok nmX4 hown hK hP hD hS 0 rfl rfl 0 (by decide) (hts _ gv_136) (fun _ h9 => h9) rfl hin rfl (by decide +kernel) rfl rfl (Nat.le_of_ble_eq_true rfl) dX5_init_31 (fun H locs hP hD hS => ?_)
  have hP : va_P D vwCl [(h0, .inr (7, [.ref h1, .null, .null, .ref q8, .ref q17, .ref q24, .int 0])), (q8, .inl (cA, 144, .inl (fun _ => 0))), (q17, .inl (cA, 144, .inl (fun _ => 0))), (q24, .inl (cA, 4, .inl (fun _ => 0)))] H := hP
  have hD : va_D A [(h0, .inr (7, [.ref h1, .null, .null, .ref q8, .ref q17, .ref q24, .int 0])), (q8, .inl (cA, 144, .inl (fun _ => 0))), (q17, .inl (cA, 144, .inl (fun _ => 0))), (q24, .inl (cA, 4, .inl (fun _ => 0)))] := hD
  refine lv_aload_n hx hb dX5_init_34 rfl (lv_at hl 0 rfl) ?_
  refine lv_aload_n hx hb dX5_init_35 rfl (lv_at hl 2 rfl) ?_
  refine va_putF (D := D) (ci := 7) (v := .ref h2) (ty := .object "Genericwood$Names") (C := RX4) (T := TX4) (N := 7) hx hb hts gx_X4 tyX4 tyX4_ok nmX4 hown hK hP hD hS 0 rfl rfl 1 (by decide) (hts _ gv_143) (fun _ h9 => h9) rfl hin rfl (by decide +kernel) rfl rfl (Nat.le_of_ble_eq_true rfl) dX5_init_36 (fun H locs hP hD hS => ?_)
  have hP : va_P D vwCl [(h0, .inr (7, [.ref h1, .ref h2, .null, .ref q8, .ref q17, .ref q24, .int 0])), (q8, .inl (cA, 144, .inl (fun _ => 0))), (q17, .inl (cA, 144, .inl (fun _ => 0))), (q24, .inl (cA, 4, .inl (fun _ => 0)))] H := hP
  have hD : va_D A [(h0, .inr (7, [.ref h1, .ref h2, .null, .ref q8, .ref q17, .ref q24, .int 0])), (q8, .inl (cA, 144, .inl (fun _ => 0))), (q17, .inl (cA, 144, .inl (fun _ => 0))), (q24, .inl (cA, 4, .inl (fun _ => 0)))] := hD
  refine lv_aload_n hx hb dX5_init_39 rfl (lv_at hl 0 rfl) ?_
  refine lv_aload_n hx hb dX5_init_40 rfl (lv_at hl 3 rfl) ?_
  refine va_putF (D := D) (ci := 7) (v := .ref h3) (ty := .object "Genericwood$Formulas") (C := RX4) (T := TX4) (N := 7) hx hb hts gx_X4 tyX4 tyX4_ok nmX4 hown hK hP hD hS 0 rfl rfl 2 (by decide) (hts _ gv_144) (fun _ h9 => h9) rfl hin rfl (by decide +kernel) rfl rfl (Nat.le_of_ble_eq_true rfl) dX5_init_41 (fun H locs hP hD hS => ?_)
  have hP : va_P D vwCl [(h0, .inr (7, [.ref h1, .ref h2, .ref h3, .ref q8, .ref q17, .ref q24, .int 0])), (q8, .inl (cA, 144, .inl (fun _ => 0))), (q17, .inl (cA, 144, .inl (fun _ => 0))), (q24, .inl (cA, 4, .inl (fun _ => 0)))] H := hP
  have hD : va_D A [(h0, .inr (7, [.ref h1, .ref h2, .ref h3, .ref q8, .ref q17, .ref q24, .int 0])), (q8, .inl (cA, 144, .inl (fun _ => 0))), (q17, .inl (cA, 144, .inl (fun _ => 0))), (q24, .inl (cA, 4, .inl (fun _ => 0)))] := hD
  exact W.vret hx hb hr (fun t ht hW => ⟨⟨(), rfl, trivial, q8, q17, q24, by rw [ht]; exact hP, hD⟩, hS.F ht⟩) hS.2.2 dX5_init_44
set_option maxHeartbeats 4000000 in
set_option maxRecDepth 100000 in
theorem gi_X5_init_X0 (l : Launch) (D : va_G) (cA : ClassId) (h0 h1 h2 h3 : Nat) (sz : Nat) : Met l yX5_init (.code yX5_init cX5_init 4 none :: gw_L) { frames := 1, cells := 3, slots := 292, locals := 13 } (va_Pc [.ref h0, .ref h1, .ref h2, .ref h3] (gi_Pre D cA sz [(h0, .inr (3, [.null, .null, .null, .null, .null, .null, .int 0]))])) (va_Qv (fun (_ : Unit) => True) (fun _ t => ∃ q8 q17 q24 : Nat, va_P D vwCl [(h0, .inr (3, [.ref h1, .ref h2, .ref h3, .ref q8, .ref q17, .ref q24, .int 0])), (q8, .inl (cA, 144, .inl (fun _ => 0))), (q17, .inl (cA, 144, .inl (fun _ => 0))), (q24, .inl (cA, 4, .inl (fun _ => 0)))] t.heap ∧ va_D (va_A [(h0, .inr (3, [.null, .null, .null, .null, .null, .null, .int 0]))] sz) [(h0, .inr (3, [.ref h1, .ref h2, .ref h3, .ref q8, .ref q17, .ref q24, .int 0])), (q8, .inl (cA, 144, .inl (fun _ => 0))), (q17, .inl (cA, 144, .inl (fun _ => 0))), (q24, .inl (cA, 4, .inl (fun _ => 0)))]) (va_A [(h0, .inr (3, [.null, .null, .null, .null, .null, .null, .int 0]))] sz)) 3 292 (va_A [(h0, .inr (3, [.null, .null, .null, .null, .null, .null, .int 0]))] sz) := by
  refine Met.ofW (cc := cX5_init) (maxL := 4) (ret := none) (by decide +kernel) rfl ?_
  intro p e s m args below meth c s₁ B hml hv
  obtain ⟨rfl, hsz, hP, hK, hD0⟩ := hv
  have hx := B.exec
  have hb := B.bytes
  have hr := B.returns
  have hts0 := atoms_spec (ws := .code yX5_init cX5_init 4 none :: gw_L) B.pre
  have hts : ∀ w ∈ gw_L, w.before _ s = true := fun w hw => hts0 w (List.mem_cons_of_mem _ hw)
  have hown : s.vm.findClass RX5 = some m.cls := findClass_of_methodNamed B.named
  have hlocks := B.notSynchronized
  have hin : meth.name = "<init>" := (name_of_methodNamed B.named B.method).1
  subst hsz
  have hD := hD0.self (sz := s.heap.size)
  generalize hAe : va_A [(h0, .inr (3, [.null, .null, .null, .null, .null, .null, .int 0]))] s.heap.size = A at hD ⊢
  have hA : ∀ q : Nat, s.heap.size ≤ q → A q := fun q h => by rw [← hAe]; exact Or.inr h
  have hS : va_S A s.heap s.heap [] := va_S.rf
  have hP : va_P D vwCl [(h0, .inr (3, [.null, .null, .null, .null, .null, .null, .int 0]))] s.heap := hP
  have hl := lv_entry ([.ref h0, .ref h1, .ref h2, .ref h3]) (n := 4) (Nat.le_of_ble_eq_true rfl)
  rw [lg_entry_eq]
  generalize (lg_sl ([.ref h0, .ref h1, .ref h2, .ref h3]) ++ List.replicate (4 - (lg_sl ([.ref h0, .ref h1, .ref h2, .ref h3])).length) Slot.unset).toArray = ls at hl ⊢
  have hl : lv_has ls 4 [(0, .ref h0), (1, .ref h1), (2, .ref h2), (3, .ref h3)] := hl
  refine lv_aload_n hx hb dX5_init_0 rfl (lv_at hl 0 rfl) ?_
  refine W.objInit hx hb hown (hts _ gv_135) (hts _ gi_o1) (hts _ gi_o2) rfl (by rw [hml]; exact hl.1) rfl dX5_init_1 (Nat.le_of_ble_eq_true rfl) (Nat.le_of_ble_eq_true rfl) ?_
  refine W.eq (g2 := F0 m 4 ls []) rfl ?_
  refine lv_aload_n hx hb dX5_init_4 rfl (lv_at hl 0 rfl) ?_
  refine lv_sipush (v := 144) hx hb dX5_init_5 (by decide) ?_
  refine gi_new (N := 144) hx hb (hts _ gi_int) hK hP hD hS hA (by decide) (by decide) (Nat.le_of_ble_eq_true rfl) (Nat.le_of_ble_eq_true rfl) (Nat.le_of_ble_eq_true rfl) dX5_init_8 (fun q8 H hP hD hS => ?_)
  have hP : va_P D vwCl [(h0, .inr (3, [.null, .null, .null, .null, .null, .null, .int 0])), (q8, .inl (cA, 144, .inl (fun _ => 0)))] H := hP
  have hD : va_D A [(h0, .inr (3, [.null, .null, .null, .null, .null, .null, .int 0])), (q8, .inl (cA, 144, .inl (fun _ => 0)))] := hD
  refine W.widen (k := 1) (n := 144) (Nat.le_of_ble_eq_true rfl) (Nat.le_of_ble_eq_true rfl) ?_
  refine va_putF (D := D) (ci := 3) (v := .ref q8) (ty := .array .int) (C := RX0) (T := TX0) (N := 7) hx hb hts gx_X0 tyX0 tyX0_ok nmX0 hown hK hP hD hS 0 rfl rfl 3 (by decide) (hts _ gv_145) (fun _ h9 => h9) rfl hin rfl (by decide +kernel) rfl rfl (Nat.le_of_ble_eq_true rfl) dX5_init_10 (fun H locs hP hD hS => ?_)
  have hP : va_P D vwCl [(h0, .inr (3, [.null, .null, .null, .ref q8, .null, .null, .int 0])), (q8, .inl (cA, 144, .inl (fun _ => 0)))] H := hP
  have hD : va_D A [(h0, .inr (3, [.null, .null, .null, .ref q8, .null, .null, .int 0])), (q8, .inl (cA, 144, .inl (fun _ => 0)))] := hD
  refine lv_aload_n hx hb dX5_init_13 rfl (lv_at hl 0 rfl) ?_
  refine lv_sipush (v := 144) hx hb dX5_init_14 (by decide) ?_
  refine gi_new (N := 144) hx hb (hts _ gi_int) hK hP hD hS hA (by decide) (by decide) (Nat.le_of_ble_eq_true rfl) (Nat.le_of_ble_eq_true rfl) (Nat.le_of_ble_eq_true rfl) dX5_init_17 (fun q17 H hP hD hS => ?_)
  have hP : va_P D vwCl [(h0, .inr (3, [.null, .null, .null, .ref q8, .null, .null, .int 0])), (q8, .inl (cA, 144, .inl (fun _ => 0))), (q17, .inl (cA, 144, .inl (fun _ => 0)))] H := hP
  have hD : va_D A [(h0, .inr (3, [.null, .null, .null, .ref q8, .null, .null, .int 0])), (q8, .inl (cA, 144, .inl (fun _ => 0))), (q17, .inl (cA, 144, .inl (fun _ => 0)))] := hD
  refine W.widen (k := 2) (n := 288) (Nat.le_of_ble_eq_true rfl) (Nat.le_of_ble_eq_true rfl) ?_
  refine va_putF (D := D) (ci := 3) (v := .ref q17) (ty := .array .int) (C := RX0) (T := TX0) (N := 7) hx hb hts gx_X0 tyX0 tyX0_ok nmX0 hown hK hP hD hS 0 rfl rfl 4 (by decide) (hts _ gv_146) (fun _ h9 => h9) rfl hin rfl (by decide +kernel) rfl rfl (Nat.le_of_ble_eq_true rfl) dX5_init_19 (fun H locs hP hD hS => ?_)
  have hP : va_P D vwCl [(h0, .inr (3, [.null, .null, .null, .ref q8, .ref q17, .null, .int 0])), (q8, .inl (cA, 144, .inl (fun _ => 0))), (q17, .inl (cA, 144, .inl (fun _ => 0)))] H := hP
  have hD : va_D A [(h0, .inr (3, [.null, .null, .null, .ref q8, .ref q17, .null, .int 0])), (q8, .inl (cA, 144, .inl (fun _ => 0))), (q17, .inl (cA, 144, .inl (fun _ => 0)))] := hD
  refine lv_aload_n hx hb dX5_init_22 rfl (lv_at hl 0 rfl) ?_
  refine lv_iconst (v := 4) hx hb dX5_init_23 (by decide) ?_
  refine gi_new (N := 4) hx hb (hts _ gi_int) hK hP hD hS hA (by decide) (by decide) (Nat.le_of_ble_eq_true rfl) (Nat.le_of_ble_eq_true rfl) (Nat.le_of_ble_eq_true rfl) dX5_init_24 (fun q24 H hP hD hS => ?_)
  have hP : va_P D vwCl [(h0, .inr (3, [.null, .null, .null, .ref q8, .ref q17, .null, .int 0])), (q8, .inl (cA, 144, .inl (fun _ => 0))), (q17, .inl (cA, 144, .inl (fun _ => 0))), (q24, .inl (cA, 4, .inl (fun _ => 0)))] H := hP
  have hD : va_D A [(h0, .inr (3, [.null, .null, .null, .ref q8, .ref q17, .null, .int 0])), (q8, .inl (cA, 144, .inl (fun _ => 0))), (q17, .inl (cA, 144, .inl (fun _ => 0))), (q24, .inl (cA, 4, .inl (fun _ => 0)))] := hD
  refine W.widen (k := 3) (n := 292) (Nat.le_of_ble_eq_true rfl) (Nat.le_of_ble_eq_true rfl) ?_
  refine va_putF (D := D) (ci := 3) (v := .ref q24) (ty := .array .int) (C := RX0) (T := TX0) (N := 7) hx hb hts gx_X0 tyX0 tyX0_ok nmX0 hown hK hP hD hS 0 rfl rfl 5 (by decide) (hts _ gv_147) (fun _ h9 => h9) rfl hin rfl (by decide +kernel) rfl rfl (Nat.le_of_ble_eq_true rfl) dX5_init_26 (fun H locs hP hD hS => ?_)
  have hP : va_P D vwCl [(h0, .inr (3, [.null, .null, .null, .ref q8, .ref q17, .ref q24, .int 0])), (q8, .inl (cA, 144, .inl (fun _ => 0))), (q17, .inl (cA, 144, .inl (fun _ => 0))), (q24, .inl (cA, 4, .inl (fun _ => 0)))] H := hP
  have hD : va_D A [(h0, .inr (3, [.null, .null, .null, .ref q8, .ref q17, .ref q24, .int 0])), (q8, .inl (cA, 144, .inl (fun _ => 0))), (q17, .inl (cA, 144, .inl (fun _ => 0))), (q24, .inl (cA, 4, .inl (fun _ => 0)))] := hD
  refine lv_aload_n hx hb dX5_init_29 rfl (lv_at hl 0 rfl) ?_
  refine lv_aload_n hx hb dX5_init_30 rfl (lv_at hl 1 rfl) ?_
  refine va_putF (D := D) (ci := 3) (v := .ref h1) (ty := .object "Genericwood$Order") (C := RX0) (T := TX0) (N := 7) hx hb hts gx_X0 tyX0 tyX0_ok nmX0 hown hK hP hD hS 0 rfl rfl 0 (by decide) (hts _ gv_136) (fun _ h9 => h9) rfl hin rfl (by decide +kernel) rfl rfl (Nat.le_of_ble_eq_true rfl) dX5_init_31 (fun H locs hP hD hS => ?_)
  have hP : va_P D vwCl [(h0, .inr (3, [.ref h1, .null, .null, .ref q8, .ref q17, .ref q24, .int 0])), (q8, .inl (cA, 144, .inl (fun _ => 0))), (q17, .inl (cA, 144, .inl (fun _ => 0))), (q24, .inl (cA, 4, .inl (fun _ => 0)))] H := hP
  have hD : va_D A [(h0, .inr (3, [.ref h1, .null, .null, .ref q8, .ref q17, .ref q24, .int 0])), (q8, .inl (cA, 144, .inl (fun _ => 0))), (q17, .inl (cA, 144, .inl (fun _ => 0))), (q24, .inl (cA, 4, .inl (fun _ => 0)))] := hD
  refine lv_aload_n hx hb dX5_init_34 rfl (lv_at hl 0 rfl) ?_
  refine lv_aload_n hx hb dX5_init_35 rfl (lv_at hl 2 rfl) ?_
  refine va_putF (D := D) (ci := 3) (v := .ref h2) (ty := .object "Genericwood$Names") (C := RX0) (T := TX0) (N := 7) hx hb hts gx_X0 tyX0 tyX0_ok nmX0 hown hK hP hD hS 0 rfl rfl 1 (by decide) (hts _ gv_143) (fun _ h9 => h9) rfl hin rfl (by decide +kernel) rfl rfl (Nat.le_of_ble_eq_true rfl) dX5_init_36 (fun H locs hP hD hS => ?_)
  have hP : va_P D vwCl [(h0, .inr (3, [.ref h1, .ref h2, .null, .ref q8, .ref q17, .ref q24, .int 0])), (q8, .inl (cA, 144, .inl (fun _ => 0))), (q17, .inl (cA, 144, .inl (fun _ => 0))), (q24, .inl (cA, 4, .inl (fun _ => 0)))] H := hP
  have hD : va_D A [(h0, .inr (3, [.ref h1, .ref h2, .null, .ref q8, .ref q17, .ref q24, .int 0])), (q8, .inl (cA, 144, .inl (fun _ => 0))), (q17, .inl (cA, 144, .inl (fun _ => 0))), (q24, .inl (cA, 4, .inl (fun _ => 0)))] := hD
  refine lv_aload_n hx hb dX5_init_39 rfl (lv_at hl 0 rfl) ?_
  refine lv_aload_n hx hb dX5_init_40 rfl (lv_at hl 3 rfl) ?_
  refine va_putF (D := D) (ci := 3) (v := .ref h3) (ty := .object "Genericwood$Formulas") (C := RX0) (T := TX0) (N := 7) hx hb hts gx_X0 tyX0 tyX0_ok nmX0 hown hK hP hD hS 0 rfl rfl 2 (by decide) (hts _ gv_144) (fun _ h9 => h9) rfl hin rfl (by decide +kernel) rfl rfl (Nat.le_of_ble_eq_true rfl) dX5_init_41 (fun H locs hP hD hS => ?_)
  have hP : va_P D vwCl [(h0, .inr (3, [.ref h1, .ref h2, .ref h3, .ref q8, .ref q17, .ref q24, .int 0])), (q8, .inl (cA, 144, .inl (fun _ => 0))), (q17, .inl (cA, 144, .inl (fun _ => 0))), (q24, .inl (cA, 4, .inl (fun _ => 0)))] H := hP
  have hD : va_D A [(h0, .inr (3, [.ref h1, .ref h2, .ref h3, .ref q8, .ref q17, .ref q24, .int 0])), (q8, .inl (cA, 144, .inl (fun _ => 0))), (q17, .inl (cA, 144, .inl (fun _ => 0))), (q24, .inl (cA, 4, .inl (fun _ => 0)))] := hD
  exact W.vret hx hb hr (fun t ht hW => ⟨⟨(), rfl, trivial, q8, q17, q24, by rw [ht]; exact hP, hD⟩, hS.F ht⟩) hS.2.2 dX5_init_44
set_option maxHeartbeats 4000000 in
set_option maxRecDepth 100000 in
theorem gi_X5_init_X6 (l : Launch) (D : va_G) (cA : ClassId) (h0 h1 h2 h3 : Nat) (sz : Nat) : Met l yX5_init (.code yX5_init cX5_init 4 none :: gw_L) { frames := 1, cells := 3, slots := 292, locals := 13 } (va_Pc [.ref h0, .ref h1, .ref h2, .ref h3] (gi_Pre D cA sz [(h0, .inr (8, [.null, .null, .null, .null, .null, .null, .int 0]))])) (va_Qv (fun (_ : Unit) => True) (fun _ t => ∃ q8 q17 q24 : Nat, va_P D vwCl [(h0, .inr (8, [.ref h1, .ref h2, .ref h3, .ref q8, .ref q17, .ref q24, .int 0])), (q8, .inl (cA, 144, .inl (fun _ => 0))), (q17, .inl (cA, 144, .inl (fun _ => 0))), (q24, .inl (cA, 4, .inl (fun _ => 0)))] t.heap ∧ va_D (va_A [(h0, .inr (8, [.null, .null, .null, .null, .null, .null, .int 0]))] sz) [(h0, .inr (8, [.ref h1, .ref h2, .ref h3, .ref q8, .ref q17, .ref q24, .int 0])), (q8, .inl (cA, 144, .inl (fun _ => 0))), (q17, .inl (cA, 144, .inl (fun _ => 0))), (q24, .inl (cA, 4, .inl (fun _ => 0)))]) (va_A [(h0, .inr (8, [.null, .null, .null, .null, .null, .null, .int 0]))] sz)) 3 292 (va_A [(h0, .inr (8, [.null, .null, .null, .null, .null, .null, .int 0]))] sz) := by
  refine Met.ofW (cc := cX5_init) (maxL := 4) (ret := none) (by decide +kernel) rfl ?_
  intro p e s m args below meth c s₁ B hml hv
  obtain ⟨rfl, hsz, hP, hK, hD0⟩ := hv
  have hx := B.exec
  have hb := B.bytes
  have hr := B.returns
  have hts0 := atoms_spec (ws := .code yX5_init cX5_init 4 none :: gw_L) B.pre
  have hts : ∀ w ∈ gw_L, w.before _ s = true := fun w hw => hts0 w (List.mem_cons_of_mem _ hw)
  have hown : s.vm.findClass RX5 = some m.cls := findClass_of_methodNamed B.named
  have hlocks := B.notSynchronized
  have hin : meth.name = "<init>" := (name_of_methodNamed B.named B.method).1
  subst hsz
  have hD := hD0.self (sz := s.heap.size)
  generalize hAe : va_A [(h0, .inr (8, [.null, .null, .null, .null, .null, .null, .int 0]))] s.heap.size = A at hD ⊢
  have hA : ∀ q : Nat, s.heap.size ≤ q → A q := fun q h => by rw [← hAe]; exact Or.inr h
  have hS : va_S A s.heap s.heap [] := va_S.rf
  have hP : va_P D vwCl [(h0, .inr (8, [.null, .null, .null, .null, .null, .null, .int 0]))] s.heap := hP
  have hl := lv_entry ([.ref h0, .ref h1, .ref h2, .ref h3]) (n := 4) (Nat.le_of_ble_eq_true rfl)
  rw [lg_entry_eq]
  generalize (lg_sl ([.ref h0, .ref h1, .ref h2, .ref h3]) ++ List.replicate (4 - (lg_sl ([.ref h0, .ref h1, .ref h2, .ref h3])).length) Slot.unset).toArray = ls at hl ⊢
  have hl : lv_has ls 4 [(0, .ref h0), (1, .ref h1), (2, .ref h2), (3, .ref h3)] := hl
  refine lv_aload_n hx hb dX5_init_0 rfl (lv_at hl 0 rfl) ?_
  refine W.objInit hx hb hown (hts _ gv_135) (hts _ gi_o1) (hts _ gi_o2) rfl (by rw [hml]; exact hl.1) rfl dX5_init_1 (Nat.le_of_ble_eq_true rfl) (Nat.le_of_ble_eq_true rfl) ?_
  refine W.eq (g2 := F0 m 4 ls []) rfl ?_
  refine lv_aload_n hx hb dX5_init_4 rfl (lv_at hl 0 rfl) ?_
  refine lv_sipush (v := 144) hx hb dX5_init_5 (by decide) ?_
  refine gi_new (N := 144) hx hb (hts _ gi_int) hK hP hD hS hA (by decide) (by decide) (Nat.le_of_ble_eq_true rfl) (Nat.le_of_ble_eq_true rfl) (Nat.le_of_ble_eq_true rfl) dX5_init_8 (fun q8 H hP hD hS => ?_)
  have hP : va_P D vwCl [(h0, .inr (8, [.null, .null, .null, .null, .null, .null, .int 0])), (q8, .inl (cA, 144, .inl (fun _ => 0)))] H := hP
  have hD : va_D A [(h0, .inr (8, [.null, .null, .null, .null, .null, .null, .int 0])), (q8, .inl (cA, 144, .inl (fun _ => 0)))] := hD
  refine W.widen (k := 1) (n := 144) (Nat.le_of_ble_eq_true rfl) (Nat.le_of_ble_eq_true rfl) ?_
  refine va_putF (D := D) (ci := 8) (v := .ref q8) (ty := .array .int) (C := RX6) (T := TX6) (N := 7) hx hb hts gx_X6 tyX6 tyX6_ok nmX6 hown hK hP hD hS 0 rfl rfl 3 (by decide) (hts _ gv_145) (fun _ h9 => h9) rfl hin rfl (by decide +kernel) rfl rfl (Nat.le_of_ble_eq_true rfl) dX5_init_10 (fun H locs hP hD hS => ?_)
  have hP : va_P D vwCl [(h0, .inr (8, [.null, .null, .null, .ref q8, .null, .null, .int 0])), (q8, .inl (cA, 144, .inl (fun _ => 0)))] H := hP
  have hD : va_D A [(h0, .inr (8, [.null, .null, .null, .ref q8, .null, .null, .int 0])), (q8, .inl (cA, 144, .inl (fun _ => 0)))] := hD
  refine lv_aload_n hx hb dX5_init_13 rfl (lv_at hl 0 rfl) ?_
  refine lv_sipush (v := 144) hx hb dX5_init_14 (by decide) ?_
  refine gi_new (N := 144) hx hb (hts _ gi_int) hK hP hD hS hA (by decide) (by decide) (Nat.le_of_ble_eq_true rfl) (Nat.le_of_ble_eq_true rfl) (Nat.le_of_ble_eq_true rfl) dX5_init_17 (fun q17 H hP hD hS => ?_)
  have hP : va_P D vwCl [(h0, .inr (8, [.null, .null, .null, .ref q8, .null, .null, .int 0])), (q8, .inl (cA, 144, .inl (fun _ => 0))), (q17, .inl (cA, 144, .inl (fun _ => 0)))] H := hP
  have hD : va_D A [(h0, .inr (8, [.null, .null, .null, .ref q8, .null, .null, .int 0])), (q8, .inl (cA, 144, .inl (fun _ => 0))), (q17, .inl (cA, 144, .inl (fun _ => 0)))] := hD
  refine W.widen (k := 2) (n := 288) (Nat.le_of_ble_eq_true rfl) (Nat.le_of_ble_eq_true rfl) ?_
  refine va_putF (D := D) (ci := 8) (v := .ref q17) (ty := .array .int) (C := RX6) (T := TX6) (N := 7) hx hb hts gx_X6 tyX6 tyX6_ok nmX6 hown hK hP hD hS 0 rfl rfl 4 (by decide) (hts _ gv_146) (fun _ h9 => h9) rfl hin rfl (by decide +kernel) rfl rfl (Nat.le_of_ble_eq_true rfl) dX5_init_19 (fun H locs hP hD hS => ?_)
  have hP : va_P D vwCl [(h0, .inr (8, [.null, .null, .null, .ref q8, .ref q17, .null, .int 0])), (q8, .inl (cA, 144, .inl (fun _ => 0))), (q17, .inl (cA, 144, .inl (fun _ => 0)))] H := hP
  have hD : va_D A [(h0, .inr (8, [.null, .null, .null, .ref q8, .ref q17, .null, .int 0])), (q8, .inl (cA, 144, .inl (fun _ => 0))), (q17, .inl (cA, 144, .inl (fun _ => 0)))] := hD
  refine lv_aload_n hx hb dX5_init_22 rfl (lv_at hl 0 rfl) ?_
  refine lv_iconst (v := 4) hx hb dX5_init_23 (by decide) ?_
  refine gi_new (N := 4) hx hb (hts _ gi_int) hK hP hD hS hA (by decide) (by decide) (Nat.le_of_ble_eq_true rfl) (Nat.le_of_ble_eq_true rfl) (Nat.le_of_ble_eq_true rfl) dX5_init_24 (fun q24 H hP hD hS => ?_)
  have hP : va_P D vwCl [(h0, .inr (8, [.null, .null, .null, .ref q8, .ref q17, .null, .int 0])), (q8, .inl (cA, 144, .inl (fun _ => 0))), (q17, .inl (cA, 144, .inl (fun _ => 0))), (q24, .inl (cA, 4, .inl (fun _ => 0)))] H := hP
  have hD : va_D A [(h0, .inr (8, [.null, .null, .null, .ref q8, .ref q17, .null, .int 0])), (q8, .inl (cA, 144, .inl (fun _ => 0))), (q17, .inl (cA, 144, .inl (fun _ => 0))), (q24, .inl (cA, 4, .inl (fun _ => 0)))] := hD
  refine W.widen (k := 3) (n := 292) (Nat.le_of_ble_eq_true rfl) (Nat.le_of_ble_eq_true rfl) ?_
  refine va_putF (D := D) (ci := 8) (v := .ref q24) (ty := .array .int) (C := RX6) (T := TX6) (N := 7) hx hb hts gx_X6 tyX6 tyX6_ok nmX6 hown hK hP hD hS 0 rfl rfl 5 (by decide) (hts _ gv_147) (fun _ h9 => h9) rfl hin rfl (by decide +kernel) rfl rfl (Nat.le_of_ble_eq_true rfl) dX5_init_26 (fun H locs hP hD hS => ?_)
  have hP : va_P D vwCl [(h0, .inr (8, [.null, .null, .null, .ref q8, .ref q17, .ref q24, .int 0])), (q8, .inl (cA, 144, .inl (fun _ => 0))), (q17, .inl (cA, 144, .inl (fun _ => 0))), (q24, .inl (cA, 4, .inl (fun _ => 0)))] H := hP
  have hD : va_D A [(h0, .inr (8, [.null, .null, .null, .ref q8, .ref q17, .ref q24, .int 0])), (q8, .inl (cA, 144, .inl (fun _ => 0))), (q17, .inl (cA, 144, .inl (fun _ => 0))), (q24, .inl (cA, 4, .inl (fun _ => 0)))] := hD
  refine lv_aload_n hx hb dX5_init_29 rfl (lv_at hl 0 rfl) ?_
  refine lv_aload_n hx hb dX5_init_30 rfl (lv_at hl 1 rfl) ?_
  refine va_putF (D := D) (ci := 8) (v := .ref h1) (ty := .object "Genericwood$Order") (C := RX6) (T := TX6) (N := 7) hx hb hts gx_X6 tyX6 tyX6_ok nmX6 hown hK hP hD hS 0 rfl rfl 0 (by decide) (hts _ gv_136) (fun _ h9 => h9) rfl hin rfl (by decide +kernel) rfl rfl (Nat.le_of_ble_eq_true rfl) dX5_init_31 (fun H locs hP hD hS => ?_)
  have hP : va_P D vwCl [(h0, .inr (8, [.ref h1, .null, .null, .ref q8, .ref q17, .ref q24, .int 0])), (q8, .inl (cA, 144, .inl (fun _ => 0))), (q17, .inl (cA, 144, .inl (fun _ => 0))), (q24, .inl (cA, 4, .inl (fun _ => 0)))] H := hP
  have hD : va_D A [(h0, .inr (8, [.ref h1, .null, .null, .ref q8, .ref q17, .ref q24, .int 0])), (q8, .inl (cA, 144, .inl (fun _ => 0))), (q17, .inl (cA, 144, .inl (fun _ => 0))), (q24, .inl (cA, 4, .inl (fun _ => 0)))] := hD
  refine lv_aload_n hx hb dX5_init_34 rfl (lv_at hl 0 rfl) ?_
  refine lv_aload_n hx hb dX5_init_35 rfl (lv_at hl 2 rfl) ?_
  refine va_putF (D := D) (ci := 8) (v := .ref h2) (ty := .object "Genericwood$Names") (C := RX6) (T := TX6) (N := 7) hx hb hts gx_X6 tyX6 tyX6_ok nmX6 hown hK hP hD hS 0 rfl rfl 1 (by decide) (hts _ gv_143) (fun _ h9 => h9) rfl hin rfl (by decide +kernel) rfl rfl (Nat.le_of_ble_eq_true rfl) dX5_init_36 (fun H locs hP hD hS => ?_)
  have hP : va_P D vwCl [(h0, .inr (8, [.ref h1, .ref h2, .null, .ref q8, .ref q17, .ref q24, .int 0])), (q8, .inl (cA, 144, .inl (fun _ => 0))), (q17, .inl (cA, 144, .inl (fun _ => 0))), (q24, .inl (cA, 4, .inl (fun _ => 0)))] H := hP
  have hD : va_D A [(h0, .inr (8, [.ref h1, .ref h2, .null, .ref q8, .ref q17, .ref q24, .int 0])), (q8, .inl (cA, 144, .inl (fun _ => 0))), (q17, .inl (cA, 144, .inl (fun _ => 0))), (q24, .inl (cA, 4, .inl (fun _ => 0)))] := hD
  refine lv_aload_n hx hb dX5_init_39 rfl (lv_at hl 0 rfl) ?_
  refine lv_aload_n hx hb dX5_init_40 rfl (lv_at hl 3 rfl) ?_
  refine va_putF (D := D) (ci := 8) (v := .ref h3) (ty := .object "Genericwood$Formulas") (C := RX6) (T := TX6) (N := 7) hx hb hts gx_X6 tyX6 tyX6_ok nmX6 hown hK hP hD hS 0 rfl rfl 2 (by decide) (hts _ gv_144) (fun _ h9 => h9) rfl hin rfl (by decide +kernel) rfl rfl (Nat.le_of_ble_eq_true rfl) dX5_init_41 (fun H locs hP hD hS => ?_)
  have hP : va_P D vwCl [(h0, .inr (8, [.ref h1, .ref h2, .ref h3, .ref q8, .ref q17, .ref q24, .int 0])), (q8, .inl (cA, 144, .inl (fun _ => 0))), (q17, .inl (cA, 144, .inl (fun _ => 0))), (q24, .inl (cA, 4, .inl (fun _ => 0)))] H := hP
  have hD : va_D A [(h0, .inr (8, [.ref h1, .ref h2, .ref h3, .ref q8, .ref q17, .ref q24, .int 0])), (q8, .inl (cA, 144, .inl (fun _ => 0))), (q17, .inl (cA, 144, .inl (fun _ => 0))), (q24, .inl (cA, 4, .inl (fun _ => 0)))] := hD
  exact W.vret hx hb hr (fun t ht hW => ⟨⟨(), rfl, trivial, q8, q17, q24, by rw [ht]; exact hP, hD⟩, hS.F ht⟩) hS.2.2 dX5_init_44
set_option maxHeartbeats 4000000 in
set_option maxRecDepth 100000 in
theorem gi_X6_init (l : Launch) (D : va_G) (cA : ClassId) (h0 h1 h2 h3 : Nat) (sz : Nat) : Met l yX6_init (.code yX6_init cX6_init 4 none :: gw_L) { frames := 2, cells := 3, slots := 292, locals := 36 } (va_Pc [.ref h0, .ref h1, .ref h2, .ref h3] (gi_Pre D cA sz [(h0, .inr (8, [.null, .null, .null, .null, .null, .null, .int 0]))])) (va_Qv (fun (_ : Unit) => True) (fun _ t => ∃ r4_0 r4_1 r4_2 : Nat, va_P D vwCl [(h0, .inr (8, [.ref h1, .ref h2, .ref h3, .ref r4_0, .ref r4_1, .ref r4_2, .int 0])), (r4_0, .inl (cA, 144, .inl (fun _ => 0))), (r4_1, .inl (cA, 144, .inl (fun _ => 0))), (r4_2, .inl (cA, 4, .inl (fun _ => 0)))] t.heap ∧ va_D (va_A [(h0, .inr (8, [.null, .null, .null, .null, .null, .null, .int 0]))] sz) [(h0, .inr (8, [.ref h1, .ref h2, .ref h3, .ref r4_0, .ref r4_1, .ref r4_2, .int 0])), (r4_0, .inl (cA, 144, .inl (fun _ => 0))), (r4_1, .inl (cA, 144, .inl (fun _ => 0))), (r4_2, .inl (cA, 4, .inl (fun _ => 0)))]) (va_A [(h0, .inr (8, [.null, .null, .null, .null, .null, .null, .int 0]))] sz)) 3 292 (va_A [(h0, .inr (8, [.null, .null, .null, .null, .null, .null, .int 0]))] sz) := by
  refine Met.ofW (cc := cX6_init) (maxL := 4) (ret := none) (by decide +kernel) rfl ?_
  intro p e s m args below meth c s₁ B hml hv
  obtain ⟨rfl, hsz, hP, hK, hD0⟩ := hv
  have hx := B.exec
  have hb := B.bytes
  have hr := B.returns
  have hts0 := atoms_spec (ws := .code yX6_init cX6_init 4 none :: gw_L) B.pre
  have hts : ∀ w ∈ gw_L, w.before _ s = true := fun w hw => hts0 w (List.mem_cons_of_mem _ hw)
  have hown : s.vm.findClass RX6 = some m.cls := findClass_of_methodNamed B.named
  have hlocks := B.notSynchronized
  have hin : meth.name = "<init>" := (name_of_methodNamed B.named B.method).1
  subst hsz
  have hD := hD0.self (sz := s.heap.size)
  generalize hAe : va_A [(h0, .inr (8, [.null, .null, .null, .null, .null, .null, .int 0]))] s.heap.size = A at hD ⊢
  have hA : ∀ q : Nat, s.heap.size ≤ q → A q := fun q h => by rw [← hAe]; exact Or.inr h
  have hS : va_S A s.heap s.heap [] := va_S.rf
  have hP : va_P D vwCl [(h0, .inr (8, [.null, .null, .null, .null, .null, .null, .int 0]))] s.heap := hP
  have hl := lv_entry ([.ref h0, .ref h1, .ref h2, .ref h3]) (n := 4) (Nat.le_of_ble_eq_true rfl)
  rw [lg_entry_eq]
  generalize (lg_sl ([.ref h0, .ref h1, .ref h2, .ref h3]) ++ List.replicate (4 - (lg_sl ([.ref h0, .ref h1, .ref h2, .ref h3])).length) Slot.unset).toArray = ls at hl ⊢
  have hl : lv_has ls 4 [(0, .ref h0), (1, .ref h1), (2, .ref h2), (3, .ref h3)] := hl
  refine lv_aload_n hx hb dX6_init_0 rfl (lv_at hl 0 rfl) ?_
  refine lv_aload_n hx hb dX6_init_1 rfl (lv_at hl 1 rfl) ?_
  refine lv_aload_n hx hb dX6_init_2 rfl (lv_at hl 2 rfl) ?_
  refine lv_aload_n hx hb dX6_init_3 rfl (lv_at hl 3 rfl) ?_
  have hPc := hP.sub (ws' := [(h0, .inr (8, [.null, .null, .null, .null, .null, .null, .int 0]))]) [0] rfl
  have hDc := hD.sub (ws' := [(h0, .inr (8, [.null, .null, .null, .null, .null, .null, .int 0]))]) [0] (by decide) rfl
  have hFc := va_free (wc := [(h0, .inr (8, [.null, .null, .null, .null, .null, .null, .int 0]))]) hD hS hA [0] rfl
  refine va_callv (va_runI (As := [.ref h1, .ref h2, .ref h3]) (rest := []) ⟨hx, hb, hml, hown, hts⟩ (gi_X5_init_X6 l D cA h0 h1 h2 h3 s.heap.size) (gi_cw hts gk_X5_init gv_172 gv_133 (by decide +kernel) rfl rfl ⟨Nat.le_of_ble_eq_true rfl, Nat.le_of_ble_eq_true rfl⟩) ⟨gi_blind _ _ _ _ _, fun U hU hW => ⟨rfl, gi_pre hPc hK hDc U hU hW⟩⟩ rfl rfl hl.1 rfl (lv_room (Nat.le_of_ble_eq_true rfl)) dX6_init_4 ⟨Nat.le_of_ble_eq_true rfl, Nat.le_of_ble_eq_true rfl⟩) hS (fun q _ h => hFc q h) hFc (fun u t H1 locs ht hvm hw hB hz1 hk1 hS => ?_)
  obtain ⟨r4_0, r4_1, r4_2, hP1, hD1⟩ := hB
  rw [ht] at hP1
  obtain ⟨hP, hD⟩ := va_join (wr := []) (w1 := [(h0, .inr (8, [.ref h1, .ref h2, .ref h3, .ref r4_0, .ref r4_1, .ref r4_2, .int 0])), (r4_0, .inl (cA, 144, .inl (fun _ => 0))), (r4_1, .inl (cA, 144, .inl (fun _ => 0))), (r4_2, .inl (cA, 4, .inl (fun _ => 0)))]) hP hD [0] [] rfl rfl (by decide) (by decide) hk1 hFc hP1 hD1
  generalize H1 = H at hP hS ⊢
  have hP : va_P D vwCl [(h0, .inr (8, [.ref h1, .ref h2, .ref h3, .ref r4_0, .ref r4_1, .ref r4_2, .int 0])), (r4_0, .inl (cA, 144, .inl (fun _ => 0))), (r4_1, .inl (cA, 144, .inl (fun _ => 0))), (r4_2, .inl (cA, 4, .inl (fun _ => 0)))] H := hP
  have hD : va_D A [(h0, .inr (8, [.ref h1, .ref h2, .ref h3, .ref r4_0, .ref r4_1, .ref r4_2, .int 0])), (r4_0, .inl (cA, 144, .inl (fun _ => 0))), (r4_1, .inl (cA, 144, .inl (fun _ => 0))), (r4_2, .inl (cA, 4, .inl (fun _ => 0)))] := hD
  refine W.widen (k := 3) (n := 292) (Nat.le_of_ble_eq_true rfl) (Nat.le_of_ble_eq_true rfl) ?_
  exact W.vret hx hb hr (fun t ht hW => ⟨⟨(), rfl, trivial, r4_0, r4_1, r4_2, by rw [ht]; exact hP, hD⟩, hS.F ht⟩) hS.2.2 dX6_init_7
set_option maxHeartbeats 4000000 in
set_option maxRecDepth 100000 in
theorem gi_X6_init_X0 (l : Launch) (D : va_G) (cA : ClassId) (h0 h1 h2 h3 : Nat) (sz : Nat) : Met l yX6_init (.code yX6_init cX6_init 4 none :: gw_L) { frames := 2, cells := 3, slots := 292, locals := 36 } (va_Pc [.ref h0, .ref h1, .ref h2, .ref h3] (gi_Pre D cA sz [(h0, .inr (3, [.null, .null, .null, .null, .null, .null, .int 0]))])) (va_Qv (fun (_ : Unit) => True) (fun _ t => ∃ r4_0 r4_1 r4_2 : Nat, va_P D vwCl [(h0, .inr (3, [.ref h1, .ref h2, .ref h3, .ref r4_0, .ref r4_1, .ref r4_2, .int 0])), (r4_0, .inl (cA, 144, .inl (fun _ => 0))), (r4_1, .inl (cA, 144, .inl (fun _ => 0))), (r4_2, .inl (cA, 4, .inl (fun _ => 0)))] t.heap ∧ va_D (va_A [(h0, .inr (3, [.null, .null, .null, .null, .null, .null, .int 0]))] sz) [(h0, .inr (3, [.ref h1, .ref h2, .ref h3, .ref r4_0, .ref r4_1, .ref r4_2, .int 0])), (r4_0, .inl (cA, 144, .inl (fun _ => 0))), (r4_1, .inl (cA, 144, .inl (fun _ => 0))), (r4_2, .inl (cA, 4, .inl (fun _ => 0)))]) (va_A [(h0, .inr (3, [.null, .null, .null, .null, .null, .null, .int 0]))] sz)) 3 292 (va_A [(h0, .inr (3, [.null, .null, .null, .null, .null, .null, .int 0]))] sz) := by
  refine Met.ofW (cc := cX6_init) (maxL := 4) (ret := none) (by decide +kernel) rfl ?_
  intro p e s m args below meth c s₁ B hml hv
  obtain ⟨rfl, hsz, hP, hK, hD0⟩ := hv
  have hx := B.exec
  have hb := B.bytes
  have hr := B.returns
  have hts0 := atoms_spec (ws := .code yX6_init cX6_init 4 none :: gw_L) B.pre
  have hts : ∀ w ∈ gw_L, w.before _ s = true := fun w hw => hts0 w (List.mem_cons_of_mem _ hw)
  have hown : s.vm.findClass RX6 = some m.cls := findClass_of_methodNamed B.named
  have hlocks := B.notSynchronized
  have hin : meth.name = "<init>" := (name_of_methodNamed B.named B.method).1
  subst hsz
  have hD := hD0.self (sz := s.heap.size)
  generalize hAe : va_A [(h0, .inr (3, [.null, .null, .null, .null, .null, .null, .int 0]))] s.heap.size = A at hD ⊢
  have hA : ∀ q : Nat, s.heap.size ≤ q → A q := fun q h => by rw [← hAe]; exact Or.inr h
  have hS : va_S A s.heap s.heap [] := va_S.rf
  have hP : va_P D vwCl [(h0, .inr (3, [.null, .null, .null, .null, .null, .null, .int 0]))] s.heap := hP
  have hl := lv_entry ([.ref h0, .ref h1, .ref h2, .ref h3]) (n := 4) (Nat.le_of_ble_eq_true rfl)
  rw [lg_entry_eq]
  generalize (lg_sl ([.ref h0, .ref h1, .ref h2, .ref h3]) ++ List.replicate (4 - (lg_sl ([.ref h0, .ref h1, .ref h2, .ref h3])).length) Slot.unset).toArray = ls at hl ⊢
  have hl : lv_has ls 4 [(0, .ref h0), (1, .ref h1), (2, .ref h2), (3, .ref h3)] := hl
  refine lv_aload_n hx hb dX6_init_0 rfl (lv_at hl 0 rfl) ?_
  refine lv_aload_n hx hb dX6_init_1 rfl (lv_at hl 1 rfl) ?_
  refine lv_aload_n hx hb dX6_init_2 rfl (lv_at hl 2 rfl) ?_
  refine lv_aload_n hx hb dX6_init_3 rfl (lv_at hl 3 rfl) ?_
  have hPc := hP.sub (ws' := [(h0, .inr (3, [.null, .null, .null, .null, .null, .null, .int 0]))]) [0] rfl
  have hDc := hD.sub (ws' := [(h0, .inr (3, [.null, .null, .null, .null, .null, .null, .int 0]))]) [0] (by decide) rfl
  have hFc := va_free (wc := [(h0, .inr (3, [.null, .null, .null, .null, .null, .null, .int 0]))]) hD hS hA [0] rfl
  refine va_callv (va_runI (As := [.ref h1, .ref h2, .ref h3]) (rest := []) ⟨hx, hb, hml, hown, hts⟩ (gi_X5_init_X0 l D cA h0 h1 h2 h3 s.heap.size) (gi_cw hts gk_X5_init gv_172 gv_133 (by decide +kernel) rfl rfl ⟨Nat.le_of_ble_eq_true rfl, Nat.le_of_ble_eq_true rfl⟩) ⟨gi_blind _ _ _ _ _, fun U hU hW => ⟨rfl, gi_pre hPc hK hDc U hU hW⟩⟩ rfl rfl hl.1 rfl (lv_room (Nat.le_of_ble_eq_true rfl)) dX6_init_4 ⟨Nat.le_of_ble_eq_true rfl, Nat.le_of_ble_eq_true rfl⟩) hS (fun q _ h => hFc q h) hFc (fun u t H1 locs ht hvm hw hB hz1 hk1 hS => ?_)
  obtain ⟨r4_0, r4_1, r4_2, hP1, hD1⟩ := hB
  rw [ht] at hP1
  obtain ⟨hP, hD⟩ := va_join (wr := []) (w1 := [(h0, .inr (3, [.ref h1, .ref h2, .ref h3, .ref r4_0, .ref r4_1, .ref r4_2, .int 0])), (r4_0, .inl (cA, 144, .inl (fun _ => 0))), (r4_1, .inl (cA, 144, .inl (fun _ => 0))), (r4_2, .inl (cA, 4, .inl (fun _ => 0)))]) hP hD [0] [] rfl rfl (by decide) (by decide) hk1 hFc hP1 hD1
  generalize H1 = H at hP hS ⊢
  have hP : va_P D vwCl [(h0, .inr (3, [.ref h1, .ref h2, .ref h3, .ref r4_0, .ref r4_1, .ref r4_2, .int 0])), (r4_0, .inl (cA, 144, .inl (fun _ => 0))), (r4_1, .inl (cA, 144, .inl (fun _ => 0))), (r4_2, .inl (cA, 4, .inl (fun _ => 0)))] H := hP
  have hD : va_D A [(h0, .inr (3, [.ref h1, .ref h2, .ref h3, .ref r4_0, .ref r4_1, .ref r4_2, .int 0])), (r4_0, .inl (cA, 144, .inl (fun _ => 0))), (r4_1, .inl (cA, 144, .inl (fun _ => 0))), (r4_2, .inl (cA, 4, .inl (fun _ => 0)))] := hD
  refine W.widen (k := 3) (n := 292) (Nat.le_of_ble_eq_true rfl) (Nat.le_of_ble_eq_true rfl) ?_
  exact W.vret hx hb hr (fun t ht hW => ⟨⟨(), rfl, trivial, r4_0, r4_1, r4_2, by rw [ht]; exact hP, hD⟩, hS.F ht⟩) hS.2.2 dX6_init_7
set_option maxHeartbeats 4000000 in
set_option maxRecDepth 100000 in
theorem gi_X4_init (l : Launch) (D : va_G) (cA : ClassId) (h0 h1 h2 h3 : Nat) (sz : Nat) : Met l yX4_init (.code yX4_init cX4_init 4 none :: gw_L) { frames := 2, cells := 3, slots := 292, locals := 36 } (va_Pc [.ref h0, .ref h1, .ref h2, .ref h3] (gi_Pre D cA sz [(h0, .inr (7, [.null, .null, .null, .null, .null, .null, .int 0]))])) (va_Qv (fun (_ : Unit) => True) (fun _ t => ∃ r4_0 r4_1 r4_2 : Nat, va_P D vwCl [(h0, .inr (7, [.ref h1, .ref h2, .ref h3, .ref r4_0, .ref r4_1, .ref r4_2, .int 0])), (r4_0, .inl (cA, 144, .inl (fun _ => 0))), (r4_1, .inl (cA, 144, .inl (fun _ => 0))), (r4_2, .inl (cA, 4, .inl (fun _ => 0)))] t.heap ∧ va_D (va_A [(h0, .inr (7, [.null, .null, .null, .null, .null, .null, .int 0]))] sz) [(h0, .inr (7, [.ref h1, .ref h2, .ref h3, .ref r4_0, .ref r4_1, .ref r4_2, .int 0])), (r4_0, .inl (cA, 144, .inl (fun _ => 0))), (r4_1, .inl (cA, 144, .inl (fun _ => 0))), (r4_2, .inl (cA, 4, .inl (fun _ => 0)))]) (va_A [(h0, .inr (7, [.null, .null, .null, .null, .null, .null, .int 0]))] sz)) 3 292 (va_A [(h0, .inr (7, [.null, .null, .null, .null, .null, .null, .int 0]))] sz) := by
  refine Met.ofW (cc := cX4_init) (maxL := 4) (ret := none) (by decide +kernel) rfl ?_
  intro p e s m args below meth c s₁ B hml hv
  obtain ⟨rfl, hsz, hP, hK, hD0⟩ := hv
  have hx := B.exec
  have hb := B.bytes
  have hr := B.returns
  have hts0 := atoms_spec (ws := .code yX4_init cX4_init 4 none :: gw_L) B.pre
  have hts : ∀ w ∈ gw_L, w.before _ s = true := fun w hw => hts0 w (List.mem_cons_of_mem _ hw)
  have hown : s.vm.findClass RX4 = some m.cls := findClass_of_methodNamed B.named
  have hlocks := B.notSynchronized
  have hin : meth.name = "<init>" := (name_of_methodNamed B.named B.method).1
  subst hsz
  have hD := hD0.self (sz := s.heap.size)
  generalize hAe : va_A [(h0, .inr (7, [.null, .null, .null, .null, .null, .null, .int 0]))] s.heap.size = A at hD ⊢
  have hA : ∀ q : Nat, s.heap.size ≤ q → A q := fun q h => by rw [← hAe]; exact Or.inr h
  have hS : va_S A s.heap s.heap [] := va_S.rf
  have hP : va_P D vwCl [(h0, .inr (7, [.null, .null, .null, .null, .null, .null, .int 0]))] s.heap := hP
  have hl := lv_entry ([.ref h0, .ref h1, .ref h2, .ref h3]) (n := 4) (Nat.le_of_ble_eq_true rfl)
  rw [lg_entry_eq]
  generalize (lg_sl ([.ref h0, .ref h1, .ref h2, .ref h3]) ++ List.replicate (4 - (lg_sl ([.ref h0, .ref h1, .ref h2, .ref h3])).length) Slot.unset).toArray = ls at hl ⊢
  have hl : lv_has ls 4 [(0, .ref h0), (1, .ref h1), (2, .ref h2), (3, .ref h3)] := hl
  refine lv_aload_n hx hb dX4_init_0 rfl (lv_at hl 0 rfl) ?_
  refine lv_aload_n hx hb dX4_init_1 rfl (lv_at hl 1 rfl) ?_
  refine lv_aload_n hx hb dX4_init_2 rfl (lv_at hl 2 rfl) ?_
  refine lv_aload_n hx hb dX4_init_3 rfl (lv_at hl 3 rfl) ?_
  have hPc := hP.sub (ws' := [(h0, .inr (7, [.null, .null, .null, .null, .null, .null, .int 0]))]) [0] rfl
  have hDc := hD.sub (ws' := [(h0, .inr (7, [.null, .null, .null, .null, .null, .null, .int 0]))]) [0] (by decide) rfl
  have hFc := va_free (wc := [(h0, .inr (7, [.null, .null, .null, .null, .null, .null, .int 0]))]) hD hS hA [0] rfl
  refine va_callv (va_runI (As := [.ref h1, .ref h2, .ref h3]) (rest := []) ⟨hx, hb, hml, hown, hts⟩ (gi_X5_init_X4 l D cA h0 h1 h2 h3 s.heap.size) (gi_cw hts gk_X5_init gv_132 gv_133 (by decide +kernel) rfl rfl ⟨Nat.le_of_ble_eq_true rfl, Nat.le_of_ble_eq_true rfl⟩) ⟨gi_blind _ _ _ _ _, fun U hU hW => ⟨rfl, gi_pre hPc hK hDc U hU hW⟩⟩ rfl rfl hl.1 rfl (lv_room (Nat.le_of_ble_eq_true rfl)) dX4_init_4 ⟨Nat.le_of_ble_eq_true rfl, Nat.le_of_ble_eq_true rfl⟩) hS (fun q _ h => hFc q h) hFc (fun u t H1 locs ht hvm hw hB hz1 hk1 hS => ?_)
  obtain ⟨r4_0, r4_1, r4_2, hP1, hD1⟩ := hB
  rw [ht] at hP1
  obtain ⟨hP, hD⟩ := va_join (wr := []) (w1 := [(h0, .inr (7, [.ref h1, .ref h2, .ref h3, .ref r4_0, .ref r4_1, .ref r4_2, .int 0])), (r4_0, .inl (cA, 144, .inl (fun _ => 0))), (r4_1, .inl (cA, 144, .inl (fun _ => 0))), (r4_2, .inl (cA, 4, .inl (fun _ => 0)))]) hP hD [0] [] rfl rfl (by decide) (by decide) hk1 hFc hP1 hD1
  generalize H1 = H at hP hS ⊢
  have hP : va_P D vwCl [(h0, .inr (7, [.ref h1, .ref h2, .ref h3, .ref r4_0, .ref r4_1, .ref r4_2, .int 0])), (r4_0, .inl (cA, 144, .inl (fun _ => 0))), (r4_1, .inl (cA, 144, .inl (fun _ => 0))), (r4_2, .inl (cA, 4, .inl (fun _ => 0)))] H := hP
  have hD : va_D A [(h0, .inr (7, [.ref h1, .ref h2, .ref h3, .ref r4_0, .ref r4_1, .ref r4_2, .int 0])), (r4_0, .inl (cA, 144, .inl (fun _ => 0))), (r4_1, .inl (cA, 144, .inl (fun _ => 0))), (r4_2, .inl (cA, 4, .inl (fun _ => 0)))] := hD
  refine W.widen (k := 3) (n := 292) (Nat.le_of_ble_eq_true rfl) (Nat.le_of_ble_eq_true rfl) ?_
  exact W.vret hx hb hr (fun t ht hW => ⟨⟨(), rfl, trivial, r4_0, r4_1, r4_2, by rw [ht]; exact hP, hD⟩, hS.F ht⟩) hS.2.2 dX4_init_7
set_option maxHeartbeats 4000000 in
set_option maxRecDepth 100000 in
theorem gi_X0_init (l : Launch) (D : va_G) (cA : ClassId) (h0 h1 h2 h3 : Nat) (sz : Nat) : Met l yX0_init (.code yX0_init cX0_init 4 none :: gw_L) { frames := 3, cells := 3, slots := 292, locals := 59 } (va_Pc [.ref h0, .ref h1, .ref h2, .ref h3] (gi_Pre D cA sz [(h0, .inr (3, [.null, .null, .null, .null, .null, .null, .int 0]))])) (va_Qv (fun (_ : Unit) => True) (fun _ t => ∃ r4_0 r4_1 r4_2 : Nat, va_P D vwCl [(h0, .inr (3, [.ref h1, .ref h2, .ref h3, .ref r4_0, .ref r4_1, .ref r4_2, .int 0])), (r4_0, .inl (cA, 144, .inl (fun _ => 0))), (r4_1, .inl (cA, 144, .inl (fun _ => 0))), (r4_2, .inl (cA, 4, .inl (fun _ => 0)))] t.heap ∧ va_D (va_A [(h0, .inr (3, [.null, .null, .null, .null, .null, .null, .int 0]))] sz) [(h0, .inr (3, [.ref h1, .ref h2, .ref h3, .ref r4_0, .ref r4_1, .ref r4_2, .int 0])), (r4_0, .inl (cA, 144, .inl (fun _ => 0))), (r4_1, .inl (cA, 144, .inl (fun _ => 0))), (r4_2, .inl (cA, 4, .inl (fun _ => 0)))]) (va_A [(h0, .inr (3, [.null, .null, .null, .null, .null, .null, .int 0]))] sz)) 3 292 (va_A [(h0, .inr (3, [.null, .null, .null, .null, .null, .null, .int 0]))] sz) := by
  refine Met.ofW (cc := cX0_init) (maxL := 4) (ret := none) (by decide +kernel) rfl ?_
  intro p e s m args below meth c s₁ B hml hv
  obtain ⟨rfl, hsz, hP, hK, hD0⟩ := hv
  have hx := B.exec
  have hb := B.bytes
  have hr := B.returns
  have hts0 := atoms_spec (ws := .code yX0_init cX0_init 4 none :: gw_L) B.pre
  have hts : ∀ w ∈ gw_L, w.before _ s = true := fun w hw => hts0 w (List.mem_cons_of_mem _ hw)
  have hown : s.vm.findClass RX0 = some m.cls := findClass_of_methodNamed B.named
  have hlocks := B.notSynchronized
  have hin : meth.name = "<init>" := (name_of_methodNamed B.named B.method).1
  subst hsz
  have hD := hD0.self (sz := s.heap.size)
  generalize hAe : va_A [(h0, .inr (3, [.null, .null, .null, .null, .null, .null, .int 0]))] s.heap.size = A at hD ⊢
  have hA : ∀ q : Nat, s.heap.size ≤ q → A q := fun q h => by rw [← hAe]; exact Or.inr h
  have hS : va_S A s.heap s.heap [] := va_S.rf
  have hP : va_P D vwCl [(h0, .inr (3, [.null, .null, .null, .null, .null, .null, .int 0]))] s.heap := hP
  have hl := lv_entry ([.ref h0, .ref h1, .ref h2, .ref h3]) (n := 4) (Nat.le_of_ble_eq_true rfl)
  rw [lg_entry_eq]
  generalize (lg_sl ([.ref h0, .ref h1, .ref h2, .ref h3]) ++ List.replicate (4 - (lg_sl ([.ref h0, .ref h1, .ref h2, .ref h3])).length) Slot.unset).toArray = ls at hl ⊢
  have hl : lv_has ls 4 [(0, .ref h0), (1, .ref h1), (2, .ref h2), (3, .ref h3)] := hl
  refine lv_aload_n hx hb dX0_init_0 rfl (lv_at hl 0 rfl) ?_
  refine lv_aload_n hx hb dX0_init_1 rfl (lv_at hl 1 rfl) ?_
  refine lv_aload_n hx hb dX0_init_2 rfl (lv_at hl 2 rfl) ?_
  refine lv_aload_n hx hb dX0_init_3 rfl (lv_at hl 3 rfl) ?_
  have hPc := hP.sub (ws' := [(h0, .inr (3, [.null, .null, .null, .null, .null, .null, .int 0]))]) [0] rfl
  have hDc := hD.sub (ws' := [(h0, .inr (3, [.null, .null, .null, .null, .null, .null, .int 0]))]) [0] (by decide) rfl
  have hFc := va_free (wc := [(h0, .inr (3, [.null, .null, .null, .null, .null, .null, .int 0]))]) hD hS hA [0] rfl
  refine va_callv (va_runI (As := [.ref h1, .ref h2, .ref h3]) (rest := []) ⟨hx, hb, hml, hown, hts⟩ (gi_X6_init_X0 l D cA h0 h1 h2 h3 s.heap.size) (gi_cw hts gk_X6_init gv_169 gv_170 (by decide +kernel) rfl rfl ⟨Nat.le_of_ble_eq_true rfl, Nat.le_of_ble_eq_true rfl⟩) ⟨gi_blind _ _ _ _ _, fun U hU hW => ⟨rfl, gi_pre hPc hK hDc U hU hW⟩⟩ rfl rfl hl.1 rfl (lv_room (Nat.le_of_ble_eq_true rfl)) dX0_init_4 ⟨Nat.le_of_ble_eq_true rfl, Nat.le_of_ble_eq_true rfl⟩) hS (fun q _ h => hFc q h) hFc (fun u t H1 locs ht hvm hw hB hz1 hk1 hS => ?_)
  obtain ⟨r4_0, r4_1, r4_2, hP1, hD1⟩ := hB
  rw [ht] at hP1
  obtain ⟨hP, hD⟩ := va_join (wr := []) (w1 := [(h0, .inr (3, [.ref h1, .ref h2, .ref h3, .ref r4_0, .ref r4_1, .ref r4_2, .int 0])), (r4_0, .inl (cA, 144, .inl (fun _ => 0))), (r4_1, .inl (cA, 144, .inl (fun _ => 0))), (r4_2, .inl (cA, 4, .inl (fun _ => 0)))]) hP hD [0] [] rfl rfl (by decide) (by decide) hk1 hFc hP1 hD1
  generalize H1 = H at hP hS ⊢
  have hP : va_P D vwCl [(h0, .inr (3, [.ref h1, .ref h2, .ref h3, .ref r4_0, .ref r4_1, .ref r4_2, .int 0])), (r4_0, .inl (cA, 144, .inl (fun _ => 0))), (r4_1, .inl (cA, 144, .inl (fun _ => 0))), (r4_2, .inl (cA, 4, .inl (fun _ => 0)))] H := hP
  have hD : va_D A [(h0, .inr (3, [.ref h1, .ref h2, .ref h3, .ref r4_0, .ref r4_1, .ref r4_2, .int 0])), (r4_0, .inl (cA, 144, .inl (fun _ => 0))), (r4_1, .inl (cA, 144, .inl (fun _ => 0))), (r4_2, .inl (cA, 4, .inl (fun _ => 0)))] := hD
  refine W.widen (k := 3) (n := 292) (Nat.le_of_ble_eq_true rfl) (Nat.le_of_ble_eq_true rfl) ?_
  exact W.vret hx hb hr (fun t ht hW => ⟨⟨(), rfl, trivial, r4_0, r4_1, r4_2, by rw [ht]; exact hP, hD⟩, hS.F ht⟩) hS.2.2 dX0_init_7
set_option maxHeartbeats 4000000 in
set_option maxRecDepth 100000 in
theorem gi_X7_init (l : Launch) (D : va_G) (cA : ClassId) (h0 h1 h2 h3 : Nat) (sz : Nat) : Met l yX7_init (.code yX7_init cX7_init 4 none :: gw_L) { frames := 1, cells := 2, slots := 16, locals := 13 } (va_Pc [.ref h0, .ref h1, .ref h2, .ref h3] (gi_Pre D cA sz [(h0, .inr (9, [.null, .null, .null, .null, .null]))])) (va_Qv (fun (_ : Unit) => True) (fun _ t => ∃ q7 q14 : Nat, va_P D vwCl [(h0, .inr (9, [.ref h1, .ref h2, .ref h3, .ref q7, .ref q14])), (q7, .inl (cA, 12, .inl (fun _ => 0))), (q14, .inl (cA, 4, .inl (fun _ => 0)))] t.heap ∧ va_D (va_A [(h0, .inr (9, [.null, .null, .null, .null, .null]))] sz) [(h0, .inr (9, [.ref h1, .ref h2, .ref h3, .ref q7, .ref q14])), (q7, .inl (cA, 12, .inl (fun _ => 0))), (q14, .inl (cA, 4, .inl (fun _ => 0)))]) (va_A [(h0, .inr (9, [.null, .null, .null, .null, .null]))] sz)) 2 16 (va_A [(h0, .inr (9, [.null, .null, .null, .null, .null]))] sz) := by
  refine Met.ofW (cc := cX7_init) (maxL := 4) (ret := none) (by decide +kernel) rfl ?_
  intro p e s m args below meth c s₁ B hml hv
  obtain ⟨rfl, hsz, hP, hK, hD0⟩ := hv
  have hx := B.exec
  have hb := B.bytes
  have hr := B.returns
  have hts0 := atoms_spec (ws := .code yX7_init cX7_init 4 none :: gw_L) B.pre
  have hts : ∀ w ∈ gw_L, w.before _ s = true := fun w hw => hts0 w (List.mem_cons_of_mem _ hw)
  have hown : s.vm.findClass RX7 = some m.cls := findClass_of_methodNamed B.named
  have hlocks := B.notSynchronized
  have hin : meth.name = "<init>" := (name_of_methodNamed B.named B.method).1
  subst hsz
  have hD := hD0.self (sz := s.heap.size)
  generalize hAe : va_A [(h0, .inr (9, [.null, .null, .null, .null, .null]))] s.heap.size = A at hD ⊢
  have hA : ∀ q : Nat, s.heap.size ≤ q → A q := fun q h => by rw [← hAe]; exact Or.inr h
  have hS : va_S A s.heap s.heap [] := va_S.rf
  have hP : va_P D vwCl [(h0, .inr (9, [.null, .null, .null, .null, .null]))] s.heap := hP
  have hl := lv_entry ([.ref h0, .ref h1, .ref h2, .ref h3]) (n := 4) (Nat.le_of_ble_eq_true rfl)
  rw [lg_entry_eq]
  generalize (lg_sl ([.ref h0, .ref h1, .ref h2, .ref h3]) ++ List.replicate (4 - (lg_sl ([.ref h0, .ref h1, .ref h2, .ref h3])).length) Slot.unset).toArray = ls at hl ⊢
  have hl : lv_has ls 4 [(0, .ref h0), (1, .ref h1), (2, .ref h2), (3, .ref h3)] := hl
  refine lv_aload_n hx hb dX7_init_0 rfl (lv_at hl 0 rfl) ?_
  refine W.objInit hx hb hown (hts _ gv_197) (hts _ gi_o1) (hts _ gi_o2) rfl (by rw [hml]; exact hl.1) rfl dX7_init_1 (Nat.le_of_ble_eq_true rfl) (Nat.le_of_ble_eq_true rfl) ?_
  refine W.eq (g2 := F0 m 4 ls []) rfl ?_
  refine lv_aload_n hx hb dX7_init_4 rfl (lv_at hl 0 rfl) ?_
  refine lv_bipush (v := 12) hx hb dX7_init_5 (by decide) ?_
  refine gi_new (N := 12) hx hb (hts _ gi_int) hK hP hD hS hA (by decide) (by decide) (Nat.le_of_ble_eq_true rfl) (Nat.le_of_ble_eq_true rfl) (Nat.le_of_ble_eq_true rfl) dX7_init_7 (fun q7 H hP hD hS => ?_)
  have hP : va_P D vwCl [(h0, .inr (9, [.null, .null, .null, .null, .null])), (q7, .inl (cA, 12, .inl (fun _ => 0)))] H := hP
  have hD : va_D A [(h0, .inr (9, [.null, .null, .null, .null, .null])), (q7, .inl (cA, 12, .inl (fun _ => 0)))] := hD
  refine W.widen (k := 1) (n := 12) (Nat.le_of_ble_eq_true rfl) (Nat.le_of_ble_eq_true rfl) ?_
  refine va_putF (D := D) (ci := 9) (v := .ref q7) (ty := .array .int) (C := RX7) (T := TX7) (N := 5) hx hb hts gx_X7 tyX7 tyX7_ok nmX7 hown hK hP hD hS 0 rfl rfl 3 (by decide) (hts _ gv_201) (fun _ h9 => h9) rfl hin rfl (by decide +kernel) rfl rfl (Nat.le_of_ble_eq_true rfl) dX7_init_9 (fun H locs hP hD hS => ?_)
  have hP : va_P D vwCl [(h0, .inr (9, [.null, .null, .null, .ref q7, .null])), (q7, .inl (cA, 12, .inl (fun _ => 0)))] H := hP
  have hD : va_D A [(h0, .inr (9, [.null, .null, .null, .ref q7, .null])), (q7, .inl (cA, 12, .inl (fun _ => 0)))] := hD
  refine lv_aload_n hx hb dX7_init_12 rfl (lv_at hl 0 rfl) ?_
  refine lv_iconst (v := 4) hx hb dX7_init_13 (by decide) ?_
  refine gi_new (N := 4) hx hb (hts _ gi_int) hK hP hD hS hA (by decide) (by decide) (Nat.le_of_ble_eq_true rfl) (Nat.le_of_ble_eq_true rfl) (Nat.le_of_ble_eq_true rfl) dX7_init_14 (fun q14 H hP hD hS => ?_)
  have hP : va_P D vwCl [(h0, .inr (9, [.null, .null, .null, .ref q7, .null])), (q7, .inl (cA, 12, .inl (fun _ => 0))), (q14, .inl (cA, 4, .inl (fun _ => 0)))] H := hP
  have hD : va_D A [(h0, .inr (9, [.null, .null, .null, .ref q7, .null])), (q7, .inl (cA, 12, .inl (fun _ => 0))), (q14, .inl (cA, 4, .inl (fun _ => 0)))] := hD
  refine W.widen (k := 2) (n := 16) (Nat.le_of_ble_eq_true rfl) (Nat.le_of_ble_eq_true rfl) ?_
  refine va_putF (D := D) (ci := 9) (v := .ref q14) (ty := .array .int) (C := RX7) (T := TX7) (N := 5) hx hb hts gx_X7 tyX7 tyX7_ok nmX7 hown hK hP hD hS 0 rfl rfl 4 (by decide) (hts _ gv_202) (fun _ h9 => h9) rfl hin rfl (by decide +kernel) rfl rfl (Nat.le_of_ble_eq_true rfl) dX7_init_16 (fun H locs hP hD hS => ?_)
  have hP : va_P D vwCl [(h0, .inr (9, [.null, .null, .null, .ref q7, .ref q14])), (q7, .inl (cA, 12, .inl (fun _ => 0))), (q14, .inl (cA, 4, .inl (fun _ => 0)))] H := hP
  have hD : va_D A [(h0, .inr (9, [.null, .null, .null, .ref q7, .ref q14])), (q7, .inl (cA, 12, .inl (fun _ => 0))), (q14, .inl (cA, 4, .inl (fun _ => 0)))] := hD
  refine lv_aload_n hx hb dX7_init_19 rfl (lv_at hl 0 rfl) ?_
  refine lv_aload_n hx hb dX7_init_20 rfl (lv_at hl 1 rfl) ?_
  refine va_putF (D := D) (ci := 9) (v := .ref h1) (ty := .object "Genericwood$Order") (C := RX7) (T := TX7) (N := 5) hx hb hts gx_X7 tyX7 tyX7_ok nmX7 hown hK hP hD hS 0 rfl rfl 0 (by decide) (hts _ gv_198) (fun _ h9 => h9) rfl hin rfl (by decide +kernel) rfl rfl (Nat.le_of_ble_eq_true rfl) dX7_init_21 (fun H locs hP hD hS => ?_)
  have hP : va_P D vwCl [(h0, .inr (9, [.ref h1, .null, .null, .ref q7, .ref q14])), (q7, .inl (cA, 12, .inl (fun _ => 0))), (q14, .inl (cA, 4, .inl (fun _ => 0)))] H := hP
  have hD : va_D A [(h0, .inr (9, [.ref h1, .null, .null, .ref q7, .ref q14])), (q7, .inl (cA, 12, .inl (fun _ => 0))), (q14, .inl (cA, 4, .inl (fun _ => 0)))] := hD
  refine lv_aload_n hx hb dX7_init_24 rfl (lv_at hl 0 rfl) ?_
  refine lv_aload_n hx hb dX7_init_25 rfl (lv_at hl 2 rfl) ?_
  refine va_putF (D := D) (ci := 9) (v := .ref h2) (ty := .object "Genericwood$Names") (C := RX7) (T := TX7) (N := 5) hx hb hts gx_X7 tyX7 tyX7_ok nmX7 hown hK hP hD hS 0 rfl rfl 1 (by decide) (hts _ gv_199) (fun _ h9 => h9) rfl hin rfl (by decide +kernel) rfl rfl (Nat.le_of_ble_eq_true rfl) dX7_init_26 (fun H locs hP hD hS => ?_)
  have hP : va_P D vwCl [(h0, .inr (9, [.ref h1, .ref h2, .null, .ref q7, .ref q14])), (q7, .inl (cA, 12, .inl (fun _ => 0))), (q14, .inl (cA, 4, .inl (fun _ => 0)))] H := hP
  have hD : va_D A [(h0, .inr (9, [.ref h1, .ref h2, .null, .ref q7, .ref q14])), (q7, .inl (cA, 12, .inl (fun _ => 0))), (q14, .inl (cA, 4, .inl (fun _ => 0)))] := hD
  refine lv_aload_n hx hb dX7_init_29 rfl (lv_at hl 0 rfl) ?_
  refine lv_aload_n hx hb dX7_init_30 rfl (lv_at hl 3 rfl) ?_
  refine va_putF (D := D) (ci := 9) (v := .ref h3) (ty := .object "Genericwood$Formulas") (C := RX7) (T := TX7) (N := 5) hx hb hts gx_X7 tyX7 tyX7_ok nmX7 hown hK hP hD hS 0 rfl rfl 2 (by decide) (hts _ gv_200) (fun _ h9 => h9) rfl hin rfl (by decide +kernel) rfl rfl (Nat.le_of_ble_eq_true rfl) dX7_init_31 (fun H locs hP hD hS => ?_)
  have hP : va_P D vwCl [(h0, .inr (9, [.ref h1, .ref h2, .ref h3, .ref q7, .ref q14])), (q7, .inl (cA, 12, .inl (fun _ => 0))), (q14, .inl (cA, 4, .inl (fun _ => 0)))] H := hP
  have hD : va_D A [(h0, .inr (9, [.ref h1, .ref h2, .ref h3, .ref q7, .ref q14])), (q7, .inl (cA, 12, .inl (fun _ => 0))), (q14, .inl (cA, 4, .inl (fun _ => 0)))] := hD
  exact W.vret hx hb hr (fun t ht hW => ⟨⟨(), rfl, trivial, q7, q14, by rw [ht]; exact hP, hD⟩, hS.F ht⟩) hS.2.2 dX7_init_34
set_option maxHeartbeats 4000000 in
set_option maxRecDepth 100000 in
theorem gi_X8_init (l : Launch) (D : va_G) (cA : ClassId) (h0 : Nat) (sz : Nat) : Met l yX8_init (.code yX8_init cX8_init 4 none :: gw_L) { frames := 4, cells := 32, slots := 1153, locals := 82 } (va_Pc [.ref h0] (gi_Pre D cA sz [(h0, .inr (10, [.null, .null, .null, .null, .null, .null, .null]))])) (va_Qv (fun (_ : Unit) => True) (fun _ t => ∃ q4 r8_0 r8_1 q12 r17_0 r17_1 r17_2 r17_3 r17_4 r17_5 q21 r25_0 r25_1 r25_2 r25_3 r25_4 r25_5 q45 r52_0 r52_1 r52_2 q59 r66_0 r66_1 r66_2 q73 r80_0 r80_1 r80_2 q87 r94_0 r94_1 : Nat, va_P D vwCl [(h0, .inr (10, [.ref q4, .ref q12, .ref q21, .ref q45, .ref q59, .ref q73, .ref q87])), (q4, .inr (6, [.int 0, .int 0, .int 0, .ref r8_0, .ref r8_1])), (r8_0, .inl (cA, 7, .inl (fun _ => 0))), (r8_1, .inl (cA, 7, .inl (fun _ => 0))), (q12, .inr (5, [.ref q4, .int 0, .int 0, .ref r17_0, .ref r17_1, .ref r17_2, .ref r17_3, .ref r17_4, .ref r17_5])), (r17_0, .inl (cA, 12, .inl (fun _ => 0))), (r17_1, .inl (cA, 48, .inl (fun _ => 0))), (r17_2, .inl (cA, 12, .inl (fun _ => 0))), (r17_3, .inl (cA, 12, .inl (fun _ => 0))), (r17_4, .inl (cA, 4, .inl (fun _ => 0))), (r17_5, .inl (cA, 16, .inl (fun _ => 0))), (q21, .inr (4, [.int 0, .ref r25_0, .ref r25_1, .ref r25_2, .ref r25_3, .ref r25_4, .ref r25_5])), (r25_0, .inl (cA, 16, .inl (fun _ => 0))), (r25_1, .inl (cA, 16, .inl (fun _ => 0))), (r25_2, .inl (cA, 16, .inl (fun _ => 0))), (r25_3, .inl (cA, 16, .inl (fun _ => 0))), (r25_4, .inl (cA, 16, .inl (fun _ => 0))), (r25_5, .inl (cA, 16, .inl (fun _ => 0))), (q45, .inr (7, [.ref q4, .ref q12, .ref q21, .ref r52_0, .ref r52_1, .ref r52_2, .int 0])), (r52_0, .inl (cA, 144, .inl (fun _ => 0))), (r52_1, .inl (cA, 144, .inl (fun _ => 0))), (r52_2, .inl (cA, 4, .inl (fun _ => 0))), (q59, .inr (3, [.ref q4, .ref q12, .ref q21, .ref r66_0, .ref r66_1, .ref r66_2, .int 0])), (r66_0, .inl (cA, 144, .inl (fun _ => 0))), (r66_1, .inl (cA, 144, .inl (fun _ => 0))), (r66_2, .inl (cA, 4, .inl (fun _ => 0))), (q73, .inr (8, [.ref q4, .ref q12, .ref q21, .ref r80_0, .ref r80_1, .ref r80_2, .int 0])), (r80_0, .inl (cA, 144, .inl (fun _ => 0))), (r80_1, .inl (cA, 144, .inl (fun _ => 0))), (r80_2, .inl (cA, 4, .inl (fun _ => 0))), (q87, .inr (9, [.ref q4, .ref q12, .ref q21, .ref r94_0, .ref r94_1])), (r94_0, .inl (cA, 12, .inl (fun _ => 0))), (r94_1, .inl (cA, 4, .inl (fun _ => 0)))] t.heap ∧ va_D (va_A [(h0, .inr (10, [.null, .null, .null, .null, .null, .null, .null]))] sz) [(h0, .inr (10, [.ref q4, .ref q12, .ref q21, .ref q45, .ref q59, .ref q73, .ref q87])), (q4, .inr (6, [.int 0, .int 0, .int 0, .ref r8_0, .ref r8_1])), (r8_0, .inl (cA, 7, .inl (fun _ => 0))), (r8_1, .inl (cA, 7, .inl (fun _ => 0))), (q12, .inr (5, [.ref q4, .int 0, .int 0, .ref r17_0, .ref r17_1, .ref r17_2, .ref r17_3, .ref r17_4, .ref r17_5])), (r17_0, .inl (cA, 12, .inl (fun _ => 0))), (r17_1, .inl (cA, 48, .inl (fun _ => 0))), (r17_2, .inl (cA, 12, .inl (fun _ => 0))), (r17_3, .inl (cA, 12, .inl (fun _ => 0))), (r17_4, .inl (cA, 4, .inl (fun _ => 0))), (r17_5, .inl (cA, 16, .inl (fun _ => 0))), (q21, .inr (4, [.int 0, .ref r25_0, .ref r25_1, .ref r25_2, .ref r25_3, .ref r25_4, .ref r25_5])), (r25_0, .inl (cA, 16, .inl (fun _ => 0))), (r25_1, .inl (cA, 16, .inl (fun _ => 0))), (r25_2, .inl (cA, 16, .inl (fun _ => 0))), (r25_3, .inl (cA, 16, .inl (fun _ => 0))), (r25_4, .inl (cA, 16, .inl (fun _ => 0))), (r25_5, .inl (cA, 16, .inl (fun _ => 0))), (q45, .inr (7, [.ref q4, .ref q12, .ref q21, .ref r52_0, .ref r52_1, .ref r52_2, .int 0])), (r52_0, .inl (cA, 144, .inl (fun _ => 0))), (r52_1, .inl (cA, 144, .inl (fun _ => 0))), (r52_2, .inl (cA, 4, .inl (fun _ => 0))), (q59, .inr (3, [.ref q4, .ref q12, .ref q21, .ref r66_0, .ref r66_1, .ref r66_2, .int 0])), (r66_0, .inl (cA, 144, .inl (fun _ => 0))), (r66_1, .inl (cA, 144, .inl (fun _ => 0))), (r66_2, .inl (cA, 4, .inl (fun _ => 0))), (q73, .inr (8, [.ref q4, .ref q12, .ref q21, .ref r80_0, .ref r80_1, .ref r80_2, .int 0])), (r80_0, .inl (cA, 144, .inl (fun _ => 0))), (r80_1, .inl (cA, 144, .inl (fun _ => 0))), (r80_2, .inl (cA, 4, .inl (fun _ => 0))), (q87, .inr (9, [.ref q4, .ref q12, .ref q21, .ref r94_0, .ref r94_1])), (r94_0, .inl (cA, 12, .inl (fun _ => 0))), (r94_1, .inl (cA, 4, .inl (fun _ => 0)))]) (va_A [(h0, .inr (10, [.null, .null, .null, .null, .null, .null, .null]))] sz)) 32 1153 (va_A [(h0, .inr (10, [.null, .null, .null, .null, .null, .null, .null]))] sz) := by
  refine Met.ofW (cc := cX8_init) (maxL := 4) (ret := none) (by decide +kernel) rfl ?_
  intro p e s m args below meth c s₁ B hml hv
  obtain ⟨rfl, hsz, hP, hK, hD0⟩ := hv
  have hx := B.exec
  have hb := B.bytes
  have hr := B.returns
  have hts0 := atoms_spec (ws := .code yX8_init cX8_init 4 none :: gw_L) B.pre
  have hts : ∀ w ∈ gw_L, w.before _ s = true := fun w hw => hts0 w (List.mem_cons_of_mem _ hw)
  have hown : s.vm.findClass RX8 = some m.cls := findClass_of_methodNamed B.named
  have hlocks := B.notSynchronized
  have hin : meth.name = "<init>" := (name_of_methodNamed B.named B.method).1
  subst hsz
  have hD := hD0.self (sz := s.heap.size)
  generalize hAe : va_A [(h0, .inr (10, [.null, .null, .null, .null, .null, .null, .null]))] s.heap.size = A at hD ⊢
  have hA : ∀ q : Nat, s.heap.size ≤ q → A q := fun q h => by rw [← hAe]; exact Or.inr h
  have hS : va_S A s.heap s.heap [] := va_S.rf
  have hP : va_P D vwCl [(h0, .inr (10, [.null, .null, .null, .null, .null, .null, .null]))] s.heap := hP
  have hl := lv_entry ([.ref h0]) (n := 4) (Nat.le_of_ble_eq_true rfl)
  rw [lg_entry_eq]
  generalize (lg_sl ([.ref h0]) ++ List.replicate (4 - (lg_sl ([.ref h0])).length) Slot.unset).toArray = ls at hl ⊢
  have hl : lv_has ls 4 [(0, .ref h0)] := hl
  refine lv_aload_n hx hb dX8_init_0 rfl (lv_at hl 0 rfl) ?_
  refine W.objInit hx hb hown (hts _ gv_39) (hts _ gi_o1) (hts _ gi_o2) rfl (by rw [hml]; exact hl.1) rfl dX8_init_1 (Nat.le_of_ble_eq_true rfl) (Nat.le_of_ble_eq_true rfl) ?_
  refine W.eq (g2 := F0 m 4 ls []) rfl ?_
  refine va_new (ci := 6) (fs := [.int 0, .int 0, .int 0, .null, .null]) (C := RX3) (T := TX3) (N := 5) hx hb hts gx_X3 tyX3 tyX3_ok hown (hts _ gv_42) (hts _ gv_43) (hts _ gv_2) hK hP hD hS hA rfl (gi_dfX3) (Nat.le_of_ble_eq_true rfl) (Nat.le_of_ble_eq_true rfl) dX8_init_4 (fun q4 H hP hD hS => ?_)
  have hP : va_P D vwCl [(h0, .inr (10, [.null, .null, .null, .null, .null, .null, .null])), (q4, .inr (6, [.int 0, .int 0, .int 0, .null, .null]))] H := hP
  have hD : va_D A [(h0, .inr (10, [.null, .null, .null, .null, .null, .null, .null])), (q4, .inr (6, [.int 0, .int 0, .int 0, .null, .null]))] := hD
  refine W.widen (k := 1) (n := 5) (Nat.le_of_ble_eq_true rfl) (Nat.le_of_ble_eq_true rfl) ?_
  refine lv_dup hx hb dX8_init_7 rfl ?_
  have hPc := hP.sub (ws' := [(q4, .inr (6, [.int 0, .int 0, .int 0, .null, .null]))]) [1] rfl
  have hDc := hD.sub (ws' := [(q4, .inr (6, [.int 0, .int 0, .int 0, .null, .null]))]) [1] (by decide) rfl
  have hFc := va_free (wc := [(q4, .inr (6, [.int 0, .int 0, .int 0, .null, .null]))]) hD hS hA [1] rfl
  refine va_callv (va_runIN (host := "Genericwood") (As := []) (rest := [.ref q4]) ⟨hx, hb, hml, hown, hts⟩ (gi_X3_init l D cA q4  H.size) (gi_cwN hts gk_X3_init gv_44 gv_45 (by decide +kernel) rfl rfl ⟨Nat.le_of_ble_eq_true rfl, Nat.le_of_ble_eq_true rfl⟩) ⟨gi_blind _ _ _ _ _, fun U hU hW => ⟨rfl, gi_pre hPc hK hDc U hU hW⟩⟩ rfl rfl hl.1 rfl (lv_room (Nat.le_of_ble_eq_true rfl)) dX8_init_8 ⟨Nat.le_of_ble_eq_true rfl, Nat.le_of_ble_eq_true rfl⟩) hS (fun q _ h => hFc q h) hFc (fun u t H1 locs ht hvm hw hB hz1 hk1 hS => ?_)
  obtain ⟨r8_0, r8_1, hP1, hD1⟩ := hB
  rw [ht] at hP1
  obtain ⟨hP, hD⟩ := va_join (wr := [(h0, .inr (10, [.null, .null, .null, .null, .null, .null, .null]))]) (w1 := [(q4, .inr (6, [.int 0, .int 0, .int 0, .ref r8_0, .ref r8_1])), (r8_0, .inl (cA, 7, .inl (fun _ => 0))), (r8_1, .inl (cA, 7, .inl (fun _ => 0)))]) hP hD [1] [0] rfl rfl (by decide) (by decide) hk1 hFc hP1 hD1
  generalize H1 = H at hP hS ⊢
  have hP : va_P D vwCl [(h0, .inr (10, [.null, .null, .null, .null, .null, .null, .null])), (q4, .inr (6, [.int 0, .int 0, .int 0, .ref r8_0, .ref r8_1])), (r8_0, .inl (cA, 7, .inl (fun _ => 0))), (r8_1, .inl (cA, 7, .inl (fun _ => 0)))] H := hP
  have hD : va_D A [(h0, .inr (10, [.null, .null, .null, .null, .null, .null, .null])), (q4, .inr (6, [.int 0, .int 0, .int 0, .ref r8_0, .ref r8_1])), (r8_0, .inl (cA, 7, .inl (fun _ => 0))), (r8_1, .inl (cA, 7, .inl (fun _ => 0)))] := hD
  refine W.widen (k := 3) (n := 19) (Nat.le_of_ble_eq_true rfl) (Nat.le_of_ble_eq_true rfl) ?_
  refine lv_astore_n (lv' := [(1, .ref q4), (0, .ref h0)]) hx hb dX8_init_11 rfl hl (by decide) rfl (fun ls hl => ?_)
  refine va_new (ci := 5) (fs := [.null, .int 0, .int 0, .null, .null, .null, .null, .null, .null]) (C := RX2) (T := TX2) (N := 9) hx hb hts gx_X2 tyX2 tyX2_ok hown (hts _ gv_65) (hts _ gv_66) (hts _ gv_3) hK hP hD hS hA rfl (gi_dfX2) (Nat.le_of_ble_eq_true rfl) (Nat.le_of_ble_eq_true rfl) dX8_init_12 (fun q12 H hP hD hS => ?_)
  have hP : va_P D vwCl [(h0, .inr (10, [.null, .null, .null, .null, .null, .null, .null])), (q4, .inr (6, [.int 0, .int 0, .int 0, .ref r8_0, .ref r8_1])), (r8_0, .inl (cA, 7, .inl (fun _ => 0))), (r8_1, .inl (cA, 7, .inl (fun _ => 0))), (q12, .inr (5, [.null, .int 0, .int 0, .null, .null, .null, .null, .null, .null]))] H := hP
  have hD : va_D A [(h0, .inr (10, [.null, .null, .null, .null, .null, .null, .null])), (q4, .inr (6, [.int 0, .int 0, .int 0, .ref r8_0, .ref r8_1])), (r8_0, .inl (cA, 7, .inl (fun _ => 0))), (r8_1, .inl (cA, 7, .inl (fun _ => 0))), (q12, .inr (5, [.null, .int 0, .int 0, .null, .null, .null, .null, .null, .null]))] := hD
  refine W.widen (k := 4) (n := 28) (Nat.le_of_ble_eq_true rfl) (Nat.le_of_ble_eq_true rfl) ?_
  refine lv_dup hx hb dX8_init_15 rfl ?_
  refine lv_aload_n hx hb dX8_init_16 rfl (lv_at hl 0 rfl) ?_
  have hPc := hP.sub (ws' := [(q12, .inr (5, [.null, .int 0, .int 0, .null, .null, .null, .null, .null, .null]))]) [4] rfl
  have hDc := hD.sub (ws' := [(q12, .inr (5, [.null, .int 0, .int 0, .null, .null, .null, .null, .null, .null]))]) [4] (by decide) rfl
  have hFc := va_free (wc := [(q12, .inr (5, [.null, .int 0, .int 0, .null, .null, .null, .null, .null, .null]))]) hD hS hA [4] rfl
  refine va_callv (va_runI (As := [.ref q4]) (rest := [.ref q12]) ⟨hx, hb, hml, hown, hts⟩ (gi_X2_init l D cA q12 q4 H.size) (gi_cw hts gk_X2_init gv_67 gv_68 (by decide +kernel) rfl rfl ⟨Nat.le_of_ble_eq_true rfl, Nat.le_of_ble_eq_true rfl⟩) ⟨gi_blind _ _ _ _ _, fun U hU hW => ⟨rfl, gi_pre hPc hK hDc U hU hW⟩⟩ rfl rfl hl.1 rfl (lv_room (Nat.le_of_ble_eq_true rfl)) dX8_init_17 ⟨Nat.le_of_ble_eq_true rfl, Nat.le_of_ble_eq_true rfl⟩) hS (fun q _ h => hFc q h) hFc (fun u t H1 locs ht hvm hw hB hz1 hk1 hS => ?_)
  obtain ⟨r17_0, r17_1, r17_2, r17_3, r17_4, r17_5, hP1, hD1⟩ := hB
  rw [ht] at hP1
  obtain ⟨hP, hD⟩ := va_join (wr := [(h0, .inr (10, [.null, .null, .null, .null, .null, .null, .null])), (q4, .inr (6, [.int 0, .int 0, .int 0, .ref r8_0, .ref r8_1])), (r8_0, .inl (cA, 7, .inl (fun _ => 0))), (r8_1, .inl (cA, 7, .inl (fun _ => 0)))]) (w1 := [(q12, .inr (5, [.ref q4, .int 0, .int 0, .ref r17_0, .ref r17_1, .ref r17_2, .ref r17_3, .ref r17_4, .ref r17_5])), (r17_0, .inl (cA, 12, .inl (fun _ => 0))), (r17_1, .inl (cA, 48, .inl (fun _ => 0))), (r17_2, .inl (cA, 12, .inl (fun _ => 0))), (r17_3, .inl (cA, 12, .inl (fun _ => 0))), (r17_4, .inl (cA, 4, .inl (fun _ => 0))), (r17_5, .inl (cA, 16, .inl (fun _ => 0)))]) hP hD [4] [0, 1, 2, 3] rfl rfl (by decide) (by decide) hk1 hFc hP1 hD1
  generalize H1 = H at hP hS ⊢
  have hP : va_P D vwCl [(h0, .inr (10, [.null, .null, .null, .null, .null, .null, .null])), (q4, .inr (6, [.int 0, .int 0, .int 0, .ref r8_0, .ref r8_1])), (r8_0, .inl (cA, 7, .inl (fun _ => 0))), (r8_1, .inl (cA, 7, .inl (fun _ => 0))), (q12, .inr (5, [.ref q4, .int 0, .int 0, .ref r17_0, .ref r17_1, .ref r17_2, .ref r17_3, .ref r17_4, .ref r17_5])), (r17_0, .inl (cA, 12, .inl (fun _ => 0))), (r17_1, .inl (cA, 48, .inl (fun _ => 0))), (r17_2, .inl (cA, 12, .inl (fun _ => 0))), (r17_3, .inl (cA, 12, .inl (fun _ => 0))), (r17_4, .inl (cA, 4, .inl (fun _ => 0))), (r17_5, .inl (cA, 16, .inl (fun _ => 0)))] H := hP
  have hD : va_D A [(h0, .inr (10, [.null, .null, .null, .null, .null, .null, .null])), (q4, .inr (6, [.int 0, .int 0, .int 0, .ref r8_0, .ref r8_1])), (r8_0, .inl (cA, 7, .inl (fun _ => 0))), (r8_1, .inl (cA, 7, .inl (fun _ => 0))), (q12, .inr (5, [.ref q4, .int 0, .int 0, .ref r17_0, .ref r17_1, .ref r17_2, .ref r17_3, .ref r17_4, .ref r17_5])), (r17_0, .inl (cA, 12, .inl (fun _ => 0))), (r17_1, .inl (cA, 48, .inl (fun _ => 0))), (r17_2, .inl (cA, 12, .inl (fun _ => 0))), (r17_3, .inl (cA, 12, .inl (fun _ => 0))), (r17_4, .inl (cA, 4, .inl (fun _ => 0))), (r17_5, .inl (cA, 16, .inl (fun _ => 0)))] := hD
  refine W.widen (k := 10) (n := 132) (Nat.le_of_ble_eq_true rfl) (Nat.le_of_ble_eq_true rfl) ?_
  refine lv_astore_n (lv' := [(2, .ref q12), (1, .ref q4), (0, .ref h0)]) hx hb dX8_init_20 rfl hl (by decide) rfl (fun ls hl => ?_)
  refine va_new (ci := 4) (fs := [.int 0, .null, .null, .null, .null, .null, .null]) (C := RX1) (T := TX1) (N := 7) hx hb hts gx_X1 tyX1 tyX1_ok hown (hts _ gv_99) (hts _ gv_100) (hts _ gv_4) hK hP hD hS hA rfl (gi_dfX1) (Nat.le_of_ble_eq_true rfl) (Nat.le_of_ble_eq_true rfl) dX8_init_21 (fun q21 H hP hD hS => ?_)
  have hP : va_P D vwCl [(h0, .inr (10, [.null, .null, .null, .null, .null, .null, .null])), (q4, .inr (6, [.int 0, .int 0, .int 0, .ref r8_0, .ref r8_1])), (r8_0, .inl (cA, 7, .inl (fun _ => 0))), (r8_1, .inl (cA, 7, .inl (fun _ => 0))), (q12, .inr (5, [.ref q4, .int 0, .int 0, .ref r17_0, .ref r17_1, .ref r17_2, .ref r17_3, .ref r17_4, .ref r17_5])), (r17_0, .inl (cA, 12, .inl (fun _ => 0))), (r17_1, .inl (cA, 48, .inl (fun _ => 0))), (r17_2, .inl (cA, 12, .inl (fun _ => 0))), (r17_3, .inl (cA, 12, .inl (fun _ => 0))), (r17_4, .inl (cA, 4, .inl (fun _ => 0))), (r17_5, .inl (cA, 16, .inl (fun _ => 0))), (q21, .inr (4, [.int 0, .null, .null, .null, .null, .null, .null]))] H := hP
  have hD : va_D A [(h0, .inr (10, [.null, .null, .null, .null, .null, .null, .null])), (q4, .inr (6, [.int 0, .int 0, .int 0, .ref r8_0, .ref r8_1])), (r8_0, .inl (cA, 7, .inl (fun _ => 0))), (r8_1, .inl (cA, 7, .inl (fun _ => 0))), (q12, .inr (5, [.ref q4, .int 0, .int 0, .ref r17_0, .ref r17_1, .ref r17_2, .ref r17_3, .ref r17_4, .ref r17_5])), (r17_0, .inl (cA, 12, .inl (fun _ => 0))), (r17_1, .inl (cA, 48, .inl (fun _ => 0))), (r17_2, .inl (cA, 12, .inl (fun _ => 0))), (r17_3, .inl (cA, 12, .inl (fun _ => 0))), (r17_4, .inl (cA, 4, .inl (fun _ => 0))), (r17_5, .inl (cA, 16, .inl (fun _ => 0))), (q21, .inr (4, [.int 0, .null, .null, .null, .null, .null, .null]))] := hD
  refine W.widen (k := 11) (n := 139) (Nat.le_of_ble_eq_true rfl) (Nat.le_of_ble_eq_true rfl) ?_
  refine lv_dup hx hb dX8_init_24 rfl ?_
  have hPc := hP.sub (ws' := [(q21, .inr (4, [.int 0, .null, .null, .null, .null, .null, .null]))]) [11] rfl
  have hDc := hD.sub (ws' := [(q21, .inr (4, [.int 0, .null, .null, .null, .null, .null, .null]))]) [11] (by decide) rfl
  have hFc := va_free (wc := [(q21, .inr (4, [.int 0, .null, .null, .null, .null, .null, .null]))]) hD hS hA [11] rfl
  refine va_callv (va_runIN (host := "Genericwood") (As := []) (rest := [.ref q21]) ⟨hx, hb, hml, hown, hts⟩ (gi_X1_init l D cA q21  H.size) (gi_cwN hts gk_X1_init gv_101 gv_102 (by decide +kernel) rfl rfl ⟨Nat.le_of_ble_eq_true rfl, Nat.le_of_ble_eq_true rfl⟩) ⟨gi_blind _ _ _ _ _, fun U hU hW => ⟨rfl, gi_pre hPc hK hDc U hU hW⟩⟩ rfl rfl hl.1 rfl (lv_room (Nat.le_of_ble_eq_true rfl)) dX8_init_25 ⟨Nat.le_of_ble_eq_true rfl, Nat.le_of_ble_eq_true rfl⟩) hS (fun q _ h => hFc q h) hFc (fun u t H1 locs ht hvm hw hB hz1 hk1 hS => ?_)
  obtain ⟨r25_0, r25_1, r25_2, r25_3, r25_4, r25_5, hP1, hD1⟩ := hB
  rw [ht] at hP1
  obtain ⟨hP, hD⟩ := va_join (wr := [(h0, .inr (10, [.null, .null, .null, .null, .null, .null, .null])), (q4, .inr (6, [.int 0, .int 0, .int 0, .ref r8_0, .ref r8_1])), (r8_0, .inl (cA, 7, .inl (fun _ => 0))), (r8_1, .inl (cA, 7, .inl (fun _ => 0))), (q12, .inr (5, [.ref q4, .int 0, .int 0, .ref r17_0, .ref r17_1, .ref r17_2, .ref r17_3, .ref r17_4, .ref r17_5])), (r17_0, .inl (cA, 12, .inl (fun _ => 0))), (r17_1, .inl (cA, 48, .inl (fun _ => 0))), (r17_2, .inl (cA, 12, .inl (fun _ => 0))), (r17_3, .inl (cA, 12, .inl (fun _ => 0))), (r17_4, .inl (cA, 4, .inl (fun _ => 0))), (r17_5, .inl (cA, 16, .inl (fun _ => 0)))]) (w1 := [(q21, .inr (4, [.int 0, .ref r25_0, .ref r25_1, .ref r25_2, .ref r25_3, .ref r25_4, .ref r25_5])), (r25_0, .inl (cA, 16, .inl (fun _ => 0))), (r25_1, .inl (cA, 16, .inl (fun _ => 0))), (r25_2, .inl (cA, 16, .inl (fun _ => 0))), (r25_3, .inl (cA, 16, .inl (fun _ => 0))), (r25_4, .inl (cA, 16, .inl (fun _ => 0))), (r25_5, .inl (cA, 16, .inl (fun _ => 0)))]) hP hD [11] [0, 1, 2, 3, 4, 5, 6, 7, 8, 9, 10] rfl rfl (by decide) (by decide) hk1 hFc hP1 hD1
  generalize H1 = H at hP hS ⊢
  have hP : va_P D vwCl [(h0, .inr (10, [.null, .null, .null, .null, .null, .null, .null])), (q4, .inr (6, [.int 0, .int 0, .int 0, .ref r8_0, .ref r8_1])), (r8_0, .inl (cA, 7, .inl (fun _ => 0))), (r8_1, .inl (cA, 7, .inl (fun _ => 0))), (q12, .inr (5, [.ref q4, .int 0, .int 0, .ref r17_0, .ref r17_1, .ref r17_2, .ref r17_3, .ref r17_4, .ref r17_5])), (r17_0, .inl (cA, 12, .inl (fun _ => 0))), (r17_1, .inl (cA, 48, .inl (fun _ => 0))), (r17_2, .inl (cA, 12, .inl (fun _ => 0))), (r17_3, .inl (cA, 12, .inl (fun _ => 0))), (r17_4, .inl (cA, 4, .inl (fun _ => 0))), (r17_5, .inl (cA, 16, .inl (fun _ => 0))), (q21, .inr (4, [.int 0, .ref r25_0, .ref r25_1, .ref r25_2, .ref r25_3, .ref r25_4, .ref r25_5])), (r25_0, .inl (cA, 16, .inl (fun _ => 0))), (r25_1, .inl (cA, 16, .inl (fun _ => 0))), (r25_2, .inl (cA, 16, .inl (fun _ => 0))), (r25_3, .inl (cA, 16, .inl (fun _ => 0))), (r25_4, .inl (cA, 16, .inl (fun _ => 0))), (r25_5, .inl (cA, 16, .inl (fun _ => 0)))] H := hP
  have hD : va_D A [(h0, .inr (10, [.null, .null, .null, .null, .null, .null, .null])), (q4, .inr (6, [.int 0, .int 0, .int 0, .ref r8_0, .ref r8_1])), (r8_0, .inl (cA, 7, .inl (fun _ => 0))), (r8_1, .inl (cA, 7, .inl (fun _ => 0))), (q12, .inr (5, [.ref q4, .int 0, .int 0, .ref r17_0, .ref r17_1, .ref r17_2, .ref r17_3, .ref r17_4, .ref r17_5])), (r17_0, .inl (cA, 12, .inl (fun _ => 0))), (r17_1, .inl (cA, 48, .inl (fun _ => 0))), (r17_2, .inl (cA, 12, .inl (fun _ => 0))), (r17_3, .inl (cA, 12, .inl (fun _ => 0))), (r17_4, .inl (cA, 4, .inl (fun _ => 0))), (r17_5, .inl (cA, 16, .inl (fun _ => 0))), (q21, .inr (4, [.int 0, .ref r25_0, .ref r25_1, .ref r25_2, .ref r25_3, .ref r25_4, .ref r25_5])), (r25_0, .inl (cA, 16, .inl (fun _ => 0))), (r25_1, .inl (cA, 16, .inl (fun _ => 0))), (r25_2, .inl (cA, 16, .inl (fun _ => 0))), (r25_3, .inl (cA, 16, .inl (fun _ => 0))), (r25_4, .inl (cA, 16, .inl (fun _ => 0))), (r25_5, .inl (cA, 16, .inl (fun _ => 0)))] := hD
  refine W.widen (k := 17) (n := 235) (Nat.le_of_ble_eq_true rfl) (Nat.le_of_ble_eq_true rfl) ?_
  refine lv_astore_n (lv' := [(3, .ref q21), (2, .ref q12), (1, .ref q4), (0, .ref h0)]) hx hb dX8_init_28 rfl hl (by decide) rfl (fun ls hl => ?_)
  refine lv_aload_n hx hb dX8_init_29 rfl (lv_at hl 3 rfl) ?_
  refine lv_aload_n hx hb dX8_init_30 rfl (lv_at hl 2 rfl) ?_
  refine va_putF (D := D) (ci := 10) (v := .ref q4) (ty := .object "Genericwood$Order") (C := RX8) (T := TX8) (N := 7) hx hb hts gx_X8 tyX8 tyX8_ok nmX8 hown hK hP hD hS 0 rfl rfl 0 (by decide) (hts _ gv_214) (fun _ h9 => h9) rfl hin rfl (by decide +kernel) rfl rfl (Nat.le_of_ble_eq_true rfl) dX8_init_31 (fun H locs hP hD hS => ?_)
  have hP : va_P D vwCl [(h0, .inr (10, [.ref q4, .null, .null, .null, .null, .null, .null])), (q4, .inr (6, [.int 0, .int 0, .int 0, .ref r8_0, .ref r8_1])), (r8_0, .inl (cA, 7, .inl (fun _ => 0))), (r8_1, .inl (cA, 7, .inl (fun _ => 0))), (q12, .inr (5, [.ref q4, .int 0, .int 0, .ref r17_0, .ref r17_1, .ref r17_2, .ref r17_3, .ref r17_4, .ref r17_5])), (r17_0, .inl (cA, 12, .inl (fun _ => 0))), (r17_1, .inl (cA, 48, .inl (fun _ => 0))), (r17_2, .inl (cA, 12, .inl (fun _ => 0))), (r17_3, .inl (cA, 12, .inl (fun _ => 0))), (r17_4, .inl (cA, 4, .inl (fun _ => 0))), (r17_5, .inl (cA, 16, .inl (fun _ => 0))), (q21, .inr (4, [.int 0, .ref r25_0, .ref r25_1, .ref r25_2, .ref r25_3, .ref r25_4, .ref r25_5])), (r25_0, .inl (cA, 16, .inl (fun _ => 0))), (r25_1, .inl (cA, 16, .inl (fun _ => 0))), (r25_2, .inl (cA, 16, .inl (fun _ => 0))), (r25_3, .inl (cA, 16, .inl (fun _ => 0))), (r25_4, .inl (cA, 16, .inl (fun _ => 0))), (r25_5, .inl (cA, 16, .inl (fun _ => 0)))] H := hP
  have hD : va_D A [(h0, .inr (10, [.ref q4, .null, .null, .null, .null, .null, .null])), (q4, .inr (6, [.int 0, .int 0, .int 0, .ref r8_0, .ref r8_1])), (r8_0, .inl (cA, 7, .inl (fun _ => 0))), (r8_1, .inl (cA, 7, .inl (fun _ => 0))), (q12, .inr (5, [.ref q4, .int 0, .int 0, .ref r17_0, .ref r17_1, .ref r17_2, .ref r17_3, .ref r17_4, .ref r17_5])), (r17_0, .inl (cA, 12, .inl (fun _ => 0))), (r17_1, .inl (cA, 48, .inl (fun _ => 0))), (r17_2, .inl (cA, 12, .inl (fun _ => 0))), (r17_3, .inl (cA, 12, .inl (fun _ => 0))), (r17_4, .inl (cA, 4, .inl (fun _ => 0))), (r17_5, .inl (cA, 16, .inl (fun _ => 0))), (q21, .inr (4, [.int 0, .ref r25_0, .ref r25_1, .ref r25_2, .ref r25_3, .ref r25_4, .ref r25_5])), (r25_0, .inl (cA, 16, .inl (fun _ => 0))), (r25_1, .inl (cA, 16, .inl (fun _ => 0))), (r25_2, .inl (cA, 16, .inl (fun _ => 0))), (r25_3, .inl (cA, 16, .inl (fun _ => 0))), (r25_4, .inl (cA, 16, .inl (fun _ => 0))), (r25_5, .inl (cA, 16, .inl (fun _ => 0)))] := hD
  refine lv_aload_n hx hb dX8_init_34 rfl (lv_at hl 3 rfl) ?_
  refine lv_aload_n hx hb dX8_init_35 rfl (lv_at hl 1 rfl) ?_
  refine va_putF (D := D) (ci := 10) (v := .ref q12) (ty := .object "Genericwood$Names") (C := RX8) (T := TX8) (N := 7) hx hb hts gx_X8 tyX8 tyX8_ok nmX8 hown hK hP hD hS 0 rfl rfl 1 (by decide) (hts _ gv_215) (fun _ h9 => h9) rfl hin rfl (by decide +kernel) rfl rfl (Nat.le_of_ble_eq_true rfl) dX8_init_36 (fun H locs hP hD hS => ?_)
  have hP : va_P D vwCl [(h0, .inr (10, [.ref q4, .ref q12, .null, .null, .null, .null, .null])), (q4, .inr (6, [.int 0, .int 0, .int 0, .ref r8_0, .ref r8_1])), (r8_0, .inl (cA, 7, .inl (fun _ => 0))), (r8_1, .inl (cA, 7, .inl (fun _ => 0))), (q12, .inr (5, [.ref q4, .int 0, .int 0, .ref r17_0, .ref r17_1, .ref r17_2, .ref r17_3, .ref r17_4, .ref r17_5])), (r17_0, .inl (cA, 12, .inl (fun _ => 0))), (r17_1, .inl (cA, 48, .inl (fun _ => 0))), (r17_2, .inl (cA, 12, .inl (fun _ => 0))), (r17_3, .inl (cA, 12, .inl (fun _ => 0))), (r17_4, .inl (cA, 4, .inl (fun _ => 0))), (r17_5, .inl (cA, 16, .inl (fun _ => 0))), (q21, .inr (4, [.int 0, .ref r25_0, .ref r25_1, .ref r25_2, .ref r25_3, .ref r25_4, .ref r25_5])), (r25_0, .inl (cA, 16, .inl (fun _ => 0))), (r25_1, .inl (cA, 16, .inl (fun _ => 0))), (r25_2, .inl (cA, 16, .inl (fun _ => 0))), (r25_3, .inl (cA, 16, .inl (fun _ => 0))), (r25_4, .inl (cA, 16, .inl (fun _ => 0))), (r25_5, .inl (cA, 16, .inl (fun _ => 0)))] H := hP
  have hD : va_D A [(h0, .inr (10, [.ref q4, .ref q12, .null, .null, .null, .null, .null])), (q4, .inr (6, [.int 0, .int 0, .int 0, .ref r8_0, .ref r8_1])), (r8_0, .inl (cA, 7, .inl (fun _ => 0))), (r8_1, .inl (cA, 7, .inl (fun _ => 0))), (q12, .inr (5, [.ref q4, .int 0, .int 0, .ref r17_0, .ref r17_1, .ref r17_2, .ref r17_3, .ref r17_4, .ref r17_5])), (r17_0, .inl (cA, 12, .inl (fun _ => 0))), (r17_1, .inl (cA, 48, .inl (fun _ => 0))), (r17_2, .inl (cA, 12, .inl (fun _ => 0))), (r17_3, .inl (cA, 12, .inl (fun _ => 0))), (r17_4, .inl (cA, 4, .inl (fun _ => 0))), (r17_5, .inl (cA, 16, .inl (fun _ => 0))), (q21, .inr (4, [.int 0, .ref r25_0, .ref r25_1, .ref r25_2, .ref r25_3, .ref r25_4, .ref r25_5])), (r25_0, .inl (cA, 16, .inl (fun _ => 0))), (r25_1, .inl (cA, 16, .inl (fun _ => 0))), (r25_2, .inl (cA, 16, .inl (fun _ => 0))), (r25_3, .inl (cA, 16, .inl (fun _ => 0))), (r25_4, .inl (cA, 16, .inl (fun _ => 0))), (r25_5, .inl (cA, 16, .inl (fun _ => 0)))] := hD
  refine lv_aload_n hx hb dX8_init_39 rfl (lv_at hl 3 rfl) ?_
  refine lv_aload_n hx hb dX8_init_40 rfl (lv_at hl 0 rfl) ?_
  refine va_putF (D := D) (ci := 10) (v := .ref q21) (ty := .object "Genericwood$Formulas") (C := RX8) (T := TX8) (N := 7) hx hb hts gx_X8 tyX8 tyX8_ok nmX8 hown hK hP hD hS 0 rfl rfl 2 (by decide) (hts _ gv_216) (fun _ h9 => h9) rfl hin rfl (by decide +kernel) rfl rfl (Nat.le_of_ble_eq_true rfl) dX8_init_41 (fun H locs hP hD hS => ?_)
  have hP : va_P D vwCl [(h0, .inr (10, [.ref q4, .ref q12, .ref q21, .null, .null, .null, .null])), (q4, .inr (6, [.int 0, .int 0, .int 0, .ref r8_0, .ref r8_1])), (r8_0, .inl (cA, 7, .inl (fun _ => 0))), (r8_1, .inl (cA, 7, .inl (fun _ => 0))), (q12, .inr (5, [.ref q4, .int 0, .int 0, .ref r17_0, .ref r17_1, .ref r17_2, .ref r17_3, .ref r17_4, .ref r17_5])), (r17_0, .inl (cA, 12, .inl (fun _ => 0))), (r17_1, .inl (cA, 48, .inl (fun _ => 0))), (r17_2, .inl (cA, 12, .inl (fun _ => 0))), (r17_3, .inl (cA, 12, .inl (fun _ => 0))), (r17_4, .inl (cA, 4, .inl (fun _ => 0))), (r17_5, .inl (cA, 16, .inl (fun _ => 0))), (q21, .inr (4, [.int 0, .ref r25_0, .ref r25_1, .ref r25_2, .ref r25_3, .ref r25_4, .ref r25_5])), (r25_0, .inl (cA, 16, .inl (fun _ => 0))), (r25_1, .inl (cA, 16, .inl (fun _ => 0))), (r25_2, .inl (cA, 16, .inl (fun _ => 0))), (r25_3, .inl (cA, 16, .inl (fun _ => 0))), (r25_4, .inl (cA, 16, .inl (fun _ => 0))), (r25_5, .inl (cA, 16, .inl (fun _ => 0)))] H := hP
  have hD : va_D A [(h0, .inr (10, [.ref q4, .ref q12, .ref q21, .null, .null, .null, .null])), (q4, .inr (6, [.int 0, .int 0, .int 0, .ref r8_0, .ref r8_1])), (r8_0, .inl (cA, 7, .inl (fun _ => 0))), (r8_1, .inl (cA, 7, .inl (fun _ => 0))), (q12, .inr (5, [.ref q4, .int 0, .int 0, .ref r17_0, .ref r17_1, .ref r17_2, .ref r17_3, .ref r17_4, .ref r17_5])), (r17_0, .inl (cA, 12, .inl (fun _ => 0))), (r17_1, .inl (cA, 48, .inl (fun _ => 0))), (r17_2, .inl (cA, 12, .inl (fun _ => 0))), (r17_3, .inl (cA, 12, .inl (fun _ => 0))), (r17_4, .inl (cA, 4, .inl (fun _ => 0))), (r17_5, .inl (cA, 16, .inl (fun _ => 0))), (q21, .inr (4, [.int 0, .ref r25_0, .ref r25_1, .ref r25_2, .ref r25_3, .ref r25_4, .ref r25_5])), (r25_0, .inl (cA, 16, .inl (fun _ => 0))), (r25_1, .inl (cA, 16, .inl (fun _ => 0))), (r25_2, .inl (cA, 16, .inl (fun _ => 0))), (r25_3, .inl (cA, 16, .inl (fun _ => 0))), (r25_4, .inl (cA, 16, .inl (fun _ => 0))), (r25_5, .inl (cA, 16, .inl (fun _ => 0)))] := hD
  refine lv_aload_n hx hb dX8_init_44 rfl (lv_at hl 3 rfl) ?_
  refine va_new (ci := 7) (fs := [.null, .null, .null, .null, .null, .null, .int 0]) (C := RX4) (T := TX4) (N := 7) hx hb hts gx_X4 tyX4 tyX4_ok hown (hts _ gv_127) (hts _ gv_128) (hts _ gv_6) hK hP hD hS hA rfl (gi_dfX4) (Nat.le_of_ble_eq_true rfl) (Nat.le_of_ble_eq_true rfl) dX8_init_45 (fun q45 H hP hD hS => ?_)
  have hP : va_P D vwCl [(h0, .inr (10, [.ref q4, .ref q12, .ref q21, .null, .null, .null, .null])), (q4, .inr (6, [.int 0, .int 0, .int 0, .ref r8_0, .ref r8_1])), (r8_0, .inl (cA, 7, .inl (fun _ => 0))), (r8_1, .inl (cA, 7, .inl (fun _ => 0))), (q12, .inr (5, [.ref q4, .int 0, .int 0, .ref r17_0, .ref r17_1, .ref r17_2, .ref r17_3, .ref r17_4, .ref r17_5])), (r17_0, .inl (cA, 12, .inl (fun _ => 0))), (r17_1, .inl (cA, 48, .inl (fun _ => 0))), (r17_2, .inl (cA, 12, .inl (fun _ => 0))), (r17_3, .inl (cA, 12, .inl (fun _ => 0))), (r17_4, .inl (cA, 4, .inl (fun _ => 0))), (r17_5, .inl (cA, 16, .inl (fun _ => 0))), (q21, .inr (4, [.int 0, .ref r25_0, .ref r25_1, .ref r25_2, .ref r25_3, .ref r25_4, .ref r25_5])), (r25_0, .inl (cA, 16, .inl (fun _ => 0))), (r25_1, .inl (cA, 16, .inl (fun _ => 0))), (r25_2, .inl (cA, 16, .inl (fun _ => 0))), (r25_3, .inl (cA, 16, .inl (fun _ => 0))), (r25_4, .inl (cA, 16, .inl (fun _ => 0))), (r25_5, .inl (cA, 16, .inl (fun _ => 0))), (q45, .inr (7, [.null, .null, .null, .null, .null, .null, .int 0]))] H := hP
  have hD : va_D A [(h0, .inr (10, [.ref q4, .ref q12, .ref q21, .null, .null, .null, .null])), (q4, .inr (6, [.int 0, .int 0, .int 0, .ref r8_0, .ref r8_1])), (r8_0, .inl (cA, 7, .inl (fun _ => 0))), (r8_1, .inl (cA, 7, .inl (fun _ => 0))), (q12, .inr (5, [.ref q4, .int 0, .int 0, .ref r17_0, .ref r17_1, .ref r17_2, .ref r17_3, .ref r17_4, .ref r17_5])), (r17_0, .inl (cA, 12, .inl (fun _ => 0))), (r17_1, .inl (cA, 48, .inl (fun _ => 0))), (r17_2, .inl (cA, 12, .inl (fun _ => 0))), (r17_3, .inl (cA, 12, .inl (fun _ => 0))), (r17_4, .inl (cA, 4, .inl (fun _ => 0))), (r17_5, .inl (cA, 16, .inl (fun _ => 0))), (q21, .inr (4, [.int 0, .ref r25_0, .ref r25_1, .ref r25_2, .ref r25_3, .ref r25_4, .ref r25_5])), (r25_0, .inl (cA, 16, .inl (fun _ => 0))), (r25_1, .inl (cA, 16, .inl (fun _ => 0))), (r25_2, .inl (cA, 16, .inl (fun _ => 0))), (r25_3, .inl (cA, 16, .inl (fun _ => 0))), (r25_4, .inl (cA, 16, .inl (fun _ => 0))), (r25_5, .inl (cA, 16, .inl (fun _ => 0))), (q45, .inr (7, [.null, .null, .null, .null, .null, .null, .int 0]))] := hD
  refine W.widen (k := 18) (n := 242) (Nat.le_of_ble_eq_true rfl) (Nat.le_of_ble_eq_true rfl) ?_
  refine lv_dup hx hb dX8_init_48 rfl ?_
  refine lv_aload_n hx hb dX8_init_49 rfl (lv_at hl 2 rfl) ?_
  refine lv_aload_n hx hb dX8_init_50 rfl (lv_at hl 1 rfl) ?_
  refine lv_aload_n hx hb dX8_init_51 rfl (lv_at hl 0 rfl) ?_
  have hPc := hP.sub (ws' := [(q45, .inr (7, [.null, .null, .null, .null, .null, .null, .int 0]))]) [18] rfl
  have hDc := hD.sub (ws' := [(q45, .inr (7, [.null, .null, .null, .null, .null, .null, .int 0]))]) [18] (by decide) rfl
  have hFc := va_free (wc := [(q45, .inr (7, [.null, .null, .null, .null, .null, .null, .int 0]))]) hD hS hA [18] rfl
  refine va_callv (va_runI (As := [.ref q4, .ref q12, .ref q21]) (rest := [.ref q45, .ref h0]) ⟨hx, hb, hml, hown, hts⟩ (gi_X4_init l D cA q45 q4 q12 q21 H.size) (gi_cw hts gk_X4_init gv_129 gv_130 (by decide +kernel) rfl rfl ⟨Nat.le_of_ble_eq_true rfl, Nat.le_of_ble_eq_true rfl⟩) ⟨gi_blind _ _ _ _ _, fun U hU hW => ⟨rfl, gi_pre hPc hK hDc U hU hW⟩⟩ rfl rfl hl.1 rfl (lv_room (Nat.le_of_ble_eq_true rfl)) dX8_init_52 ⟨Nat.le_of_ble_eq_true rfl, Nat.le_of_ble_eq_true rfl⟩) hS (fun q _ h => hFc q h) hFc (fun u t H1 locs ht hvm hw hB hz1 hk1 hS => ?_)
  obtain ⟨r52_0, r52_1, r52_2, hP1, hD1⟩ := hB
  rw [ht] at hP1
  obtain ⟨hP, hD⟩ := va_join (wr := [(h0, .inr (10, [.ref q4, .ref q12, .ref q21, .null, .null, .null, .null])), (q4, .inr (6, [.int 0, .int 0, .int 0, .ref r8_0, .ref r8_1])), (r8_0, .inl (cA, 7, .inl (fun _ => 0))), (r8_1, .inl (cA, 7, .inl (fun _ => 0))), (q12, .inr (5, [.ref q4, .int 0, .int 0, .ref r17_0, .ref r17_1, .ref r17_2, .ref r17_3, .ref r17_4, .ref r17_5])), (r17_0, .inl (cA, 12, .inl (fun _ => 0))), (r17_1, .inl (cA, 48, .inl (fun _ => 0))), (r17_2, .inl (cA, 12, .inl (fun _ => 0))), (r17_3, .inl (cA, 12, .inl (fun _ => 0))), (r17_4, .inl (cA, 4, .inl (fun _ => 0))), (r17_5, .inl (cA, 16, .inl (fun _ => 0))), (q21, .inr (4, [.int 0, .ref r25_0, .ref r25_1, .ref r25_2, .ref r25_3, .ref r25_4, .ref r25_5])), (r25_0, .inl (cA, 16, .inl (fun _ => 0))), (r25_1, .inl (cA, 16, .inl (fun _ => 0))), (r25_2, .inl (cA, 16, .inl (fun _ => 0))), (r25_3, .inl (cA, 16, .inl (fun _ => 0))), (r25_4, .inl (cA, 16, .inl (fun _ => 0))), (r25_5, .inl (cA, 16, .inl (fun _ => 0)))]) (w1 := [(q45, .inr (7, [.ref q4, .ref q12, .ref q21, .ref r52_0, .ref r52_1, .ref r52_2, .int 0])), (r52_0, .inl (cA, 144, .inl (fun _ => 0))), (r52_1, .inl (cA, 144, .inl (fun _ => 0))), (r52_2, .inl (cA, 4, .inl (fun _ => 0)))]) hP hD [18] [0, 1, 2, 3, 4, 5, 6, 7, 8, 9, 10, 11, 12, 13, 14, 15, 16, 17] rfl rfl (by decide) (by decide) hk1 hFc hP1 hD1
  generalize H1 = H at hP hS ⊢
  have hP : va_P D vwCl [(h0, .inr (10, [.ref q4, .ref q12, .ref q21, .null, .null, .null, .null])), (q4, .inr (6, [.int 0, .int 0, .int 0, .ref r8_0, .ref r8_1])), (r8_0, .inl (cA, 7, .inl (fun _ => 0))), (r8_1, .inl (cA, 7, .inl (fun _ => 0))), (q12, .inr (5, [.ref q4, .int 0, .int 0, .ref r17_0, .ref r17_1, .ref r17_2, .ref r17_3, .ref r17_4, .ref r17_5])), (r17_0, .inl (cA, 12, .inl (fun _ => 0))), (r17_1, .inl (cA, 48, .inl (fun _ => 0))), (r17_2, .inl (cA, 12, .inl (fun _ => 0))), (r17_3, .inl (cA, 12, .inl (fun _ => 0))), (r17_4, .inl (cA, 4, .inl (fun _ => 0))), (r17_5, .inl (cA, 16, .inl (fun _ => 0))), (q21, .inr (4, [.int 0, .ref r25_0, .ref r25_1, .ref r25_2, .ref r25_3, .ref r25_4, .ref r25_5])), (r25_0, .inl (cA, 16, .inl (fun _ => 0))), (r25_1, .inl (cA, 16, .inl (fun _ => 0))), (r25_2, .inl (cA, 16, .inl (fun _ => 0))), (r25_3, .inl (cA, 16, .inl (fun _ => 0))), (r25_4, .inl (cA, 16, .inl (fun _ => 0))), (r25_5, .inl (cA, 16, .inl (fun _ => 0))), (q45, .inr (7, [.ref q4, .ref q12, .ref q21, .ref r52_0, .ref r52_1, .ref r52_2, .int 0])), (r52_0, .inl (cA, 144, .inl (fun _ => 0))), (r52_1, .inl (cA, 144, .inl (fun _ => 0))), (r52_2, .inl (cA, 4, .inl (fun _ => 0)))] H := hP
  have hD : va_D A [(h0, .inr (10, [.ref q4, .ref q12, .ref q21, .null, .null, .null, .null])), (q4, .inr (6, [.int 0, .int 0, .int 0, .ref r8_0, .ref r8_1])), (r8_0, .inl (cA, 7, .inl (fun _ => 0))), (r8_1, .inl (cA, 7, .inl (fun _ => 0))), (q12, .inr (5, [.ref q4, .int 0, .int 0, .ref r17_0, .ref r17_1, .ref r17_2, .ref r17_3, .ref r17_4, .ref r17_5])), (r17_0, .inl (cA, 12, .inl (fun _ => 0))), (r17_1, .inl (cA, 48, .inl (fun _ => 0))), (r17_2, .inl (cA, 12, .inl (fun _ => 0))), (r17_3, .inl (cA, 12, .inl (fun _ => 0))), (r17_4, .inl (cA, 4, .inl (fun _ => 0))), (r17_5, .inl (cA, 16, .inl (fun _ => 0))), (q21, .inr (4, [.int 0, .ref r25_0, .ref r25_1, .ref r25_2, .ref r25_3, .ref r25_4, .ref r25_5])), (r25_0, .inl (cA, 16, .inl (fun _ => 0))), (r25_1, .inl (cA, 16, .inl (fun _ => 0))), (r25_2, .inl (cA, 16, .inl (fun _ => 0))), (r25_3, .inl (cA, 16, .inl (fun _ => 0))), (r25_4, .inl (cA, 16, .inl (fun _ => 0))), (r25_5, .inl (cA, 16, .inl (fun _ => 0))), (q45, .inr (7, [.ref q4, .ref q12, .ref q21, .ref r52_0, .ref r52_1, .ref r52_2, .int 0])), (r52_0, .inl (cA, 144, .inl (fun _ => 0))), (r52_1, .inl (cA, 144, .inl (fun _ => 0))), (r52_2, .inl (cA, 4, .inl (fun _ => 0)))] := hD
  refine W.widen (k := 21) (n := 534) (Nat.le_of_ble_eq_true rfl) (Nat.le_of_ble_eq_true rfl) ?_
  refine va_putF (D := D) (ci := 10) (v := .ref q45) (ty := .object "Genericwood$Way") (C := RX8) (T := TX8) (N := 7) hx hb hts gx_X8 tyX8 tyX8_ok nmX8 hown hK hP hD hS 0 rfl rfl 3 (by decide) (hts _ gv_217) (fun _ h9 => h9) rfl hin rfl (by decide +kernel) rfl rfl (Nat.le_of_ble_eq_true rfl) dX8_init_55 (fun H locs hP hD hS => ?_)
  have hP : va_P D vwCl [(h0, .inr (10, [.ref q4, .ref q12, .ref q21, .ref q45, .null, .null, .null])), (q4, .inr (6, [.int 0, .int 0, .int 0, .ref r8_0, .ref r8_1])), (r8_0, .inl (cA, 7, .inl (fun _ => 0))), (r8_1, .inl (cA, 7, .inl (fun _ => 0))), (q12, .inr (5, [.ref q4, .int 0, .int 0, .ref r17_0, .ref r17_1, .ref r17_2, .ref r17_3, .ref r17_4, .ref r17_5])), (r17_0, .inl (cA, 12, .inl (fun _ => 0))), (r17_1, .inl (cA, 48, .inl (fun _ => 0))), (r17_2, .inl (cA, 12, .inl (fun _ => 0))), (r17_3, .inl (cA, 12, .inl (fun _ => 0))), (r17_4, .inl (cA, 4, .inl (fun _ => 0))), (r17_5, .inl (cA, 16, .inl (fun _ => 0))), (q21, .inr (4, [.int 0, .ref r25_0, .ref r25_1, .ref r25_2, .ref r25_3, .ref r25_4, .ref r25_5])), (r25_0, .inl (cA, 16, .inl (fun _ => 0))), (r25_1, .inl (cA, 16, .inl (fun _ => 0))), (r25_2, .inl (cA, 16, .inl (fun _ => 0))), (r25_3, .inl (cA, 16, .inl (fun _ => 0))), (r25_4, .inl (cA, 16, .inl (fun _ => 0))), (r25_5, .inl (cA, 16, .inl (fun _ => 0))), (q45, .inr (7, [.ref q4, .ref q12, .ref q21, .ref r52_0, .ref r52_1, .ref r52_2, .int 0])), (r52_0, .inl (cA, 144, .inl (fun _ => 0))), (r52_1, .inl (cA, 144, .inl (fun _ => 0))), (r52_2, .inl (cA, 4, .inl (fun _ => 0)))] H := hP
  have hD : va_D A [(h0, .inr (10, [.ref q4, .ref q12, .ref q21, .ref q45, .null, .null, .null])), (q4, .inr (6, [.int 0, .int 0, .int 0, .ref r8_0, .ref r8_1])), (r8_0, .inl (cA, 7, .inl (fun _ => 0))), (r8_1, .inl (cA, 7, .inl (fun _ => 0))), (q12, .inr (5, [.ref q4, .int 0, .int 0, .ref r17_0, .ref r17_1, .ref r17_2, .ref r17_3, .ref r17_4, .ref r17_5])), (r17_0, .inl (cA, 12, .inl (fun _ => 0))), (r17_1, .inl (cA, 48, .inl (fun _ => 0))), (r17_2, .inl (cA, 12, .inl (fun _ => 0))), (r17_3, .inl (cA, 12, .inl (fun _ => 0))), (r17_4, .inl (cA, 4, .inl (fun _ => 0))), (r17_5, .inl (cA, 16, .inl (fun _ => 0))), (q21, .inr (4, [.int 0, .ref r25_0, .ref r25_1, .ref r25_2, .ref r25_3, .ref r25_4, .ref r25_5])), (r25_0, .inl (cA, 16, .inl (fun _ => 0))), (r25_1, .inl (cA, 16, .inl (fun _ => 0))), (r25_2, .inl (cA, 16, .inl (fun _ => 0))), (r25_3, .inl (cA, 16, .inl (fun _ => 0))), (r25_4, .inl (cA, 16, .inl (fun _ => 0))), (r25_5, .inl (cA, 16, .inl (fun _ => 0))), (q45, .inr (7, [.ref q4, .ref q12, .ref q21, .ref r52_0, .ref r52_1, .ref r52_2, .int 0])), (r52_0, .inl (cA, 144, .inl (fun _ => 0))), (r52_1, .inl (cA, 144, .inl (fun _ => 0))), (r52_2, .inl (cA, 4, .inl (fun _ => 0)))] := hD
  refine lv_aload_n hx hb dX8_init_58 rfl (lv_at hl 3 rfl) ?_
  refine va_new (ci := 3) (fs := [.null, .null, .null, .null, .null, .null, .int 0]) (C := RX0) (T := TX0) (N := 7) hx hb hts gx_X0 tyX0 tyX0_ok hown (hts _ gv_164) (hts _ gv_165) (hts _ gv_8) hK hP hD hS hA rfl (gi_dfX0) (Nat.le_of_ble_eq_true rfl) (Nat.le_of_ble_eq_true rfl) dX8_init_59 (fun q59 H hP hD hS => ?_)
  have hP : va_P D vwCl [(h0, .inr (10, [.ref q4, .ref q12, .ref q21, .ref q45, .null, .null, .null])), (q4, .inr (6, [.int 0, .int 0, .int 0, .ref r8_0, .ref r8_1])), (r8_0, .inl (cA, 7, .inl (fun _ => 0))), (r8_1, .inl (cA, 7, .inl (fun _ => 0))), (q12, .inr (5, [.ref q4, .int 0, .int 0, .ref r17_0, .ref r17_1, .ref r17_2, .ref r17_3, .ref r17_4, .ref r17_5])), (r17_0, .inl (cA, 12, .inl (fun _ => 0))), (r17_1, .inl (cA, 48, .inl (fun _ => 0))), (r17_2, .inl (cA, 12, .inl (fun _ => 0))), (r17_3, .inl (cA, 12, .inl (fun _ => 0))), (r17_4, .inl (cA, 4, .inl (fun _ => 0))), (r17_5, .inl (cA, 16, .inl (fun _ => 0))), (q21, .inr (4, [.int 0, .ref r25_0, .ref r25_1, .ref r25_2, .ref r25_3, .ref r25_4, .ref r25_5])), (r25_0, .inl (cA, 16, .inl (fun _ => 0))), (r25_1, .inl (cA, 16, .inl (fun _ => 0))), (r25_2, .inl (cA, 16, .inl (fun _ => 0))), (r25_3, .inl (cA, 16, .inl (fun _ => 0))), (r25_4, .inl (cA, 16, .inl (fun _ => 0))), (r25_5, .inl (cA, 16, .inl (fun _ => 0))), (q45, .inr (7, [.ref q4, .ref q12, .ref q21, .ref r52_0, .ref r52_1, .ref r52_2, .int 0])), (r52_0, .inl (cA, 144, .inl (fun _ => 0))), (r52_1, .inl (cA, 144, .inl (fun _ => 0))), (r52_2, .inl (cA, 4, .inl (fun _ => 0))), (q59, .inr (3, [.null, .null, .null, .null, .null, .null, .int 0]))] H := hP
  have hD : va_D A [(h0, .inr (10, [.ref q4, .ref q12, .ref q21, .ref q45, .null, .null, .null])), (q4, .inr (6, [.int 0, .int 0, .int 0, .ref r8_0, .ref r8_1])), (r8_0, .inl (cA, 7, .inl (fun _ => 0))), (r8_1, .inl (cA, 7, .inl (fun _ => 0))), (q12, .inr (5, [.ref q4, .int 0, .int 0, .ref r17_0, .ref r17_1, .ref r17_2, .ref r17_3, .ref r17_4, .ref r17_5])), (r17_0, .inl (cA, 12, .inl (fun _ => 0))), (r17_1, .inl (cA, 48, .inl (fun _ => 0))), (r17_2, .inl (cA, 12, .inl (fun _ => 0))), (r17_3, .inl (cA, 12, .inl (fun _ => 0))), (r17_4, .inl (cA, 4, .inl (fun _ => 0))), (r17_5, .inl (cA, 16, .inl (fun _ => 0))), (q21, .inr (4, [.int 0, .ref r25_0, .ref r25_1, .ref r25_2, .ref r25_3, .ref r25_4, .ref r25_5])), (r25_0, .inl (cA, 16, .inl (fun _ => 0))), (r25_1, .inl (cA, 16, .inl (fun _ => 0))), (r25_2, .inl (cA, 16, .inl (fun _ => 0))), (r25_3, .inl (cA, 16, .inl (fun _ => 0))), (r25_4, .inl (cA, 16, .inl (fun _ => 0))), (r25_5, .inl (cA, 16, .inl (fun _ => 0))), (q45, .inr (7, [.ref q4, .ref q12, .ref q21, .ref r52_0, .ref r52_1, .ref r52_2, .int 0])), (r52_0, .inl (cA, 144, .inl (fun _ => 0))), (r52_1, .inl (cA, 144, .inl (fun _ => 0))), (r52_2, .inl (cA, 4, .inl (fun _ => 0))), (q59, .inr (3, [.null, .null, .null, .null, .null, .null, .int 0]))] := hD
  refine W.widen (k := 22) (n := 541) (Nat.le_of_ble_eq_true rfl) (Nat.le_of_ble_eq_true rfl) ?_
  refine lv_dup hx hb dX8_init_62 rfl ?_
  refine lv_aload_n hx hb dX8_init_63 rfl (lv_at hl 2 rfl) ?_
  refine lv_aload_n hx hb dX8_init_64 rfl (lv_at hl 1 rfl) ?_
  refine lv_aload_n hx hb dX8_init_65 rfl (lv_at hl 0 rfl) ?_
  have hPc := hP.sub (ws' := [(q59, .inr (3, [.null, .null, .null, .null, .null, .null, .int 0]))]) [22] rfl
  have hDc := hD.sub (ws' := [(q59, .inr (3, [.null, .null, .null, .null, .null, .null, .int 0]))]) [22] (by decide) rfl
  have hFc := va_free (wc := [(q59, .inr (3, [.null, .null, .null, .null, .null, .null, .int 0]))]) hD hS hA [22] rfl
  refine va_callv (va_runI (As := [.ref q4, .ref q12, .ref q21]) (rest := [.ref q59, .ref h0]) ⟨hx, hb, hml, hown, hts⟩ (gi_X0_init l D cA q59 q4 q12 q21 H.size) (gi_cw hts gk_X0_init gv_166 gv_167 (by decide +kernel) rfl rfl ⟨Nat.le_of_ble_eq_true rfl, Nat.le_of_ble_eq_true rfl⟩) ⟨gi_blind _ _ _ _ _, fun U hU hW => ⟨rfl, gi_pre hPc hK hDc U hU hW⟩⟩ rfl rfl hl.1 rfl (lv_room (Nat.le_of_ble_eq_true rfl)) dX8_init_66 ⟨Nat.le_of_ble_eq_true rfl, Nat.le_of_ble_eq_true rfl⟩) hS (fun q _ h => hFc q h) hFc (fun u t H1 locs ht hvm hw hB hz1 hk1 hS => ?_)
  obtain ⟨r66_0, r66_1, r66_2, hP1, hD1⟩ := hB
  rw [ht] at hP1
  obtain ⟨hP, hD⟩ := va_join (wr := [(h0, .inr (10, [.ref q4, .ref q12, .ref q21, .ref q45, .null, .null, .null])), (q4, .inr (6, [.int 0, .int 0, .int 0, .ref r8_0, .ref r8_1])), (r8_0, .inl (cA, 7, .inl (fun _ => 0))), (r8_1, .inl (cA, 7, .inl (fun _ => 0))), (q12, .inr (5, [.ref q4, .int 0, .int 0, .ref r17_0, .ref r17_1, .ref r17_2, .ref r17_3, .ref r17_4, .ref r17_5])), (r17_0, .inl (cA, 12, .inl (fun _ => 0))), (r17_1, .inl (cA, 48, .inl (fun _ => 0))), (r17_2, .inl (cA, 12, .inl (fun _ => 0))), (r17_3, .inl (cA, 12, .inl (fun _ => 0))), (r17_4, .inl (cA, 4, .inl (fun _ => 0))), (r17_5, .inl (cA, 16, .inl (fun _ => 0))), (q21, .inr (4, [.int 0, .ref r25_0, .ref r25_1, .ref r25_2, .ref r25_3, .ref r25_4, .ref r25_5])), (r25_0, .inl (cA, 16, .inl (fun _ => 0))), (r25_1, .inl (cA, 16, .inl (fun _ => 0))), (r25_2, .inl (cA, 16, .inl (fun _ => 0))), (r25_3, .inl (cA, 16, .inl (fun _ => 0))), (r25_4, .inl (cA, 16, .inl (fun _ => 0))), (r25_5, .inl (cA, 16, .inl (fun _ => 0))), (q45, .inr (7, [.ref q4, .ref q12, .ref q21, .ref r52_0, .ref r52_1, .ref r52_2, .int 0])), (r52_0, .inl (cA, 144, .inl (fun _ => 0))), (r52_1, .inl (cA, 144, .inl (fun _ => 0))), (r52_2, .inl (cA, 4, .inl (fun _ => 0)))]) (w1 := [(q59, .inr (3, [.ref q4, .ref q12, .ref q21, .ref r66_0, .ref r66_1, .ref r66_2, .int 0])), (r66_0, .inl (cA, 144, .inl (fun _ => 0))), (r66_1, .inl (cA, 144, .inl (fun _ => 0))), (r66_2, .inl (cA, 4, .inl (fun _ => 0)))]) hP hD [22] [0, 1, 2, 3, 4, 5, 6, 7, 8, 9, 10, 11, 12, 13, 14, 15, 16, 17, 18, 19, 20, 21] rfl rfl (by decide) (by decide) hk1 hFc hP1 hD1
  generalize H1 = H at hP hS ⊢
  have hP : va_P D vwCl [(h0, .inr (10, [.ref q4, .ref q12, .ref q21, .ref q45, .null, .null, .null])), (q4, .inr (6, [.int 0, .int 0, .int 0, .ref r8_0, .ref r8_1])), (r8_0, .inl (cA, 7, .inl (fun _ => 0))), (r8_1, .inl (cA, 7, .inl (fun _ => 0))), (q12, .inr (5, [.ref q4, .int 0, .int 0, .ref r17_0, .ref r17_1, .ref r17_2, .ref r17_3, .ref r17_4, .ref r17_5])), (r17_0, .inl (cA, 12, .inl (fun _ => 0))), (r17_1, .inl (cA, 48, .inl (fun _ => 0))), (r17_2, .inl (cA, 12, .inl (fun _ => 0))), (r17_3, .inl (cA, 12, .inl (fun _ => 0))), (r17_4, .inl (cA, 4, .inl (fun _ => 0))), (r17_5, .inl (cA, 16, .inl (fun _ => 0))), (q21, .inr (4, [.int 0, .ref r25_0, .ref r25_1, .ref r25_2, .ref r25_3, .ref r25_4, .ref r25_5])), (r25_0, .inl (cA, 16, .inl (fun _ => 0))), (r25_1, .inl (cA, 16, .inl (fun _ => 0))), (r25_2, .inl (cA, 16, .inl (fun _ => 0))), (r25_3, .inl (cA, 16, .inl (fun _ => 0))), (r25_4, .inl (cA, 16, .inl (fun _ => 0))), (r25_5, .inl (cA, 16, .inl (fun _ => 0))), (q45, .inr (7, [.ref q4, .ref q12, .ref q21, .ref r52_0, .ref r52_1, .ref r52_2, .int 0])), (r52_0, .inl (cA, 144, .inl (fun _ => 0))), (r52_1, .inl (cA, 144, .inl (fun _ => 0))), (r52_2, .inl (cA, 4, .inl (fun _ => 0))), (q59, .inr (3, [.ref q4, .ref q12, .ref q21, .ref r66_0, .ref r66_1, .ref r66_2, .int 0])), (r66_0, .inl (cA, 144, .inl (fun _ => 0))), (r66_1, .inl (cA, 144, .inl (fun _ => 0))), (r66_2, .inl (cA, 4, .inl (fun _ => 0)))] H := hP
  have hD : va_D A [(h0, .inr (10, [.ref q4, .ref q12, .ref q21, .ref q45, .null, .null, .null])), (q4, .inr (6, [.int 0, .int 0, .int 0, .ref r8_0, .ref r8_1])), (r8_0, .inl (cA, 7, .inl (fun _ => 0))), (r8_1, .inl (cA, 7, .inl (fun _ => 0))), (q12, .inr (5, [.ref q4, .int 0, .int 0, .ref r17_0, .ref r17_1, .ref r17_2, .ref r17_3, .ref r17_4, .ref r17_5])), (r17_0, .inl (cA, 12, .inl (fun _ => 0))), (r17_1, .inl (cA, 48, .inl (fun _ => 0))), (r17_2, .inl (cA, 12, .inl (fun _ => 0))), (r17_3, .inl (cA, 12, .inl (fun _ => 0))), (r17_4, .inl (cA, 4, .inl (fun _ => 0))), (r17_5, .inl (cA, 16, .inl (fun _ => 0))), (q21, .inr (4, [.int 0, .ref r25_0, .ref r25_1, .ref r25_2, .ref r25_3, .ref r25_4, .ref r25_5])), (r25_0, .inl (cA, 16, .inl (fun _ => 0))), (r25_1, .inl (cA, 16, .inl (fun _ => 0))), (r25_2, .inl (cA, 16, .inl (fun _ => 0))), (r25_3, .inl (cA, 16, .inl (fun _ => 0))), (r25_4, .inl (cA, 16, .inl (fun _ => 0))), (r25_5, .inl (cA, 16, .inl (fun _ => 0))), (q45, .inr (7, [.ref q4, .ref q12, .ref q21, .ref r52_0, .ref r52_1, .ref r52_2, .int 0])), (r52_0, .inl (cA, 144, .inl (fun _ => 0))), (r52_1, .inl (cA, 144, .inl (fun _ => 0))), (r52_2, .inl (cA, 4, .inl (fun _ => 0))), (q59, .inr (3, [.ref q4, .ref q12, .ref q21, .ref r66_0, .ref r66_1, .ref r66_2, .int 0])), (r66_0, .inl (cA, 144, .inl (fun _ => 0))), (r66_1, .inl (cA, 144, .inl (fun _ => 0))), (r66_2, .inl (cA, 4, .inl (fun _ => 0)))] := hD
  refine W.widen (k := 25) (n := 833) (Nat.le_of_ble_eq_true rfl) (Nat.le_of_ble_eq_true rfl) ?_
  refine va_putF (D := D) (ci := 10) (v := .ref q59) (ty := .object "Genericwood$Way") (C := RX8) (T := TX8) (N := 7) hx hb hts gx_X8 tyX8 tyX8_ok nmX8 hown hK hP hD hS 0 rfl rfl 4 (by decide) (hts _ gv_218) (fun _ h9 => h9) rfl hin rfl (by decide +kernel) rfl rfl (Nat.le_of_ble_eq_true rfl) dX8_init_69 (fun H locs hP hD hS => ?_)
  have hP : va_P D vwCl [(h0, .inr (10, [.ref q4, .ref q12, .ref q21, .ref q45, .ref q59, .null, .null])), (q4, .inr (6, [.int 0, .int 0, .int 0, .ref r8_0, .ref r8_1])), (r8_0, .inl (cA, 7, .inl (fun _ => 0))), (r8_1, .inl (cA, 7, .inl (fun _ => 0))), (q12, .inr (5, [.ref q4, .int 0, .int 0, .ref r17_0, .ref r17_1, .ref r17_2, .ref r17_3, .ref r17_4, .ref r17_5])), (r17_0, .inl (cA, 12, .inl (fun _ => 0))), (r17_1, .inl (cA, 48, .inl (fun _ => 0))), (r17_2, .inl (cA, 12, .inl (fun _ => 0))), (r17_3, .inl (cA, 12, .inl (fun _ => 0))), (r17_4, .inl (cA, 4, .inl (fun _ => 0))), (r17_5, .inl (cA, 16, .inl (fun _ => 0))), (q21, .inr (4, [.int 0, .ref r25_0, .ref r25_1, .ref r25_2, .ref r25_3, .ref r25_4, .ref r25_5])), (r25_0, .inl (cA, 16, .inl (fun _ => 0))), (r25_1, .inl (cA, 16, .inl (fun _ => 0))), (r25_2, .inl (cA, 16, .inl (fun _ => 0))), (r25_3, .inl (cA, 16, .inl (fun _ => 0))), (r25_4, .inl (cA, 16, .inl (fun _ => 0))), (r25_5, .inl (cA, 16, .inl (fun _ => 0))), (q45, .inr (7, [.ref q4, .ref q12, .ref q21, .ref r52_0, .ref r52_1, .ref r52_2, .int 0])), (r52_0, .inl (cA, 144, .inl (fun _ => 0))), (r52_1, .inl (cA, 144, .inl (fun _ => 0))), (r52_2, .inl (cA, 4, .inl (fun _ => 0))), (q59, .inr (3, [.ref q4, .ref q12, .ref q21, .ref r66_0, .ref r66_1, .ref r66_2, .int 0])), (r66_0, .inl (cA, 144, .inl (fun _ => 0))), (r66_1, .inl (cA, 144, .inl (fun _ => 0))), (r66_2, .inl (cA, 4, .inl (fun _ => 0)))] H := hP
  have hD : va_D A [(h0, .inr (10, [.ref q4, .ref q12, .ref q21, .ref q45, .ref q59, .null, .null])), (q4, .inr (6, [.int 0, .int 0, .int 0, .ref r8_0, .ref r8_1])), (r8_0, .inl (cA, 7, .inl (fun _ => 0))), (r8_1, .inl (cA, 7, .inl (fun _ => 0))), (q12, .inr (5, [.ref q4, .int 0, .int 0, .ref r17_0, .ref r17_1, .ref r17_2, .ref r17_3, .ref r17_4, .ref r17_5])), (r17_0, .inl (cA, 12, .inl (fun _ => 0))), (r17_1, .inl (cA, 48, .inl (fun _ => 0))), (r17_2, .inl (cA, 12, .inl (fun _ => 0))), (r17_3, .inl (cA, 12, .inl (fun _ => 0))), (r17_4, .inl (cA, 4, .inl (fun _ => 0))), (r17_5, .inl (cA, 16, .inl (fun _ => 0))), (q21, .inr (4, [.int 0, .ref r25_0, .ref r25_1, .ref r25_2, .ref r25_3, .ref r25_4, .ref r25_5])), (r25_0, .inl (cA, 16, .inl (fun _ => 0))), (r25_1, .inl (cA, 16, .inl (fun _ => 0))), (r25_2, .inl (cA, 16, .inl (fun _ => 0))), (r25_3, .inl (cA, 16, .inl (fun _ => 0))), (r25_4, .inl (cA, 16, .inl (fun _ => 0))), (r25_5, .inl (cA, 16, .inl (fun _ => 0))), (q45, .inr (7, [.ref q4, .ref q12, .ref q21, .ref r52_0, .ref r52_1, .ref r52_2, .int 0])), (r52_0, .inl (cA, 144, .inl (fun _ => 0))), (r52_1, .inl (cA, 144, .inl (fun _ => 0))), (r52_2, .inl (cA, 4, .inl (fun _ => 0))), (q59, .inr (3, [.ref q4, .ref q12, .ref q21, .ref r66_0, .ref r66_1, .ref r66_2, .int 0])), (r66_0, .inl (cA, 144, .inl (fun _ => 0))), (r66_1, .inl (cA, 144, .inl (fun _ => 0))), (r66_2, .inl (cA, 4, .inl (fun _ => 0)))] := hD
  refine lv_aload_n hx hb dX8_init_72 rfl (lv_at hl 3 rfl) ?_
  refine va_new (ci := 8) (fs := [.null, .null, .null, .null, .null, .null, .int 0]) (C := RX6) (T := TX6) (N := 7) hx hb hts gx_X6 tyX6 tyX6_ok hown (hts _ gv_181) (hts _ gv_182) (hts _ gv_7) hK hP hD hS hA rfl (gi_dfX6) (Nat.le_of_ble_eq_true rfl) (Nat.le_of_ble_eq_true rfl) dX8_init_73 (fun q73 H hP hD hS => ?_)
  have hP : va_P D vwCl [(h0, .inr (10, [.ref q4, .ref q12, .ref q21, .ref q45, .ref q59, .null, .null])), (q4, .inr (6, [.int 0, .int 0, .int 0, .ref r8_0, .ref r8_1])), (r8_0, .inl (cA, 7, .inl (fun _ => 0))), (r8_1, .inl (cA, 7, .inl (fun _ => 0))), (q12, .inr (5, [.ref q4, .int 0, .int 0, .ref r17_0, .ref r17_1, .ref r17_2, .ref r17_3, .ref r17_4, .ref r17_5])), (r17_0, .inl (cA, 12, .inl (fun _ => 0))), (r17_1, .inl (cA, 48, .inl (fun _ => 0))), (r17_2, .inl (cA, 12, .inl (fun _ => 0))), (r17_3, .inl (cA, 12, .inl (fun _ => 0))), (r17_4, .inl (cA, 4, .inl (fun _ => 0))), (r17_5, .inl (cA, 16, .inl (fun _ => 0))), (q21, .inr (4, [.int 0, .ref r25_0, .ref r25_1, .ref r25_2, .ref r25_3, .ref r25_4, .ref r25_5])), (r25_0, .inl (cA, 16, .inl (fun _ => 0))), (r25_1, .inl (cA, 16, .inl (fun _ => 0))), (r25_2, .inl (cA, 16, .inl (fun _ => 0))), (r25_3, .inl (cA, 16, .inl (fun _ => 0))), (r25_4, .inl (cA, 16, .inl (fun _ => 0))), (r25_5, .inl (cA, 16, .inl (fun _ => 0))), (q45, .inr (7, [.ref q4, .ref q12, .ref q21, .ref r52_0, .ref r52_1, .ref r52_2, .int 0])), (r52_0, .inl (cA, 144, .inl (fun _ => 0))), (r52_1, .inl (cA, 144, .inl (fun _ => 0))), (r52_2, .inl (cA, 4, .inl (fun _ => 0))), (q59, .inr (3, [.ref q4, .ref q12, .ref q21, .ref r66_0, .ref r66_1, .ref r66_2, .int 0])), (r66_0, .inl (cA, 144, .inl (fun _ => 0))), (r66_1, .inl (cA, 144, .inl (fun _ => 0))), (r66_2, .inl (cA, 4, .inl (fun _ => 0))), (q73, .inr (8, [.null, .null, .null, .null, .null, .null, .int 0]))] H := hP
  have hD : va_D A [(h0, .inr (10, [.ref q4, .ref q12, .ref q21, .ref q45, .ref q59, .null, .null])), (q4, .inr (6, [.int 0, .int 0, .int 0, .ref r8_0, .ref r8_1])), (r8_0, .inl (cA, 7, .inl (fun _ => 0))), (r8_1, .inl (cA, 7, .inl (fun _ => 0))), (q12, .inr (5, [.ref q4, .int 0, .int 0, .ref r17_0, .ref r17_1, .ref r17_2, .ref r17_3, .ref r17_4, .ref r17_5])), (r17_0, .inl (cA, 12, .inl (fun _ => 0))), (r17_1, .inl (cA, 48, .inl (fun _ => 0))), (r17_2, .inl (cA, 12, .inl (fun _ => 0))), (r17_3, .inl (cA, 12, .inl (fun _ => 0))), (r17_4, .inl (cA, 4, .inl (fun _ => 0))), (r17_5, .inl (cA, 16, .inl (fun _ => 0))), (q21, .inr (4, [.int 0, .ref r25_0, .ref r25_1, .ref r25_2, .ref r25_3, .ref r25_4, .ref r25_5])), (r25_0, .inl (cA, 16, .inl (fun _ => 0))), (r25_1, .inl (cA, 16, .inl (fun _ => 0))), (r25_2, .inl (cA, 16, .inl (fun _ => 0))), (r25_3, .inl (cA, 16, .inl (fun _ => 0))), (r25_4, .inl (cA, 16, .inl (fun _ => 0))), (r25_5, .inl (cA, 16, .inl (fun _ => 0))), (q45, .inr (7, [.ref q4, .ref q12, .ref q21, .ref r52_0, .ref r52_1, .ref r52_2, .int 0])), (r52_0, .inl (cA, 144, .inl (fun _ => 0))), (r52_1, .inl (cA, 144, .inl (fun _ => 0))), (r52_2, .inl (cA, 4, .inl (fun _ => 0))), (q59, .inr (3, [.ref q4, .ref q12, .ref q21, .ref r66_0, .ref r66_1, .ref r66_2, .int 0])), (r66_0, .inl (cA, 144, .inl (fun _ => 0))), (r66_1, .inl (cA, 144, .inl (fun _ => 0))), (r66_2, .inl (cA, 4, .inl (fun _ => 0))), (q73, .inr (8, [.null, .null, .null, .null, .null, .null, .int 0]))] := hD
  refine W.widen (k := 26) (n := 840) (Nat.le_of_ble_eq_true rfl) (Nat.le_of_ble_eq_true rfl) ?_
  refine lv_dup hx hb dX8_init_76 rfl ?_
  refine lv_aload_n hx hb dX8_init_77 rfl (lv_at hl 2 rfl) ?_
  refine lv_aload_n hx hb dX8_init_78 rfl (lv_at hl 1 rfl) ?_
  refine lv_aload_n hx hb dX8_init_79 rfl (lv_at hl 0 rfl) ?_
  have hPc := hP.sub (ws' := [(q73, .inr (8, [.null, .null, .null, .null, .null, .null, .int 0]))]) [26] rfl
  have hDc := hD.sub (ws' := [(q73, .inr (8, [.null, .null, .null, .null, .null, .null, .int 0]))]) [26] (by decide) rfl
  have hFc := va_free (wc := [(q73, .inr (8, [.null, .null, .null, .null, .null, .null, .int 0]))]) hD hS hA [26] rfl
  refine va_callv (va_runI (As := [.ref q4, .ref q12, .ref q21]) (rest := [.ref q73, .ref h0]) ⟨hx, hb, hml, hown, hts⟩ (gi_X6_init l D cA q73 q4 q12 q21 H.size) (gi_cw hts gk_X6_init gv_183 gv_170 (by decide +kernel) rfl rfl ⟨Nat.le_of_ble_eq_true rfl, Nat.le_of_ble_eq_true rfl⟩) ⟨gi_blind _ _ _ _ _, fun U hU hW => ⟨rfl, gi_pre hPc hK hDc U hU hW⟩⟩ rfl rfl hl.1 rfl (lv_room (Nat.le_of_ble_eq_true rfl)) dX8_init_80 ⟨Nat.le_of_ble_eq_true rfl, Nat.le_of_ble_eq_true rfl⟩) hS (fun q _ h => hFc q h) hFc (fun u t H1 locs ht hvm hw hB hz1 hk1 hS => ?_)
  obtain ⟨r80_0, r80_1, r80_2, hP1, hD1⟩ := hB
  rw [ht] at hP1
  obtain ⟨hP, hD⟩ := va_join (wr := [(h0, .inr (10, [.ref q4, .ref q12, .ref q21, .ref q45, .ref q59, .null, .null])), (q4, .inr (6, [.int 0, .int 0, .int 0, .ref r8_0, .ref r8_1])), (r8_0, .inl (cA, 7, .inl (fun _ => 0))), (r8_1, .inl (cA, 7, .inl (fun _ => 0))), (q12, .inr (5, [.ref q4, .int 0, .int 0, .ref r17_0, .ref r17_1, .ref r17_2, .ref r17_3, .ref r17_4, .ref r17_5])), (r17_0, .inl (cA, 12, .inl (fun _ => 0))), (r17_1, .inl (cA, 48, .inl (fun _ => 0))), (r17_2, .inl (cA, 12, .inl (fun _ => 0))), (r17_3, .inl (cA, 12, .inl (fun _ => 0))), (r17_4, .inl (cA, 4, .inl (fun _ => 0))), (r17_5, .inl (cA, 16, .inl (fun _ => 0))), (q21, .inr (4, [.int 0, .ref r25_0, .ref r25_1, .ref r25_2, .ref r25_3, .ref r25_4, .ref r25_5])), (r25_0, .inl (cA, 16, .inl (fun _ => 0))), (r25_1, .inl (cA, 16, .inl (fun _ => 0))), (r25_2, .inl (cA, 16, .inl (fun _ => 0))), (r25_3, .inl (cA, 16, .inl (fun _ => 0))), (r25_4, .inl (cA, 16, .inl (fun _ => 0))), (r25_5, .inl (cA, 16, .inl (fun _ => 0))), (q45, .inr (7, [.ref q4, .ref q12, .ref q21, .ref r52_0, .ref r52_1, .ref r52_2, .int 0])), (r52_0, .inl (cA, 144, .inl (fun _ => 0))), (r52_1, .inl (cA, 144, .inl (fun _ => 0))), (r52_2, .inl (cA, 4, .inl (fun _ => 0))), (q59, .inr (3, [.ref q4, .ref q12, .ref q21, .ref r66_0, .ref r66_1, .ref r66_2, .int 0])), (r66_0, .inl (cA, 144, .inl (fun _ => 0))), (r66_1, .inl (cA, 144, .inl (fun _ => 0))), (r66_2, .inl (cA, 4, .inl (fun _ => 0)))]) (w1 := [(q73, .inr (8, [.ref q4, .ref q12, .ref q21, .ref r80_0, .ref r80_1, .ref r80_2, .int 0])), (r80_0, .inl (cA, 144, .inl (fun _ => 0))), (r80_1, .inl (cA, 144, .inl (fun _ => 0))), (r80_2, .inl (cA, 4, .inl (fun _ => 0)))]) hP hD [26] [0, 1, 2, 3, 4, 5, 6, 7, 8, 9, 10, 11, 12, 13, 14, 15, 16, 17, 18, 19, 20, 21, 22, 23, 24, 25] rfl rfl (by decide) (by decide) hk1 hFc hP1 hD1
  generalize H1 = H at hP hS ⊢
  have hP : va_P D vwCl [(h0, .inr (10, [.ref q4, .ref q12, .ref q21, .ref q45, .ref q59, .null, .null])), (q4, .inr (6, [.int 0, .int 0, .int 0, .ref r8_0, .ref r8_1])), (r8_0, .inl (cA, 7, .inl (fun _ => 0))), (r8_1, .inl (cA, 7, .inl (fun _ => 0))), (q12, .inr (5, [.ref q4, .int 0, .int 0, .ref r17_0, .ref r17_1, .ref r17_2, .ref r17_3, .ref r17_4, .ref r17_5])), (r17_0, .inl (cA, 12, .inl (fun _ => 0))), (r17_1, .inl (cA, 48, .inl (fun _ => 0))), (r17_2, .inl (cA, 12, .inl (fun _ => 0))), (r17_3, .inl (cA, 12, .inl (fun _ => 0))), (r17_4, .inl (cA, 4, .inl (fun _ => 0))), (r17_5, .inl (cA, 16, .inl (fun _ => 0))), (q21, .inr (4, [.int 0, .ref r25_0, .ref r25_1, .ref r25_2, .ref r25_3, .ref r25_4, .ref r25_5])), (r25_0, .inl (cA, 16, .inl (fun _ => 0))), (r25_1, .inl (cA, 16, .inl (fun _ => 0))), (r25_2, .inl (cA, 16, .inl (fun _ => 0))), (r25_3, .inl (cA, 16, .inl (fun _ => 0))), (r25_4, .inl (cA, 16, .inl (fun _ => 0))), (r25_5, .inl (cA, 16, .inl (fun _ => 0))), (q45, .inr (7, [.ref q4, .ref q12, .ref q21, .ref r52_0, .ref r52_1, .ref r52_2, .int 0])), (r52_0, .inl (cA, 144, .inl (fun _ => 0))), (r52_1, .inl (cA, 144, .inl (fun _ => 0))), (r52_2, .inl (cA, 4, .inl (fun _ => 0))), (q59, .inr (3, [.ref q4, .ref q12, .ref q21, .ref r66_0, .ref r66_1, .ref r66_2, .int 0])), (r66_0, .inl (cA, 144, .inl (fun _ => 0))), (r66_1, .inl (cA, 144, .inl (fun _ => 0))), (r66_2, .inl (cA, 4, .inl (fun _ => 0))), (q73, .inr (8, [.ref q4, .ref q12, .ref q21, .ref r80_0, .ref r80_1, .ref r80_2, .int 0])), (r80_0, .inl (cA, 144, .inl (fun _ => 0))), (r80_1, .inl (cA, 144, .inl (fun _ => 0))), (r80_2, .inl (cA, 4, .inl (fun _ => 0)))] H := hP
  have hD : va_D A [(h0, .inr (10, [.ref q4, .ref q12, .ref q21, .ref q45, .ref q59, .null, .null])), (q4, .inr (6, [.int 0, .int 0, .int 0, .ref r8_0, .ref r8_1])), (r8_0, .inl (cA, 7, .inl (fun _ => 0))), (r8_1, .inl (cA, 7, .inl (fun _ => 0))), (q12, .inr (5, [.ref q4, .int 0, .int 0, .ref r17_0, .ref r17_1, .ref r17_2, .ref r17_3, .ref r17_4, .ref r17_5])), (r17_0, .inl (cA, 12, .inl (fun _ => 0))), (r17_1, .inl (cA, 48, .inl (fun _ => 0))), (r17_2, .inl (cA, 12, .inl (fun _ => 0))), (r17_3, .inl (cA, 12, .inl (fun _ => 0))), (r17_4, .inl (cA, 4, .inl (fun _ => 0))), (r17_5, .inl (cA, 16, .inl (fun _ => 0))), (q21, .inr (4, [.int 0, .ref r25_0, .ref r25_1, .ref r25_2, .ref r25_3, .ref r25_4, .ref r25_5])), (r25_0, .inl (cA, 16, .inl (fun _ => 0))), (r25_1, .inl (cA, 16, .inl (fun _ => 0))), (r25_2, .inl (cA, 16, .inl (fun _ => 0))), (r25_3, .inl (cA, 16, .inl (fun _ => 0))), (r25_4, .inl (cA, 16, .inl (fun _ => 0))), (r25_5, .inl (cA, 16, .inl (fun _ => 0))), (q45, .inr (7, [.ref q4, .ref q12, .ref q21, .ref r52_0, .ref r52_1, .ref r52_2, .int 0])), (r52_0, .inl (cA, 144, .inl (fun _ => 0))), (r52_1, .inl (cA, 144, .inl (fun _ => 0))), (r52_2, .inl (cA, 4, .inl (fun _ => 0))), (q59, .inr (3, [.ref q4, .ref q12, .ref q21, .ref r66_0, .ref r66_1, .ref r66_2, .int 0])), (r66_0, .inl (cA, 144, .inl (fun _ => 0))), (r66_1, .inl (cA, 144, .inl (fun _ => 0))), (r66_2, .inl (cA, 4, .inl (fun _ => 0))), (q73, .inr (8, [.ref q4, .ref q12, .ref q21, .ref r80_0, .ref r80_1, .ref r80_2, .int 0])), (r80_0, .inl (cA, 144, .inl (fun _ => 0))), (r80_1, .inl (cA, 144, .inl (fun _ => 0))), (r80_2, .inl (cA, 4, .inl (fun _ => 0)))] := hD
  refine W.widen (k := 29) (n := 1132) (Nat.le_of_ble_eq_true rfl) (Nat.le_of_ble_eq_true rfl) ?_
  refine va_putF (D := D) (ci := 10) (v := .ref q73) (ty := .object "Genericwood$Way") (C := RX8) (T := TX8) (N := 7) hx hb hts gx_X8 tyX8 tyX8_ok nmX8 hown hK hP hD hS 0 rfl rfl 5 (by decide) (hts _ gv_219) (fun _ h9 => h9) rfl hin rfl (by decide +kernel) rfl rfl (Nat.le_of_ble_eq_true rfl) dX8_init_83 (fun H locs hP hD hS => ?_)
  have hP : va_P D vwCl [(h0, .inr (10, [.ref q4, .ref q12, .ref q21, .ref q45, .ref q59, .ref q73, .null])), (q4, .inr (6, [.int 0, .int 0, .int 0, .ref r8_0, .ref r8_1])), (r8_0, .inl (cA, 7, .inl (fun _ => 0))), (r8_1, .inl (cA, 7, .inl (fun _ => 0))), (q12, .inr (5, [.ref q4, .int 0, .int 0, .ref r17_0, .ref r17_1, .ref r17_2, .ref r17_3, .ref r17_4, .ref r17_5])), (r17_0, .inl (cA, 12, .inl (fun _ => 0))), (r17_1, .inl (cA, 48, .inl (fun _ => 0))), (r17_2, .inl (cA, 12, .inl (fun _ => 0))), (r17_3, .inl (cA, 12, .inl (fun _ => 0))), (r17_4, .inl (cA, 4, .inl (fun _ => 0))), (r17_5, .inl (cA, 16, .inl (fun _ => 0))), (q21, .inr (4, [.int 0, .ref r25_0, .ref r25_1, .ref r25_2, .ref r25_3, .ref r25_4, .ref r25_5])), (r25_0, .inl (cA, 16, .inl (fun _ => 0))), (r25_1, .inl (cA, 16, .inl (fun _ => 0))), (r25_2, .inl (cA, 16, .inl (fun _ => 0))), (r25_3, .inl (cA, 16, .inl (fun _ => 0))), (r25_4, .inl (cA, 16, .inl (fun _ => 0))), (r25_5, .inl (cA, 16, .inl (fun _ => 0))), (q45, .inr (7, [.ref q4, .ref q12, .ref q21, .ref r52_0, .ref r52_1, .ref r52_2, .int 0])), (r52_0, .inl (cA, 144, .inl (fun _ => 0))), (r52_1, .inl (cA, 144, .inl (fun _ => 0))), (r52_2, .inl (cA, 4, .inl (fun _ => 0))), (q59, .inr (3, [.ref q4, .ref q12, .ref q21, .ref r66_0, .ref r66_1, .ref r66_2, .int 0])), (r66_0, .inl (cA, 144, .inl (fun _ => 0))), (r66_1, .inl (cA, 144, .inl (fun _ => 0))), (r66_2, .inl (cA, 4, .inl (fun _ => 0))), (q73, .inr (8, [.ref q4, .ref q12, .ref q21, .ref r80_0, .ref r80_1, .ref r80_2, .int 0])), (r80_0, .inl (cA, 144, .inl (fun _ => 0))), (r80_1, .inl (cA, 144, .inl (fun _ => 0))), (r80_2, .inl (cA, 4, .inl (fun _ => 0)))] H := hP
  have hD : va_D A [(h0, .inr (10, [.ref q4, .ref q12, .ref q21, .ref q45, .ref q59, .ref q73, .null])), (q4, .inr (6, [.int 0, .int 0, .int 0, .ref r8_0, .ref r8_1])), (r8_0, .inl (cA, 7, .inl (fun _ => 0))), (r8_1, .inl (cA, 7, .inl (fun _ => 0))), (q12, .inr (5, [.ref q4, .int 0, .int 0, .ref r17_0, .ref r17_1, .ref r17_2, .ref r17_3, .ref r17_4, .ref r17_5])), (r17_0, .inl (cA, 12, .inl (fun _ => 0))), (r17_1, .inl (cA, 48, .inl (fun _ => 0))), (r17_2, .inl (cA, 12, .inl (fun _ => 0))), (r17_3, .inl (cA, 12, .inl (fun _ => 0))), (r17_4, .inl (cA, 4, .inl (fun _ => 0))), (r17_5, .inl (cA, 16, .inl (fun _ => 0))), (q21, .inr (4, [.int 0, .ref r25_0, .ref r25_1, .ref r25_2, .ref r25_3, .ref r25_4, .ref r25_5])), (r25_0, .inl (cA, 16, .inl (fun _ => 0))), (r25_1, .inl (cA, 16, .inl (fun _ => 0))), (r25_2, .inl (cA, 16, .inl (fun _ => 0))), (r25_3, .inl (cA, 16, .inl (fun _ => 0))), (r25_4, .inl (cA, 16, .inl (fun _ => 0))), (r25_5, .inl (cA, 16, .inl (fun _ => 0))), (q45, .inr (7, [.ref q4, .ref q12, .ref q21, .ref r52_0, .ref r52_1, .ref r52_2, .int 0])), (r52_0, .inl (cA, 144, .inl (fun _ => 0))), (r52_1, .inl (cA, 144, .inl (fun _ => 0))), (r52_2, .inl (cA, 4, .inl (fun _ => 0))), (q59, .inr (3, [.ref q4, .ref q12, .ref q21, .ref r66_0, .ref r66_1, .ref r66_2, .int 0])), (r66_0, .inl (cA, 144, .inl (fun _ => 0))), (r66_1, .inl (cA, 144, .inl (fun _ => 0))), (r66_2, .inl (cA, 4, .inl (fun _ => 0))), (q73, .inr (8, [.ref q4, .ref q12, .ref q21, .ref r80_0, .ref r80_1, .ref r80_2, .int 0])), (r80_0, .inl (cA, 144, .inl (fun _ => 0))), (r80_1, .inl (cA, 144, .inl (fun _ => 0))), (r80_2, .inl (cA, 4, .inl (fun _ => 0)))] := hD
  refine lv_aload_n hx hb dX8_init_86 rfl (lv_at hl 3 rfl) ?_
  refine va_new (ci := 9) (fs := [.null, .null, .null, .null, .null]) (C := RX7) (T := TX7) (N := 5) hx hb hts gx_X7 tyX7 tyX7_ok hown (hts _ gv_192) (hts _ gv_193) (hts _ gv_9) hK hP hD hS hA rfl (gi_dfX7) (Nat.le_of_ble_eq_true rfl) (Nat.le_of_ble_eq_true rfl) dX8_init_87 (fun q87 H hP hD hS => ?_)
  have hP : va_P D vwCl [(h0, .inr (10, [.ref q4, .ref q12, .ref q21, .ref q45, .ref q59, .ref q73, .null])), (q4, .inr (6, [.int 0, .int 0, .int 0, .ref r8_0, .ref r8_1])), (r8_0, .inl (cA, 7, .inl (fun _ => 0))), (r8_1, .inl (cA, 7, .inl (fun _ => 0))), (q12, .inr (5, [.ref q4, .int 0, .int 0, .ref r17_0, .ref r17_1, .ref r17_2, .ref r17_3, .ref r17_4, .ref r17_5])), (r17_0, .inl (cA, 12, .inl (fun _ => 0))), (r17_1, .inl (cA, 48, .inl (fun _ => 0))), (r17_2, .inl (cA, 12, .inl (fun _ => 0))), (r17_3, .inl (cA, 12, .inl (fun _ => 0))), (r17_4, .inl (cA, 4, .inl (fun _ => 0))), (r17_5, .inl (cA, 16, .inl (fun _ => 0))), (q21, .inr (4, [.int 0, .ref r25_0, .ref r25_1, .ref r25_2, .ref r25_3, .ref r25_4, .ref r25_5])), (r25_0, .inl (cA, 16, .inl (fun _ => 0))), (r25_1, .inl (cA, 16, .inl (fun _ => 0))), (r25_2, .inl (cA, 16, .inl (fun _ => 0))), (r25_3, .inl (cA, 16, .inl (fun _ => 0))), (r25_4, .inl (cA, 16, .inl (fun _ => 0))), (r25_5, .inl (cA, 16, .inl (fun _ => 0))), (q45, .inr (7, [.ref q4, .ref q12, .ref q21, .ref r52_0, .ref r52_1, .ref r52_2, .int 0])), (r52_0, .inl (cA, 144, .inl (fun _ => 0))), (r52_1, .inl (cA, 144, .inl (fun _ => 0))), (r52_2, .inl (cA, 4, .inl (fun _ => 0))), (q59, .inr (3, [.ref q4, .ref q12, .ref q21, .ref r66_0, .ref r66_1, .ref r66_2, .int 0])), (r66_0, .inl (cA, 144, .inl (fun _ => 0))), (r66_1, .inl (cA, 144, .inl (fun _ => 0))), (r66_2, .inl (cA, 4, .inl (fun _ => 0))), (q73, .inr (8, [.ref q4, .ref q12, .ref q21, .ref r80_0, .ref r80_1, .ref r80_2, .int 0])), (r80_0, .inl (cA, 144, .inl (fun _ => 0))), (r80_1, .inl (cA, 144, .inl (fun _ => 0))), (r80_2, .inl (cA, 4, .inl (fun _ => 0))), (q87, .inr (9, [.null, .null, .null, .null, .null]))] H := hP
  have hD : va_D A [(h0, .inr (10, [.ref q4, .ref q12, .ref q21, .ref q45, .ref q59, .ref q73, .null])), (q4, .inr (6, [.int 0, .int 0, .int 0, .ref r8_0, .ref r8_1])), (r8_0, .inl (cA, 7, .inl (fun _ => 0))), (r8_1, .inl (cA, 7, .inl (fun _ => 0))), (q12, .inr (5, [.ref q4, .int 0, .int 0, .ref r17_0, .ref r17_1, .ref r17_2, .ref r17_3, .ref r17_4, .ref r17_5])), (r17_0, .inl (cA, 12, .inl (fun _ => 0))), (r17_1, .inl (cA, 48, .inl (fun _ => 0))), (r17_2, .inl (cA, 12, .inl (fun _ => 0))), (r17_3, .inl (cA, 12, .inl (fun _ => 0))), (r17_4, .inl (cA, 4, .inl (fun _ => 0))), (r17_5, .inl (cA, 16, .inl (fun _ => 0))), (q21, .inr (4, [.int 0, .ref r25_0, .ref r25_1, .ref r25_2, .ref r25_3, .ref r25_4, .ref r25_5])), (r25_0, .inl (cA, 16, .inl (fun _ => 0))), (r25_1, .inl (cA, 16, .inl (fun _ => 0))), (r25_2, .inl (cA, 16, .inl (fun _ => 0))), (r25_3, .inl (cA, 16, .inl (fun _ => 0))), (r25_4, .inl (cA, 16, .inl (fun _ => 0))), (r25_5, .inl (cA, 16, .inl (fun _ => 0))), (q45, .inr (7, [.ref q4, .ref q12, .ref q21, .ref r52_0, .ref r52_1, .ref r52_2, .int 0])), (r52_0, .inl (cA, 144, .inl (fun _ => 0))), (r52_1, .inl (cA, 144, .inl (fun _ => 0))), (r52_2, .inl (cA, 4, .inl (fun _ => 0))), (q59, .inr (3, [.ref q4, .ref q12, .ref q21, .ref r66_0, .ref r66_1, .ref r66_2, .int 0])), (r66_0, .inl (cA, 144, .inl (fun _ => 0))), (r66_1, .inl (cA, 144, .inl (fun _ => 0))), (r66_2, .inl (cA, 4, .inl (fun _ => 0))), (q73, .inr (8, [.ref q4, .ref q12, .ref q21, .ref r80_0, .ref r80_1, .ref r80_2, .int 0])), (r80_0, .inl (cA, 144, .inl (fun _ => 0))), (r80_1, .inl (cA, 144, .inl (fun _ => 0))), (r80_2, .inl (cA, 4, .inl (fun _ => 0))), (q87, .inr (9, [.null, .null, .null, .null, .null]))] := hD
  refine W.widen (k := 30) (n := 1137) (Nat.le_of_ble_eq_true rfl) (Nat.le_of_ble_eq_true rfl) ?_
  refine lv_dup hx hb dX8_init_90 rfl ?_
  refine lv_aload_n hx hb dX8_init_91 rfl (lv_at hl 2 rfl) ?_
  refine lv_aload_n hx hb dX8_init_92 rfl (lv_at hl 1 rfl) ?_
  refine lv_aload_n hx hb dX8_init_93 rfl (lv_at hl 0 rfl) ?_
  have hPc := hP.sub (ws' := [(q87, .inr (9, [.null, .null, .null, .null, .null]))]) [30] rfl
  have hDc := hD.sub (ws' := [(q87, .inr (9, [.null, .null, .null, .null, .null]))]) [30] (by decide) rfl
  have hFc := va_free (wc := [(q87, .inr (9, [.null, .null, .null, .null, .null]))]) hD hS hA [30] rfl
  refine va_callv (va_runI (As := [.ref q4, .ref q12, .ref q21]) (rest := [.ref q87, .ref h0]) ⟨hx, hb, hml, hown, hts⟩ (gi_X7_init l D cA q87 q4 q12 q21 H.size) (gi_cw hts gk_X7_init gv_194 gv_195 (by decide +kernel) rfl rfl ⟨Nat.le_of_ble_eq_true rfl, Nat.le_of_ble_eq_true rfl⟩) ⟨gi_blind _ _ _ _ _, fun U hU hW => ⟨rfl, gi_pre hPc hK hDc U hU hW⟩⟩ rfl rfl hl.1 rfl (lv_room (Nat.le_of_ble_eq_true rfl)) dX8_init_94 ⟨Nat.le_of_ble_eq_true rfl, Nat.le_of_ble_eq_true rfl⟩) hS (fun q _ h => hFc q h) hFc (fun u t H1 locs ht hvm hw hB hz1 hk1 hS => ?_)
  obtain ⟨r94_0, r94_1, hP1, hD1⟩ := hB
  rw [ht] at hP1
  obtain ⟨hP, hD⟩ := va_join (wr := [(h0, .inr (10, [.ref q4, .ref q12, .ref q21, .ref q45, .ref q59, .ref q73, .null])), (q4, .inr (6, [.int 0, .int 0, .int 0, .ref r8_0, .ref r8_1])), (r8_0, .inl (cA, 7, .inl (fun _ => 0))), (r8_1, .inl (cA, 7, .inl (fun _ => 0))), (q12, .inr (5, [.ref q4, .int 0, .int 0, .ref r17_0, .ref r17_1, .ref r17_2, .ref r17_3, .ref r17_4, .ref r17_5])), (r17_0, .inl (cA, 12, .inl (fun _ => 0))), (r17_1, .inl (cA, 48, .inl (fun _ => 0))), (r17_2, .inl (cA, 12, .inl (fun _ => 0))), (r17_3, .inl (cA, 12, .inl (fun _ => 0))), (r17_4, .inl (cA, 4, .inl (fun _ => 0))), (r17_5, .inl (cA, 16, .inl (fun _ => 0))), (q21, .inr (4, [.int 0, .ref r25_0, .ref r25_1, .ref r25_2, .ref r25_3, .ref r25_4, .ref r25_5])), (r25_0, .inl (cA, 16, .inl (fun _ => 0))), (r25_1, .inl (cA, 16, .inl (fun _ => 0))), (r25_2, .inl (cA, 16, .inl (fun _ => 0))), (r25_3, .inl (cA, 16, .inl (fun _ => 0))), (r25_4, .inl (cA, 16, .inl (fun _ => 0))), (r25_5, .inl (cA, 16, .inl (fun _ => 0))), (q45, .inr (7, [.ref q4, .ref q12, .ref q21, .ref r52_0, .ref r52_1, .ref r52_2, .int 0])), (r52_0, .inl (cA, 144, .inl (fun _ => 0))), (r52_1, .inl (cA, 144, .inl (fun _ => 0))), (r52_2, .inl (cA, 4, .inl (fun _ => 0))), (q59, .inr (3, [.ref q4, .ref q12, .ref q21, .ref r66_0, .ref r66_1, .ref r66_2, .int 0])), (r66_0, .inl (cA, 144, .inl (fun _ => 0))), (r66_1, .inl (cA, 144, .inl (fun _ => 0))), (r66_2, .inl (cA, 4, .inl (fun _ => 0))), (q73, .inr (8, [.ref q4, .ref q12, .ref q21, .ref r80_0, .ref r80_1, .ref r80_2, .int 0])), (r80_0, .inl (cA, 144, .inl (fun _ => 0))), (r80_1, .inl (cA, 144, .inl (fun _ => 0))), (r80_2, .inl (cA, 4, .inl (fun _ => 0)))]) (w1 := [(q87, .inr (9, [.ref q4, .ref q12, .ref q21, .ref r94_0, .ref r94_1])), (r94_0, .inl (cA, 12, .inl (fun _ => 0))), (r94_1, .inl (cA, 4, .inl (fun _ => 0)))]) hP hD [30] [0, 1, 2, 3, 4, 5, 6, 7, 8, 9, 10, 11, 12, 13, 14, 15, 16, 17, 18, 19, 20, 21, 22, 23, 24, 25, 26, 27, 28, 29] rfl rfl (by decide) (by decide) hk1 hFc hP1 hD1
  generalize H1 = H at hP hS ⊢
  have hP : va_P D vwCl [(h0, .inr (10, [.ref q4, .ref q12, .ref q21, .ref q45, .ref q59, .ref q73, .null])), (q4, .inr (6, [.int 0, .int 0, .int 0, .ref r8_0, .ref r8_1])), (r8_0, .inl (cA, 7, .inl (fun _ => 0))), (r8_1, .inl (cA, 7, .inl (fun _ => 0))), (q12, .inr (5, [.ref q4, .int 0, .int 0, .ref r17_0, .ref r17_1, .ref r17_2, .ref r17_3, .ref r17_4, .ref r17_5])), (r17_0, .inl (cA, 12, .inl (fun _ => 0))), (r17_1, .inl (cA, 48, .inl (fun _ => 0))), (r17_2, .inl (cA, 12, .inl (fun _ => 0))), (r17_3, .inl (cA, 12, .inl (fun _ => 0))), (r17_4, .inl (cA, 4, .inl (fun _ => 0))), (r17_5, .inl (cA, 16, .inl (fun _ => 0))), (q21, .inr (4, [.int 0, .ref r25_0, .ref r25_1, .ref r25_2, .ref r25_3, .ref r25_4, .ref r25_5])), (r25_0, .inl (cA, 16, .inl (fun _ => 0))), (r25_1, .inl (cA, 16, .inl (fun _ => 0))), (r25_2, .inl (cA, 16, .inl (fun _ => 0))), (r25_3, .inl (cA, 16, .inl (fun _ => 0))), (r25_4, .inl (cA, 16, .inl (fun _ => 0))), (r25_5, .inl (cA, 16, .inl (fun _ => 0))), (q45, .inr (7, [.ref q4, .ref q12, .ref q21, .ref r52_0, .ref r52_1, .ref r52_2, .int 0])), (r52_0, .inl (cA, 144, .inl (fun _ => 0))), (r52_1, .inl (cA, 144, .inl (fun _ => 0))), (r52_2, .inl (cA, 4, .inl (fun _ => 0))), (q59, .inr (3, [.ref q4, .ref q12, .ref q21, .ref r66_0, .ref r66_1, .ref r66_2, .int 0])), (r66_0, .inl (cA, 144, .inl (fun _ => 0))), (r66_1, .inl (cA, 144, .inl (fun _ => 0))), (r66_2, .inl (cA, 4, .inl (fun _ => 0))), (q73, .inr (8, [.ref q4, .ref q12, .ref q21, .ref r80_0, .ref r80_1, .ref r80_2, .int 0])), (r80_0, .inl (cA, 144, .inl (fun _ => 0))), (r80_1, .inl (cA, 144, .inl (fun _ => 0))), (r80_2, .inl (cA, 4, .inl (fun _ => 0))), (q87, .inr (9, [.ref q4, .ref q12, .ref q21, .ref r94_0, .ref r94_1])), (r94_0, .inl (cA, 12, .inl (fun _ => 0))), (r94_1, .inl (cA, 4, .inl (fun _ => 0)))] H := hP
  have hD : va_D A [(h0, .inr (10, [.ref q4, .ref q12, .ref q21, .ref q45, .ref q59, .ref q73, .null])), (q4, .inr (6, [.int 0, .int 0, .int 0, .ref r8_0, .ref r8_1])), (r8_0, .inl (cA, 7, .inl (fun _ => 0))), (r8_1, .inl (cA, 7, .inl (fun _ => 0))), (q12, .inr (5, [.ref q4, .int 0, .int 0, .ref r17_0, .ref r17_1, .ref r17_2, .ref r17_3, .ref r17_4, .ref r17_5])), (r17_0, .inl (cA, 12, .inl (fun _ => 0))), (r17_1, .inl (cA, 48, .inl (fun _ => 0))), (r17_2, .inl (cA, 12, .inl (fun _ => 0))), (r17_3, .inl (cA, 12, .inl (fun _ => 0))), (r17_4, .inl (cA, 4, .inl (fun _ => 0))), (r17_5, .inl (cA, 16, .inl (fun _ => 0))), (q21, .inr (4, [.int 0, .ref r25_0, .ref r25_1, .ref r25_2, .ref r25_3, .ref r25_4, .ref r25_5])), (r25_0, .inl (cA, 16, .inl (fun _ => 0))), (r25_1, .inl (cA, 16, .inl (fun _ => 0))), (r25_2, .inl (cA, 16, .inl (fun _ => 0))), (r25_3, .inl (cA, 16, .inl (fun _ => 0))), (r25_4, .inl (cA, 16, .inl (fun _ => 0))), (r25_5, .inl (cA, 16, .inl (fun _ => 0))), (q45, .inr (7, [.ref q4, .ref q12, .ref q21, .ref r52_0, .ref r52_1, .ref r52_2, .int 0])), (r52_0, .inl (cA, 144, .inl (fun _ => 0))), (r52_1, .inl (cA, 144, .inl (fun _ => 0))), (r52_2, .inl (cA, 4, .inl (fun _ => 0))), (q59, .inr (3, [.ref q4, .ref q12, .ref q21, .ref r66_0, .ref r66_1, .ref r66_2, .int 0])), (r66_0, .inl (cA, 144, .inl (fun _ => 0))), (r66_1, .inl (cA, 144, .inl (fun _ => 0))), (r66_2, .inl (cA, 4, .inl (fun _ => 0))), (q73, .inr (8, [.ref q4, .ref q12, .ref q21, .ref r80_0, .ref r80_1, .ref r80_2, .int 0])), (r80_0, .inl (cA, 144, .inl (fun _ => 0))), (r80_1, .inl (cA, 144, .inl (fun _ => 0))), (r80_2, .inl (cA, 4, .inl (fun _ => 0))), (q87, .inr (9, [.ref q4, .ref q12, .ref q21, .ref r94_0, .ref r94_1])), (r94_0, .inl (cA, 12, .inl (fun _ => 0))), (r94_1, .inl (cA, 4, .inl (fun _ => 0)))] := hD
  refine W.widen (k := 32) (n := 1153) (Nat.le_of_ble_eq_true rfl) (Nat.le_of_ble_eq_true rfl) ?_
  refine va_putF (D := D) (ci := 10) (v := .ref q87) (ty := .object "Genericwood$World") (C := RX8) (T := TX8) (N := 7) hx hb hts gx_X8 tyX8 tyX8_ok nmX8 hown hK hP hD hS 0 rfl rfl 6 (by decide) (hts _ gv_220) (fun _ h9 => h9) rfl hin rfl (by decide +kernel) rfl rfl (Nat.le_of_ble_eq_true rfl) dX8_init_97 (fun H locs hP hD hS => ?_)
  have hP : va_P D vwCl [(h0, .inr (10, [.ref q4, .ref q12, .ref q21, .ref q45, .ref q59, .ref q73, .ref q87])), (q4, .inr (6, [.int 0, .int 0, .int 0, .ref r8_0, .ref r8_1])), (r8_0, .inl (cA, 7, .inl (fun _ => 0))), (r8_1, .inl (cA, 7, .inl (fun _ => 0))), (q12, .inr (5, [.ref q4, .int 0, .int 0, .ref r17_0, .ref r17_1, .ref r17_2, .ref r17_3, .ref r17_4, .ref r17_5])), (r17_0, .inl (cA, 12, .inl (fun _ => 0))), (r17_1, .inl (cA, 48, .inl (fun _ => 0))), (r17_2, .inl (cA, 12, .inl (fun _ => 0))), (r17_3, .inl (cA, 12, .inl (fun _ => 0))), (r17_4, .inl (cA, 4, .inl (fun _ => 0))), (r17_5, .inl (cA, 16, .inl (fun _ => 0))), (q21, .inr (4, [.int 0, .ref r25_0, .ref r25_1, .ref r25_2, .ref r25_3, .ref r25_4, .ref r25_5])), (r25_0, .inl (cA, 16, .inl (fun _ => 0))), (r25_1, .inl (cA, 16, .inl (fun _ => 0))), (r25_2, .inl (cA, 16, .inl (fun _ => 0))), (r25_3, .inl (cA, 16, .inl (fun _ => 0))), (r25_4, .inl (cA, 16, .inl (fun _ => 0))), (r25_5, .inl (cA, 16, .inl (fun _ => 0))), (q45, .inr (7, [.ref q4, .ref q12, .ref q21, .ref r52_0, .ref r52_1, .ref r52_2, .int 0])), (r52_0, .inl (cA, 144, .inl (fun _ => 0))), (r52_1, .inl (cA, 144, .inl (fun _ => 0))), (r52_2, .inl (cA, 4, .inl (fun _ => 0))), (q59, .inr (3, [.ref q4, .ref q12, .ref q21, .ref r66_0, .ref r66_1, .ref r66_2, .int 0])), (r66_0, .inl (cA, 144, .inl (fun _ => 0))), (r66_1, .inl (cA, 144, .inl (fun _ => 0))), (r66_2, .inl (cA, 4, .inl (fun _ => 0))), (q73, .inr (8, [.ref q4, .ref q12, .ref q21, .ref r80_0, .ref r80_1, .ref r80_2, .int 0])), (r80_0, .inl (cA, 144, .inl (fun _ => 0))), (r80_1, .inl (cA, 144, .inl (fun _ => 0))), (r80_2, .inl (cA, 4, .inl (fun _ => 0))), (q87, .inr (9, [.ref q4, .ref q12, .ref q21, .ref r94_0, .ref r94_1])), (r94_0, .inl (cA, 12, .inl (fun _ => 0))), (r94_1, .inl (cA, 4, .inl (fun _ => 0)))] H := hP
  have hD : va_D A [(h0, .inr (10, [.ref q4, .ref q12, .ref q21, .ref q45, .ref q59, .ref q73, .ref q87])), (q4, .inr (6, [.int 0, .int 0, .int 0, .ref r8_0, .ref r8_1])), (r8_0, .inl (cA, 7, .inl (fun _ => 0))), (r8_1, .inl (cA, 7, .inl (fun _ => 0))), (q12, .inr (5, [.ref q4, .int 0, .int 0, .ref r17_0, .ref r17_1, .ref r17_2, .ref r17_3, .ref r17_4, .ref r17_5])), (r17_0, .inl (cA, 12, .inl (fun _ => 0))), (r17_1, .inl (cA, 48, .inl (fun _ => 0))), (r17_2, .inl (cA, 12, .inl (fun _ => 0))), (r17_3, .inl (cA, 12, .inl (fun _ => 0))), (r17_4, .inl (cA, 4, .inl (fun _ => 0))), (r17_5, .inl (cA, 16, .inl (fun _ => 0))), (q21, .inr (4, [.int 0, .ref r25_0, .ref r25_1, .ref r25_2, .ref r25_3, .ref r25_4, .ref r25_5])), (r25_0, .inl (cA, 16, .inl (fun _ => 0))), (r25_1, .inl (cA, 16, .inl (fun _ => 0))), (r25_2, .inl (cA, 16, .inl (fun _ => 0))), (r25_3, .inl (cA, 16, .inl (fun _ => 0))), (r25_4, .inl (cA, 16, .inl (fun _ => 0))), (r25_5, .inl (cA, 16, .inl (fun _ => 0))), (q45, .inr (7, [.ref q4, .ref q12, .ref q21, .ref r52_0, .ref r52_1, .ref r52_2, .int 0])), (r52_0, .inl (cA, 144, .inl (fun _ => 0))), (r52_1, .inl (cA, 144, .inl (fun _ => 0))), (r52_2, .inl (cA, 4, .inl (fun _ => 0))), (q59, .inr (3, [.ref q4, .ref q12, .ref q21, .ref r66_0, .ref r66_1, .ref r66_2, .int 0])), (r66_0, .inl (cA, 144, .inl (fun _ => 0))), (r66_1, .inl (cA, 144, .inl (fun _ => 0))), (r66_2, .inl (cA, 4, .inl (fun _ => 0))), (q73, .inr (8, [.ref q4, .ref q12, .ref q21, .ref r80_0, .ref r80_1, .ref r80_2, .int 0])), (r80_0, .inl (cA, 144, .inl (fun _ => 0))), (r80_1, .inl (cA, 144, .inl (fun _ => 0))), (r80_2, .inl (cA, 4, .inl (fun _ => 0))), (q87, .inr (9, [.ref q4, .ref q12, .ref q21, .ref r94_0, .ref r94_1])), (r94_0, .inl (cA, 12, .inl (fun _ => 0))), (r94_1, .inl (cA, 4, .inl (fun _ => 0)))] := hD
  exact W.vret hx hb hr (fun t ht hW => ⟨⟨(), rfl, trivial, q4, r8_0, r8_1, q12, r17_0, r17_1, r17_2, r17_3, r17_4, r17_5, q21, r25_0, r25_1, r25_2, r25_3, r25_4, r25_5, q45, r52_0, r52_1, r52_2, q59, r66_0, r66_1, r66_2, q73, r80_0, r80_1, r80_2, q87, r94_0, r94_1, by rw [ht]; exact hP, hD⟩, hS.F ht⟩) hS.2.2 dX8_init_100
