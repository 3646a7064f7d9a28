
def f_X11_atom (a0 : Int32) (a1 : Int32) (a2 : Int32) (σ : gw_S) : Option (Int32 × gw_S) := (if a0 = (101 : Int32) then ((f_X11_isTerm a1 σ).bind fun p1 => (if p1.1 = 0 then ((f_X11_no (0 : Int32) (1 : Int32) p1.2).bind fun p2 => (if p2.1 = 0 then ((f_Jx4a65c_size_8abf5_36 p2.2).bind fun p3 => (if (16 : Int32) ≤ p3.1 then ((f_X11_no (0 : Int32) (2 : Int32) p3.2).bind fun p4 => (if p4.1 = 0 then none else (some ((0 : Int32), p4.2)))) else ((f_X11_no (1 : Int32) (2 : Int32) p3.2).bind fun p5 => (if p5.1 = 0 then none else (some ((0 : Int32), p5.2)))))) else (some ((0 : Int32), p2.2)))) else ((f_X11_isTerm a2 p1.2).bind fun p6 => (if p6.1 = 0 then ((f_X11_no (0 : Int32) (1 : Int32) p6.2).bind fun p7 => (if p7.1 = 0 then ((f_Jx4a65c_size_8abf5_36 p7.2).bind fun p8 => (if (16 : Int32) ≤ p8.1 then ((f_X11_no (0 : Int32) (2 : Int32) p8.2).bind fun p9 => (if p9.1 = 0 then none else (some ((0 : Int32), p9.2)))) else ((f_X11_no (1 : Int32) (2 : Int32) p8.2).bind fun p10 => (if p10.1 = 0 then none else (some ((0 : Int32), p10.2)))))) else (some ((0 : Int32), p7.2)))) else ((f_X11_no (1 : Int32) (1 : Int32) p6.2).bind fun p11 => (if p11.1 = 0 then ((f_Jx4a65c_size_8abf5_36 p11.2).bind fun p12 => (if (16 : Int32) ≤ p12.1 then ((f_X11_no (0 : Int32) (2 : Int32) p12.2).bind fun p13 => (if p13.1 = 0 then none else (some ((0 : Int32), p13.2)))) else ((f_X11_no (1 : Int32) (2 : Int32) p12.2).bind fun p14 => (if p14.1 = 0 then none else (some ((0 : Int32), p14.2)))))) else (some ((0 : Int32), p11.2)))))))) else (if a0 = (61 : Int32) then ((f_X11_isTerm a1 σ).bind fun p19 => (if p19.1 = 0 then ((f_X11_no (0 : Int32) (1 : Int32) p19.2).bind fun p20 => (if p20.1 = 0 then ((f_Jx4a65c_size_8abf5_36 p20.2).bind fun p21 => (if (16 : Int32) ≤ p21.1 then ((f_X11_no (0 : Int32) (2 : Int32) p21.2).bind fun p22 => (if p22.1 = 0 then none else (some ((0 : Int32), p22.2)))) else ((f_X11_no (1 : Int32) (2 : Int32) p21.2).bind fun p23 => (if p23.1 = 0 then none else (some ((0 : Int32), p23.2)))))) else (some ((0 : Int32), p20.2)))) else ((f_X11_isTerm a2 p19.2).bind fun p24 => (if p24.1 = 0 then ((f_X11_no (0 : Int32) (1 : Int32) p24.2).bind fun p25 => (if p25.1 = 0 then ((f_Jx4a65c_size_8abf5_36 p25.2).bind fun p26 => (if (16 : Int32) ≤ p26.1 then ((f_X11_no (0 : Int32) (2 : Int32) p26.2).bind fun p27 => (if p27.1 = 0 then none else (some ((0 : Int32), p27.2)))) else ((f_X11_no (1 : Int32) (2 : Int32) p26.2).bind fun p28 => (if p28.1 = 0 then none else (some ((0 : Int32), p28.2)))))) else (some ((0 : Int32), p25.2)))) else ((f_X11_no (1 : Int32) (1 : Int32) p24.2).bind fun p29 => (if p29.1 = 0 then ((f_Jx4a65c_size_8abf5_36 p29.2).bind fun p30 => (if (16 : Int32) ≤ p30.1 then ((f_X11_no (0 : Int32) (2 : Int32) p30.2).bind fun p31 => (if p31.1 = 0 then none else (some ((0 : Int32), p31.2)))) else ((f_X11_no (1 : Int32) (2 : Int32) p30.2).bind fun p32 => (if p32.1 = 0 then none else (some ((0 : Int32), p32.2)))))) else (some ((0 : Int32), p29.2)))))))) else ((f_X11_no (0 : Int32) (1 : Int32) σ).bind fun p15 => (if p15.1 = 0 then ((f_Jx4a65c_size_8abf5_36 p15.2).bind fun p16 => (if (16 : Int32) ≤ p16.1 then ((f_X11_no (0 : Int32) (2 : Int32) p16.2).bind fun p17 => (if p17.1 = 0 then none else (some ((0 : Int32), p17.2)))) else ((f_X11_no (1 : Int32) (2 : Int32) p16.2).bind fun p18 => (if p18.1 = 0 then none else (some ((0 : Int32), p18.2)))))) else (some ((0 : Int32), p15.2))))))
set_option maxHeartbeats 4000000 in
set_option maxRecDepth 100000 in
theorem gc_X11_atom (l : Launch) (G : gw_G) (a0 : Int32) (a1 : Int32) (a2 : Int32) (σ : gw_S) (o : (Int32 × gw_S)) (h : f_X11_atom a0 a1 a2 σ = some o) : gw_M (fun sz => gw_QI G sz o) l yX11_atom cX11_atom 4 (some .int) { frames := 3, cells := 0, slots := 0, locals := 64 } G [.ref (G.2.1 33), .int a0, .int a1, .int a2] σ := by
  refine gw_en (own := RX11) (lv := [(0, .ref (G.2.1 33)), (1, .int a0), (2, .int a1), (3, .int a2)]) (by decide +kernel) rfl (Nat.le_of_ble_eq_true rfl) rfl ?_
  intro p e s m below meth c ls X hl hP
  obtain ⟨hx, hb, hml, hown, hts, -, -, hT, hZ, -⟩ := id X
  have hS : va_S (gw_A G s.heap.size) s.heap s.heap [] := va_S.rf
  unfold f_X11_atom at h
  refine lv_aload_n hx hb dX11_atom_0 rfl (lv_at hl 0 rfl) ?_
  refine lv_iload_n hx hb dX11_atom_1 rfl (lv_at hl 1 rfl) ?_
  refine lv_bipush (v := 101) hx hb dX11_atom_2 (by decide) ?_
  refine lv_icmp_eq (tgt := 13) hx hb dX11_atom_4 (by decide) (fun c => ?_) (fun c => ?_)
  · have h := (if_pos c).symm.trans h
    refine lv_aload_n hx hb dX11_atom_13 rfl (lv_at hl 0 rfl) ?_
    refine lv_iload_n hx hb dX11_atom_14 rfl (lv_at hl 2 rfl) ?_
    obtain ⟨p1, gp1, h⟩ := Option.bind_eq_some_iff.mp h
    refine gw_cz (gw_rV (C := RX11) X hP hS (gc_X11_isTerm l G a1 σ _ gp1) gk_X11_isTerm gv_1609 ⟨gv_1611, gv_s42⟩ (va_recv hT.2.1 hP (ci := 13) (q0 := 33) rfl rfl) rfl rfl (Nat.le_of_ble_eq_true rfl) hl.1 ⟨rfl, rfl⟩ ⟨Nat.le_of_ble_eq_true rfl, Nat.le_of_ble_eq_true rfl⟩ ⟨Nat.le_of_ble_eq_true rfl, Nat.le_of_ble_eq_true rfl⟩ dX11_atom_15) hS (fun H locs hb_p1 hP hS => ?_)
    refine lv_if_eq (tgt := 33) hx hb dX11_atom_18 (by decide) (fun c => ?_) (fun c => ?_)
    · have h := (if_pos c).symm.trans h
      refine lv_iconst (v := 0) hx hb dX11_atom_33 (by decide) ?_
      refine lv_iconst (v := 1) hx hb dX11_atom_34 (by decide) ?_
      obtain ⟨p2, gp2, h⟩ := Option.bind_eq_some_iff.mp h
      refine gw_cz (gw_rV (C := RX11) X hP hS (gc_X11_no l G (0 : Int32) (1 : Int32) p1.2 _ gp2) gk_X11_no gv_1209 ⟨gv_1211, gv_s22⟩ (va_recv hT.2.1 hP (ci := 13) (q0 := 33) rfl rfl) rfl rfl (Nat.le_of_ble_eq_true rfl) hl.1 ⟨rfl, rfl⟩ ⟨Nat.le_of_ble_eq_true rfl, Nat.le_of_ble_eq_true rfl⟩ ⟨Nat.le_of_ble_eq_true rfl, Nat.le_of_ble_eq_true rfl⟩ dX11_atom_35) hS (fun H locs hb_p2 hP hS => ?_)
      refine lv_if_ne (tgt := 68) hx hb dX11_atom_38 (by decide) (fun c => ?_) (fun c => ?_)
      · have h := (if_neg c).symm.trans h
        refine lv_iconst (v := 0) hx hb dX11_atom_68 (by decide) ?_
        exact gw_ri X hP hS h dX11_atom_69
      · have h := (if_pos c).symm.trans h
        refine lv_aload_n hx hb dX11_atom_41 rfl (lv_at hl 0 rfl) ?_
        refine lv_aload_n hx hb dX11_atom_42 rfl (lv_at hl 0 rfl) ?_
        refine va_get (D := G.1) (ci := 13) (v := .ref (G.2.1 36)) (C := RX11) (T := TX11) (N := 5) hx hb hts gx_X11 hown hT.2.1 hP 33 rfl rfl 2 (by decide) (hts _ gv_1177) (fun _ h9 => h9) rfl dX11_atom_43 ?_
        obtain ⟨p3, gp3, h⟩ := Option.bind_eq_some_iff.mp h
        refine gw_fi (gw_rF (x := ⟨"java/util/List", "size", "()I"⟩) (C := RJx4a65c) X (hT.2.1.1 2 _ rfl).2 hP hS (gc_Jx4a65c_size_8abf5_36 l G p2.2 _ gp3) gk_Jx4a65c_size_8abf5 ⟨by decide +kernel, by decide +kernel⟩ gv_1200 ⟨gv_1204, gv_1206⟩ 0 rfl (va_recv hT.2.1 hP (ci := 2) (q0 := 36) rfl rfl) rfl rfl (Nat.le_of_ble_eq_true rfl) hl.1 ⟨rfl, rfl⟩ ⟨Nat.le_of_ble_eq_true rfl, Nat.le_of_ble_eq_true rfl⟩ ⟨Nat.le_of_ble_eq_true rfl, Nat.le_of_ble_eq_true rfl⟩ dX11_atom_46) hS (fun H locs hP hS => ?_)
        refine lv_bipush (v := 16) hx hb dX11_atom_51 (by decide) ?_
        refine lv_icmp_ge (tgt := 60) hx hb dX11_atom_53 (by decide) (fun c => ?_) (fun c => ?_)
        · have h := (if_pos c).symm.trans h
          refine lv_iconst (v := 0) hx hb dX11_atom_60 (by decide) ?_
          refine lv_iconst (v := 2) hx hb dX11_atom_61 (by decide) ?_
          obtain ⟨p4, gp4, h⟩ := Option.bind_eq_some_iff.mp h
          refine gw_cz (gw_rV (C := RX11) X hP hS (gc_X11_no l G (0 : Int32) (2 : Int32) p3.2 _ gp4) gk_X11_no gv_1209 ⟨gv_1211, gv_s22⟩ (va_recv hT.2.1 hP (ci := 13) (q0 := 33) rfl rfl) rfl rfl (Nat.le_of_ble_eq_true rfl) hl.1 ⟨rfl, rfl⟩ ⟨Nat.le_of_ble_eq_true rfl, Nat.le_of_ble_eq_true rfl⟩ ⟨Nat.le_of_ble_eq_true rfl, Nat.le_of_ble_eq_true rfl⟩ dX11_atom_62) hS (fun H locs hb_p4 hP hS => ?_)
          refine lv_if_eq (tgt := 70) hx hb dX11_atom_65 (by decide) (fun c => ?_) (fun c => ?_)
          · have h := (if_pos c).symm.trans h
            refine lv_aload_n hx hb dX11_atom_70 rfl (lv_at hl 0 rfl) ?_
            exact absurd h (fun h => nomatch h)
          · have h := (if_neg c).symm.trans h
            refine lv_iconst (v := 0) hx hb dX11_atom_68 (by decide) ?_
            exact gw_ri X hP hS h dX11_atom_69
        · have h := (if_neg c).symm.trans h
          refine lv_iconst (v := 1) hx hb dX11_atom_56 (by decide) ?_
          refine lv_goto (tgt := 61) hx hb dX11_atom_57 (by decide) ?_
          refine lv_iconst (v := 2) hx hb dX11_atom_61 (by decide) ?_
          obtain ⟨p5, gp5, h⟩ := Option.bind_eq_some_iff.mp h
          refine gw_cz (gw_rV (C := RX11) X hP hS (gc_X11_no l G (1 : Int32) (2 : Int32) p3.2 _ gp5) gk_X11_no gv_1209 ⟨gv_1211, gv_s22⟩ (va_recv hT.2.1 hP (ci := 13) (q0 := 33) rfl rfl) rfl rfl (Nat.le_of_ble_eq_true rfl) hl.1 ⟨rfl, rfl⟩ ⟨Nat.le_of_ble_eq_true rfl, Nat.le_of_ble_eq_true rfl⟩ ⟨Nat.le_of_ble_eq_true rfl, Nat.le_of_ble_eq_true rfl⟩ dX11_atom_62) hS (fun H locs hb_p5 hP hS => ?_)
          refine lv_if_eq (tgt := 70) hx hb dX11_atom_65 (by decide) (fun c => ?_) (fun c => ?_)
          · have h := (if_pos c).symm.trans h
            refine lv_aload_n hx hb dX11_atom_70 rfl (lv_at hl 0 rfl) ?_
            exact absurd h (fun h => nomatch h)
          · have h := (if_neg c).symm.trans h
            refine lv_iconst (v := 0) hx hb dX11_atom_68 (by decide) ?_
            exact gw_ri X hP hS h dX11_atom_69
    · have h := (if_neg c).symm.trans h
      refine lv_aload_n hx hb dX11_atom_21 rfl (lv_at hl 0 rfl) ?_
      refine lv_iload_n hx hb dX11_atom_22 rfl (lv_at hl 3 rfl) ?_
      obtain ⟨p6, gp6, h⟩ := Option.bind_eq_some_iff.mp h
      refine gw_cz (gw_rV (C := RX11) X hP hS (gc_X11_isTerm l G a2 p1.2 _ gp6) gk_X11_isTerm gv_1609 ⟨gv_1611, gv_s42⟩ (va_recv hT.2.1 hP (ci := 13) (q0 := 33) rfl rfl) rfl rfl (Nat.le_of_ble_eq_true rfl) hl.1 ⟨rfl, rfl⟩ ⟨Nat.le_of_ble_eq_true rfl, Nat.le_of_ble_eq_true rfl⟩ ⟨Nat.le_of_ble_eq_true rfl, Nat.le_of_ble_eq_true rfl⟩ dX11_atom_23) hS (fun H locs hb_p6 hP hS => ?_)
      refine lv_if_eq (tgt := 33) hx hb dX11_atom_26 (by decide) (fun c => ?_) (fun c => ?_)
      · have h := (if_pos c).symm.trans h
        refine lv_iconst (v := 0) hx hb dX11_atom_33 (by decide) ?_
        refine lv_iconst (v := 1) hx hb dX11_atom_34 (by decide) ?_
        obtain ⟨p7, gp7, h⟩ := Option.bind_eq_some_iff.mp h
        refine gw_cz (gw_rV (C := RX11) X hP hS (gc_X11_no l G (0 : Int32) (1 : Int32) p6.2 _ gp7) gk_X11_no gv_1209 ⟨gv_1211, gv_s22⟩ (va_recv hT.2.1 hP (ci := 13) (q0 := 33) rfl rfl) rfl rfl (Nat.le_of_ble_eq_true rfl) hl.1 ⟨rfl, rfl⟩ ⟨Nat.le_of_ble_eq_true rfl, Nat.le_of_ble_eq_true rfl⟩ ⟨Nat.le_of_ble_eq_true rfl, Nat.le_of_ble_eq_true rfl⟩ dX11_atom_35) hS (fun H locs hb_p7 hP hS => ?_)
        refine lv_if_ne (tgt := 68) hx hb dX11_atom_38 (by decide) (fun c => ?_) (fun c => ?_)
        · have h := (if_neg c).symm.trans h
          refine lv_iconst (v := 0) hx hb dX11_atom_68 (by decide) ?_
          exact gw_ri X hP hS h dX11_atom_69
        · have h := (if_pos c).symm.trans h
          refine lv_aload_n hx hb dX11_atom_41 rfl (lv_at hl 0 rfl) ?_
          refine lv_aload_n hx hb dX11_atom_42 rfl (lv_at hl 0 rfl) ?_
          refine va_get (D := G.1) (ci := 13) (v := .ref (G.2.1 36)) (C := RX11) (T := TX11) (N := 5) hx hb hts gx_X11 hown hT.2.1 hP 33 rfl rfl 2 (by decide) (hts _ gv_1177) (fun _ h9 => h9) rfl dX11_atom_43 ?_
          obtain ⟨p8, gp8, h⟩ := Option.bind_eq_some_iff.mp h
          refine gw_fi (gw_rF (x := ⟨"java/util/List", "size", "()I"⟩) (C := RJx4a65c) X (hT.2.1.1 2 _ rfl).2 hP hS (gc_Jx4a65c_size_8abf5_36 l G p7.2 _ gp8) gk_Jx4a65c_size_8abf5 ⟨by decide +kernel, by decide +kernel⟩ gv_1200 ⟨gv_1204, gv_1206⟩ 0 rfl (va_recv hT.2.1 hP (ci := 2) (q0 := 36) rfl rfl) rfl rfl (Nat.le_of_ble_eq_true rfl) hl.1 ⟨rfl, rfl⟩ ⟨Nat.le_of_ble_eq_true rfl, Nat.le_of_ble_eq_true rfl⟩ ⟨Nat.le_of_ble_eq_true rfl, Nat.le_of_ble_eq_true rfl⟩ dX11_atom_46) hS (fun H locs hP hS => ?_)
          refine lv_bipush (v := 16) hx hb dX11_atom_51 (by decide) ?_
          refine lv_icmp_ge (tgt := 60) hx hb dX11_atom_53 (by decide) (fun c => ?_) (fun c => ?_)
          · have h := (if_pos c).symm.trans h
            refine lv_iconst (v := 0) hx hb dX11_atom_60 (by decide) ?_
            refine lv_iconst (v := 2) hx hb dX11_atom_61 (by decide) ?_
            obtain ⟨p9, gp9, h⟩ := Option.bind_eq_some_iff.mp h
            refine gw_cz (gw_rV (C := RX11) X hP hS (gc_X11_no l G (0 : Int32) (2 : Int32) p8.2 _ gp9) gk_X11_no gv_1209 ⟨gv_1211, gv_s22⟩ (va_recv hT.2.1 hP (ci := 13) (q0 := 33) rfl rfl) rfl rfl (Nat.le_of_ble_eq_true rfl) hl.1 ⟨rfl, rfl⟩ ⟨Nat.le_of_ble_eq_true rfl, Nat.le_of_ble_eq_true rfl⟩ ⟨Nat.le_of_ble_eq_true rfl, Nat.le_of_ble_eq_true rfl⟩ dX11_atom_62) hS (fun H locs hb_p9 hP hS => ?_)
            refine lv_if_eq (tgt := 70) hx hb dX11_atom_65 (by decide) (fun c => ?_) (fun c => ?_)
            · have h := (if_pos c).symm.trans h
              refine lv_aload_n hx hb dX11_atom_70 rfl (lv_at hl 0 rfl) ?_
              exact absurd h (fun h => nomatch h)
            · have h := (if_neg c).symm.trans h
              refine lv_iconst (v := 0) hx hb dX11_atom_68 (by decide) ?_
              exact gw_ri X hP hS h dX11_atom_69
          · have h := (if_neg c).symm.trans h
            refine lv_iconst (v := 1) hx hb dX11_atom_56 (by decide) ?_
            refine lv_goto (tgt := 61) hx hb dX11_atom_57 (by decide) ?_
            refine lv_iconst (v := 2) hx hb dX11_atom_61 (by decide) ?_
            obtain ⟨p10, gp10, h⟩ := Option.bind_eq_some_iff.mp h
            refine gw_cz (gw_rV (C := RX11) X hP hS (gc_X11_no l G (1 : Int32) (2 : Int32) p8.2 _ gp10) gk_X11_no gv_1209 ⟨gv_1211, gv_s22⟩ (va_recv hT.2.1 hP (ci := 13) (q0 := 33) rfl rfl) rfl rfl (Nat.le_of_ble_eq_true rfl) hl.1 ⟨rfl, rfl⟩ ⟨Nat.le_of_ble_eq_true rfl, Nat.le_of_ble_eq_true rfl⟩ ⟨Nat.le_of_ble_eq_true rfl, Nat.le_of_ble_eq_true rfl⟩ dX11_atom_62) hS (fun H locs hb_p10 hP hS => ?_)
            refine lv_if_eq (tgt := 70) hx hb dX11_atom_65 (by decide) (fun c => ?_) (fun c => ?_)
            · have h := (if_pos c).symm.trans h
              refine lv_aload_n hx hb dX11_atom_70 rfl (lv_at hl 0 rfl) ?_
              exact absurd h (fun h => nomatch h)
            · have h := (if_neg c).symm.trans h
              refine lv_iconst (v := 0) hx hb dX11_atom_68 (by decide) ?_
              exact gw_ri X hP hS h dX11_atom_69
      · have h := (if_neg c).symm.trans h
        refine lv_iconst (v := 1) hx hb dX11_atom_29 (by decide) ?_
        refine lv_goto (tgt := 34) hx hb dX11_atom_30 (by decide) ?_
        refine lv_iconst (v := 1) hx hb dX11_atom_34 (by decide) ?_
        obtain ⟨p11, gp11, h⟩ := Option.bind_eq_some_iff.mp h
        refine gw_cz (gw_rV (C := RX11) X hP hS (gc_X11_no l G (1 : Int32) (1 : Int32) p6.2 _ gp11) gk_X11_no gv_1209 ⟨gv_1211, gv_s22⟩ (va_recv hT.2.1 hP (ci := 13) (q0 := 33) rfl rfl) rfl rfl (Nat.le_of_ble_eq_true rfl) hl.1 ⟨rfl, rfl⟩ ⟨Nat.le_of_ble_eq_true rfl, Nat.le_of_ble_eq_true rfl⟩ ⟨Nat.le_of_ble_eq_true rfl, Nat.le_of_ble_eq_true rfl⟩ dX11_atom_35) hS (fun H locs hb_p11 hP hS => ?_)
        refine lv_if_ne (tgt := 68) hx hb dX11_atom_38 (by decide) (fun c => ?_) (fun c => ?_)
        · have h := (if_neg c).symm.trans h
          refine lv_iconst (v := 0) hx hb dX11_atom_68 (by decide) ?_
          exact gw_ri X hP hS h dX11_atom_69
        · have h := (if_pos c).symm.trans h
          refine lv_aload_n hx hb dX11_atom_41 rfl (lv_at hl 0 rfl) ?_
          refine lv_aload_n hx hb dX11_atom_42 rfl (lv_at hl 0 rfl) ?_
          refine va_get (D := G.1) (ci := 13) (v := .ref (G.2.1 36)) (C := RX11) (T := TX11) (N := 5) hx hb hts gx_X11 hown hT.2.1 hP 33 rfl rfl 2 (by decide) (hts _ gv_1177) (fun _ h9 => h9) rfl dX11_atom_43 ?_
          obtain ⟨p12, gp12, h⟩ := Option.bind_eq_some_iff.mp h
          refine gw_fi (gw_rF (x := ⟨"java/util/List", "size", "()I"⟩) (C := RJx4a65c) X (hT.2.1.1 2 _ rfl).2 hP hS (gc_Jx4a65c_size_8abf5_36 l G p11.2 _ gp12) gk_Jx4a65c_size_8abf5 ⟨by decide +kernel, by decide +kernel⟩ gv_1200 ⟨gv_1204, gv_1206⟩ 0 rfl (va_recv hT.2.1 hP (ci := 2) (q0 := 36) rfl rfl) rfl rfl (Nat.le_of_ble_eq_true rfl) hl.1 ⟨rfl, rfl⟩ ⟨Nat.le_of_ble_eq_true rfl, Nat.le_of_ble_eq_true rfl⟩ ⟨Nat.le_of_ble_eq_true rfl, Nat.le_of_ble_eq_true rfl⟩ dX11_atom_46) hS (fun H locs hP hS => ?_)
          refine lv_bipush (v := 16) hx hb dX11_atom_51 (by decide) ?_
          refine lv_icmp_ge (tgt := 60) hx hb dX11_atom_53 (by decide) (fun c => ?_) (fun c => ?_)
          · have h := (if_pos c).symm.trans h
            refine lv_iconst (v := 0) hx hb dX11_atom_60 (by decide) ?_
            refine lv_iconst (v := 2) hx hb dX11_atom_61 (by decide) ?_
            obtain ⟨p13, gp13, h⟩ := Option.bind_eq_some_iff.mp h
            refine gw_cz (gw_rV (C := RX11) X hP hS (gc_X11_no l G (0 : Int32) (2 : Int32) p12.2 _ gp13) gk_X11_no gv_1209 ⟨gv_1211, gv_s22⟩ (va_recv hT.2.1 hP (ci := 13) (q0 := 33) rfl rfl) rfl rfl (Nat.le_of_ble_eq_true rfl) hl.1 ⟨rfl, rfl⟩ ⟨Nat.le_of_ble_eq_true rfl, Nat.le_of_ble_eq_true rfl⟩ ⟨Nat.le_of_ble_eq_true rfl, Nat.le_of_ble_eq_true rfl⟩ dX11_atom_62) hS (fun H locs hb_p13 hP hS => ?_)
            refine lv_if_eq (tgt := 70) hx hb dX11_atom_65 (by decide) (fun c => ?_) (fun c => ?_)
            · have h := (if_pos c).symm.trans h
              refine lv_aload_n hx hb dX11_atom_70 rfl (lv_at hl 0 rfl) ?_
              exact absurd h (fun h => nomatch h)
            · have h := (if_neg c).symm.trans h
              refine lv_iconst (v := 0) hx hb dX11_atom_68 (by decide) ?_
              exact gw_ri X hP hS h dX11_atom_69
          · have h := (if_neg c).symm.trans h
            refine lv_iconst (v := 1) hx hb dX11_atom_56 (by decide) ?_
            refine lv_goto (tgt := 61) hx hb dX11_atom_57 (by decide) ?_
            refine lv_iconst (v := 2) hx hb dX11_atom_61 (by decide) ?_
            obtain ⟨p14, gp14, h⟩ := Option.bind_eq_some_iff.mp h
            refine gw_cz (gw_rV (C := RX11) X hP hS (gc_X11_no l G (1 : Int32) (2 : Int32) p12.2 _ gp14) gk_X11_no gv_1209 ⟨gv_1211, gv_s22⟩ (va_recv hT.2.1 hP (ci := 13) (q0 := 33) rfl rfl) rfl rfl (Nat.le_of_ble_eq_true rfl) hl.1 ⟨rfl, rfl⟩ ⟨Nat.le_of_ble_eq_true rfl, Nat.le_of_ble_eq_true rfl⟩ ⟨Nat.le_of_ble_eq_true rfl, Nat.le_of_ble_eq_true rfl⟩ dX11_atom_62) hS (fun H locs hb_p14 hP hS => ?_)
            refine lv_if_eq (tgt := 70) hx hb dX11_atom_65 (by decide) (fun c => ?_) (fun c => ?_)
            · have h := (if_pos c).symm.trans h
              refine lv_aload_n hx hb dX11_atom_70 rfl (lv_at hl 0 rfl) ?_
              exact absurd h (fun h => nomatch h)
            · have h := (if_neg c).symm.trans h
              refine lv_iconst (v := 0) hx hb dX11_atom_68 (by decide) ?_
              exact gw_ri X hP hS h dX11_atom_69
  · have h := (if_neg c).symm.trans h
    refine lv_iload_n hx hb dX11_atom_7 rfl (lv_at hl 1 rfl) ?_
    refine lv_bipush (v := 61) hx hb dX11_atom_8 (by decide) ?_
    refine lv_icmp_ne (tgt := 33) hx hb dX11_atom_10 (by decide) (fun c => ?_) (fun c => ?_)
    · have h := (if_neg c).symm.trans h
      refine lv_iconst (v := 0) hx hb dX11_atom_33 (by decide) ?_
      refine lv_iconst (v := 1) hx hb dX11_atom_34 (by decide) ?_
      obtain ⟨p15, gp15, h⟩ := Option.bind_eq_some_iff.mp h
      refine gw_cz (gw_rV (C := RX11) X hP hS (gc_X11_no l G (0 : Int32) (1 : Int32) σ _ gp15) gk_X11_no gv_1209 ⟨gv_1211, gv_s22⟩ (va_recv hT.2.1 hP (ci := 13) (q0 := 33) rfl rfl) rfl rfl (Nat.le_of_ble_eq_true rfl) hl.1 ⟨rfl, rfl⟩ ⟨Nat.le_of_ble_eq_true rfl, Nat.le_of_ble_eq_true rfl⟩ ⟨Nat.le_of_ble_eq_true rfl, Nat.le_of_ble_eq_true rfl⟩ dX11_atom_35) hS (fun H locs hb_p15 hP hS => ?_)
      refine lv_if_ne (tgt := 68) hx hb dX11_atom_38 (by decide) (fun c => ?_) (fun c => ?_)
      · have h := (if_neg c).symm.trans h
        refine lv_iconst (v := 0) hx hb dX11_atom_68 (by decide) ?_
        exact gw_ri X hP hS h dX11_atom_69
      · have h := (if_pos c).symm.trans h
        refine lv_aload_n hx hb dX11_atom_41 rfl (lv_at hl 0 rfl) ?_
        refine lv_aload_n hx hb dX11_atom_42 rfl (lv_at hl 0 rfl) ?_
        refine va_get (D := G.1) (ci := 13) (v := .ref (G.2.1 36)) (C := RX11) (T := TX11) (N := 5) hx hb hts gx_X11 hown hT.2.1 hP 33 rfl rfl 2 (by decide) (hts _ gv_1177) (fun _ h9 => h9) rfl dX11_atom_43 ?_
        obtain ⟨p16, gp16, h⟩ := Option.bind_eq_some_iff.mp h
        refine gw_fi (gw_rF (x := ⟨"java/util/List", "size", "()I"⟩) (C := RJx4a65c) X (hT.2.1.1 2 _ rfl).2 hP hS (gc_Jx4a65c_size_8abf5_36 l G p15.2 _ gp16) gk_Jx4a65c_size_8abf5 ⟨by decide +kernel, by decide +kernel⟩ gv_1200 ⟨gv_1204, gv_1206⟩ 0 rfl (va_recv hT.2.1 hP (ci := 2) (q0 := 36) rfl rfl) rfl rfl (Nat.le_of_ble_eq_true rfl) hl.1 ⟨rfl, rfl⟩ ⟨Nat.le_of_ble_eq_true rfl, Nat.le_of_ble_eq_true rfl⟩ ⟨Nat.le_of_ble_eq_true rfl, Nat.le_of_ble_eq_true rfl⟩ dX11_atom_46) hS (fun H locs hP hS => ?_)
        refine lv_bipush (v := 16) hx hb dX11_atom_51 (by decide) ?_
        refine lv_icmp_ge (tgt := 60) hx hb dX11_atom_53 (by decide) (fun c => ?_) (fun c => ?_)
        · have h := (if_pos c).symm.trans h
          refine lv_iconst (v := 0) hx hb dX11_atom_60 (by decide) ?_
          refine lv_iconst (v := 2) hx hb dX11_atom_61 (by decide) ?_
          obtain ⟨p17, gp17, h⟩ := Option.bind_eq_some_iff.mp h
          refine gw_cz (gw_rV (C := RX11) X hP hS (gc_X11_no l G (0 : Int32) (2 : Int32) p16.2 _ gp17) gk_X11_no gv_1209 ⟨gv_1211, gv_s22⟩ (va_recv hT.2.1 hP (ci := 13) (q0 := 33) rfl rfl) rfl rfl (Nat.le_of_ble_eq_true rfl) hl.1 ⟨rfl, rfl⟩ ⟨Nat.le_of_ble_eq_true rfl, Nat.le_of_ble_eq_true rfl⟩ ⟨Nat.le_of_ble_eq_true rfl, Nat.le_of_ble_eq_true rfl⟩ dX11_atom_62) hS (fun H locs hb_p17 hP hS => ?_)
          refine lv_if_eq (tgt := 70) hx hb dX11_atom_65 (by decide) (fun c => ?_) (fun c => ?_)
          · have h := (if_pos c).symm.trans h
            refine lv_aload_n hx hb dX11_atom_70 rfl (lv_at hl 0 rfl) ?_
            exact absurd h (fun h => nomatch h)
          · have h := (if_neg c).symm.trans h
            refine lv_iconst (v := 0) hx hb dX11_atom_68 (by decide) ?_
            exact gw_ri X hP hS h dX11_atom_69
        · have h := (if_neg c).symm.trans h
          refine lv_iconst (v := 1) hx hb dX11_atom_56 (by decide) ?_
          refine lv_goto (tgt := 61) hx hb dX11_atom_57 (by decide) ?_
          refine lv_iconst (v := 2) hx hb dX11_atom_61 (by decide) ?_
          obtain ⟨p18, gp18, h⟩ := Option.bind_eq_some_iff.mp h
          refine gw_cz (gw_rV (C := RX11) X hP hS (gc_X11_no l G (1 : Int32) (2 : Int32) p16.2 _ gp18) gk_X11_no gv_1209 ⟨gv_1211, gv_s22⟩ (va_recv hT.2.1 hP (ci := 13) (q0 := 33) rfl rfl) rfl rfl (Nat.le_of_ble_eq_true rfl) hl.1 ⟨rfl, rfl⟩ ⟨Nat.le_of_ble_eq_true rfl, Nat.le_of_ble_eq_true rfl⟩ ⟨Nat.le_of_ble_eq_true rfl, Nat.le_of_ble_eq_true rfl⟩ dX11_atom_62) hS (fun H locs hb_p18 hP hS => ?_)
          refine lv_if_eq (tgt := 70) hx hb dX11_atom_65 (by decide) (fun c => ?_) (fun c => ?_)
          · have h := (if_pos c).symm.trans h
            refine lv_aload_n hx hb dX11_atom_70 rfl (lv_at hl 0 rfl) ?_
            exact absurd h (fun h => nomatch h)
          · have h := (if_neg c).symm.trans h
            refine lv_iconst (v := 0) hx hb dX11_atom_68 (by decide) ?_
            exact gw_ri X hP hS h dX11_atom_69
    · have h := (if_pos c).symm.trans h
      refine lv_aload_n hx hb dX11_atom_13 rfl (lv_at hl 0 rfl) ?_
      refine lv_iload_n hx hb dX11_atom_14 rfl (lv_at hl 2 rfl) ?_
      obtain ⟨p19, gp19, h⟩ := Option.bind_eq_some_iff.mp h
      refine gw_cz (gw_rV (C := RX11) X hP hS (gc_X11_isTerm l G a1 σ _ gp19) gk_X11_isTerm gv_1609 ⟨gv_1611, gv_s42⟩ (va_recv hT.2.1 hP (ci := 13) (q0 := 33) rfl rfl) rfl rfl (Nat.le_of_ble_eq_true rfl) hl.1 ⟨rfl, rfl⟩ ⟨Nat.le_of_ble_eq_true rfl, Nat.le_of_ble_eq_true rfl⟩ ⟨Nat.le_of_ble_eq_true rfl, Nat.le_of_ble_eq_true rfl⟩ dX11_atom_15) hS (fun H locs hb_p19 hP hS => ?_)
      refine lv_if_eq (tgt := 33) hx hb dX11_atom_18 (by decide) (fun c => ?_) (fun c => ?_)
      · have h := (if_pos c).symm.trans h
        refine lv_iconst (v := 0) hx hb dX11_atom_33 (by decide) ?_
        refine lv_iconst (v := 1) hx hb dX11_atom_34 (by decide) ?_
        obtain ⟨p20, gp20, h⟩ := Option.bind_eq_some_iff.mp h
        refine gw_cz (gw_rV (C := RX11) X hP hS (gc_X11_no l G (0 : Int32) (1 : Int32) p19.2 _ gp20) gk_X11_no gv_1209 ⟨gv_1211, gv_s22⟩ (va_recv hT.2.1 hP (ci := 13) (q0 := 33) rfl rfl) rfl rfl (Nat.le_of_ble_eq_true rfl) hl.1 ⟨rfl, rfl⟩ ⟨Nat.le_of_ble_eq_true rfl, Nat.le_of_ble_eq_true rfl⟩ ⟨Nat.le_of_ble_eq_true rfl, Nat.le_of_ble_eq_true rfl⟩ dX11_atom_35) hS (fun H locs hb_p20 hP hS => ?_)
        refine lv_if_ne (tgt := 68) hx hb dX11_atom_38 (by decide) (fun c => ?_) (fun c => ?_)
        · have h := (if_neg c).symm.trans h
          refine lv_iconst (v := 0) hx hb dX11_atom_68 (by decide) ?_
          exact gw_ri X hP hS h dX11_atom_69
        · have h := (if_pos c).symm.trans h
          refine lv_aload_n hx hb dX11_atom_41 rfl (lv_at hl 0 rfl) ?_
          refine lv_aload_n hx hb dX11_atom_42 rfl (lv_at hl 0 rfl) ?_
          refine va_get (D := G.1) (ci := 13) (v := .ref (G.2.1 36)) (C := RX11) (T := TX11) (N := 5) hx hb hts gx_X11 hown hT.2.1 hP 33 rfl rfl 2 (by decide) (hts _ gv_1177) (fun _ h9 => h9) rfl dX11_atom_43 ?_
          obtain ⟨p21, gp21, h⟩ := Option.bind_eq_some_iff.mp h
          refine gw_fi (gw_rF (x := ⟨"java/util/List", "size", "()I"⟩) (C := RJx4a65c) X (hT.2.1.1 2 _ rfl).2 hP hS (gc_Jx4a65c_size_8abf5_36 l G p20.2 _ gp21) gk_Jx4a65c_size_8abf5 ⟨by decide +kernel, by decide +kernel⟩ gv_1200 ⟨gv_1204, gv_1206⟩ 0 rfl (va_recv hT.2.1 hP (ci := 2) (q0 := 36) rfl rfl) rfl rfl (Nat.le_of_ble_eq_true rfl) hl.1 ⟨rfl, rfl⟩ ⟨Nat.le_of_ble_eq_true rfl, Nat.le_of_ble_eq_true rfl⟩ ⟨Nat.le_of_ble_eq_true rfl, Nat.le_of_ble_eq_true rfl⟩ dX11_atom_46) hS (fun H locs hP hS => ?_)
          refine lv_bipush (v := 16) hx hb dX11_atom_51 (by decide) ?_
          refine lv_icmp_ge (tgt := 60) hx hb dX11_atom_53 (by decide) (fun c => ?_) (fun c => ?_)
          · have h := (if_pos c).symm.trans h
            refine lv_iconst (v := 0) hx hb dX11_atom_60 (by decide) ?_
            refine lv_iconst (v := 2) hx hb dX11_atom_61 (by decide) ?_
            obtain ⟨p22, gp22, h⟩ := Option.bind_eq_some_iff.mp h
            refine gw_cz (gw_rV (C := RX11) X hP hS (gc_X11_no l G (0 : Int32) (2 : Int32) p21.2 _ gp22) gk_X11_no gv_1209 ⟨gv_1211, gv_s22⟩ (va_recv hT.2.1 hP (ci := 13) (q0 := 33) rfl rfl) rfl rfl (Nat.le_of_ble_eq_true rfl) hl.1 ⟨rfl, rfl⟩ ⟨Nat.le_of_ble_eq_true rfl, Nat.le_of_ble_eq_true rfl⟩ ⟨Nat.le_of_ble_eq_true rfl, Nat.le_of_ble_eq_true rfl⟩ dX11_atom_62) hS (fun H locs hb_p22 hP hS => ?_)
            refine lv_if_eq (tgt := 70) hx hb dX11_atom_65 (by decide) (fun c => ?_) (fun c => ?_)
            · have h := (if_pos c).symm.trans h
              refine lv_aload_n hx hb dX11_atom_70 rfl (lv_at hl 0 rfl) ?_
              exact absurd h (fun h => nomatch h)
            · have h := (if_neg c).symm.trans h
              refine lv_iconst (v := 0) hx hb dX11_atom_68 (by decide) ?_
              exact gw_ri X hP hS h dX11_atom_69
          · have h := (if_neg c).symm.trans h
            refine lv_iconst (v := 1) hx hb dX11_atom_56 (by decide) ?_
            refine lv_goto (tgt := 61) hx hb dX11_atom_57 (by decide) ?_
            refine lv_iconst (v := 2) hx hb dX11_atom_61 (by decide) ?_
            obtain ⟨p23, gp23, h⟩ := Option.bind_eq_some_iff.mp h
            refine gw_cz (gw_rV (C := RX11) X hP hS (gc_X11_no l G (1 : Int32) (2 : Int32) p21.2 _ gp23) gk_X11_no gv_1209 ⟨gv_1211, gv_s22⟩ (va_recv hT.2.1 hP (ci := 13) (q0 := 33) rfl rfl) rfl rfl (Nat.le_of_ble_eq_true rfl) hl.1 ⟨rfl, rfl⟩ ⟨Nat.le_of_ble_eq_true rfl, Nat.le_of_ble_eq_true rfl⟩ ⟨Nat.le_of_ble_eq_true rfl, Nat.le_of_ble_eq_true rfl⟩ dX11_atom_62) hS (fun H locs hb_p23 hP hS => ?_)
            refine lv_if_eq (tgt := 70) hx hb dX11_atom_65 (by decide) (fun c => ?_) (fun c => ?_)
            · have h := (if_pos c).symm.trans h
              refine lv_aload_n hx hb dX11_atom_70 rfl (lv_at hl 0 rfl) ?_
              exact absurd h (fun h => nomatch h)
            · have h := (if_neg c).symm.trans h
              refine lv_iconst (v := 0) hx hb dX11_atom_68 (by decide) ?_
              exact gw_ri X hP hS h dX11_atom_69
      · have h := (if_neg c).symm.trans h
        refine lv_aload_n hx hb dX11_atom_21 rfl (lv_at hl 0 rfl) ?_
        refine lv_iload_n hx hb dX11_atom_22 rfl (lv_at hl 3 rfl) ?_
        obtain ⟨p24, gp24, h⟩ := Option.bind_eq_some_iff.mp h
        refine gw_cz (gw_rV (C := RX11) X hP hS (gc_X11_isTerm l G a2 p19.2 _ gp24) gk_X11_isTerm gv_1609 ⟨gv_1611, gv_s42⟩ (va_recv hT.2.1 hP (ci := 13) (q0 := 33) rfl rfl) rfl rfl (Nat.le_of_ble_eq_true rfl) hl.1 ⟨rfl, rfl⟩ ⟨Nat.le_of_ble_eq_true rfl, Nat.le_of_ble_eq_true rfl⟩ ⟨Nat.le_of_ble_eq_true rfl, Nat.le_of_ble_eq_true rfl⟩ dX11_atom_23) hS (fun H locs hb_p24 hP hS => ?_)
        refine lv_if_eq (tgt := 33) hx hb dX11_atom_26 (by decide) (fun c => ?_) (fun c => ?_)
        · have h := (if_pos c).symm.trans h
          refine lv_iconst (v := 0) hx hb dX11_atom_33 (by decide) ?_
          refine lv_iconst (v := 1) hx hb dX11_atom_34 (by decide) ?_
          obtain ⟨p25, gp25, h⟩ := Option.bind_eq_some_iff.mp h
          refine gw_cz (gw_rV (C := RX11) X hP hS (gc_X11_no l G (0 : Int32) (1 : Int32) p24.2 _ gp25) gk_X11_no gv_1209 ⟨gv_1211, gv_s22⟩ (va_recv hT.2.1 hP (ci := 13) (q0 := 33) rfl rfl) rfl rfl (Nat.le_of_ble_eq_true rfl) hl.1 ⟨rfl, rfl⟩ ⟨Nat.le_of_ble_eq_true rfl, Nat.le_of_ble_eq_true rfl⟩ ⟨Nat.le_of_ble_eq_true rfl, Nat.le_of_ble_eq_true rfl⟩ dX11_atom_35) hS (fun H locs hb_p25 hP hS => ?_)
          refine lv_if_ne (tgt := 68) hx hb dX11_atom_38 (by decide) (fun c => ?_) (fun c => ?_)
          · have h := (if_neg c).symm.trans h
            refine lv_iconst (v := 0) hx hb dX11_atom_68 (by decide) ?_
            exact gw_ri X hP hS h dX11_atom_69
          · have h := (if_pos c).symm.trans h
            refine lv_aload_n hx hb dX11_atom_41 rfl (lv_at hl 0 rfl) ?_
            refine lv_aload_n hx hb dX11_atom_42 rfl (lv_at hl 0 rfl) ?_
            refine va_get (D := G.1) (ci := 13) (v := .ref (G.2.1 36)) (C := RX11) (T := TX11) (N := 5) hx hb hts gx_X11 hown hT.2.1 hP 33 rfl rfl 2 (by decide) (hts _ gv_1177) (fun _ h9 => h9) rfl dX11_atom_43 ?_
            obtain ⟨p26, gp26, h⟩ := Option.bind_eq_some_iff.mp h
            refine gw_fi (gw_rF (x := ⟨"java/util/List", "size", "()I"⟩) (C := RJx4a65c) X (hT.2.1.1 2 _ rfl).2 hP hS (gc_Jx4a65c_size_8abf5_36 l G p25.2 _ gp26) gk_Jx4a65c_size_8abf5 ⟨by decide +kernel, by decide +kernel⟩ gv_1200 ⟨gv_1204, gv_1206⟩ 0 rfl (va_recv hT.2.1 hP (ci := 2) (q0 := 36) rfl rfl) rfl rfl (Nat.le_of_ble_eq_true rfl) hl.1 ⟨rfl, rfl⟩ ⟨Nat.le_of_ble_eq_true rfl, Nat.le_of_ble_eq_true rfl⟩ ⟨Nat.le_of_ble_eq_true rfl, Nat.le_of_ble_eq_true rfl⟩ dX11_atom_46) hS (fun H locs hP hS => ?_)
            refine lv_bipush (v := 16) hx hb dX11_atom_51 (by decide) ?_
            refine lv_icmp_ge (tgt := 60) hx hb dX11_atom_53 (by decide) (fun c => ?_) (fun c => ?_)
            · have h := (if_pos c).symm.trans h
              refine lv_iconst (v := 0) hx hb dX11_atom_60 (by decide) ?_
              refine lv_iconst (v := 2) hx hb dX11_atom_61 (by decide) ?_
              obtain ⟨p27, gp27, h⟩ := Option.bind_eq_some_iff.mp h
              refine gw_cz (gw_rV (C := RX11) X hP hS (gc_X11_no l G (0 : Int32) (2 : Int32) p26.2 _ gp27) gk_X11_no gv_1209 ⟨gv_1211, gv_s22⟩ (va_recv hT.2.1 hP (ci := 13) (q0 := 33) rfl rfl) rfl rfl (Nat.le_of_ble_eq_true rfl) hl.1 ⟨rfl, rfl⟩ ⟨Nat.le_of_ble_eq_true rfl, Nat.le_of_ble_eq_true rfl⟩ ⟨Nat.le_of_ble_eq_true rfl, Nat.le_of_ble_eq_true rfl⟩ dX11_atom_62) hS (fun H locs hb_p27 hP hS => ?_)
              refine lv_if_eq (tgt := 70) hx hb dX11_atom_65 (by decide) (fun c => ?_) (fun c => ?_)
              · have h := (if_pos c).symm.trans h
                refine lv_aload_n hx hb dX11_atom_70 rfl (lv_at hl 0 rfl) ?_
                exact absurd h (fun h => nomatch h)
              · have h := (if_neg c).symm.trans h
                refine lv_iconst (v := 0) hx hb dX11_atom_68 (by decide) ?_
                exact gw_ri X hP hS h dX11_atom_69
            · have h := (if_neg c).symm.trans h
              refine lv_iconst (v := 1) hx hb dX11_atom_56 (by decide) ?_
              refine lv_goto (tgt := 61) hx hb dX11_atom_57 (by decide) ?_
              refine lv_iconst (v := 2) hx hb dX11_atom_61 (by decide) ?_
              obtain ⟨p28, gp28, h⟩ := Option.bind_eq_some_iff.mp h
              refine gw_cz (gw_rV (C := RX11) X hP hS (gc_X11_no l G (1 : Int32) (2 : Int32) p26.2 _ gp28) gk_X11_no gv_1209 ⟨gv_1211, gv_s22⟩ (va_recv hT.2.1 hP (ci := 13) (q0 := 33) rfl rfl) rfl rfl (Nat.le_of_ble_eq_true rfl) hl.1 ⟨rfl, rfl⟩ ⟨Nat.le_of_ble_eq_true rfl, Nat.le_of_ble_eq_true rfl⟩ ⟨Nat.le_of_ble_eq_true rfl, Nat.le_of_ble_eq_true rfl⟩ dX11_atom_62) hS (fun H locs hb_p28 hP hS => ?_)
              refine lv_if_eq (tgt := 70) hx hb dX11_atom_65 (by decide) (fun c => ?_) (fun c => ?_)
              · have h := (if_pos c).symm.trans h
                refine lv_aload_n hx hb dX11_atom_70 rfl (lv_at hl 0 rfl) ?_
                exact absurd h (fun h => nomatch h)
              · have h := (if_neg c).symm.trans h
                refine lv_iconst (v := 0) hx hb dX11_atom_68 (by decide) ?_
                exact gw_ri X hP hS h dX11_atom_69
        · have h := (if_neg c).symm.trans h
          refine lv_iconst (v := 1) hx hb dX11_atom_29 (by decide) ?_
          refine lv_goto (tgt := 34) hx hb dX11_atom_30 (by decide) ?_
          refine lv_iconst (v := 1) hx hb dX11_atom_34 (by decide) ?_
          obtain ⟨p29, gp29, h⟩ := Option.bind_eq_some_iff.mp h
          refine gw_cz (gw_rV (C := RX11) X hP hS (gc_X11_no l G (1 : Int32) (1 : Int32) p24.2 _ gp29) gk_X11_no gv_1209 ⟨gv_1211, gv_s22⟩ (va_recv hT.2.1 hP (ci := 13) (q0 := 33) rfl rfl) rfl rfl (Nat.le_of_ble_eq_true rfl) hl.1 ⟨rfl, rfl⟩ ⟨Nat.le_of_ble_eq_true rfl, Nat.le_of_ble_eq_true rfl⟩ ⟨Nat.le_of_ble_eq_true rfl, Nat.le_of_ble_eq_true rfl⟩ dX11_atom_35) hS (fun H locs hb_p29 hP hS => ?_)
          refine lv_if_ne (tgt := 68) hx hb dX11_atom_38 (by decide) (fun c => ?_) (fun c => ?_)
          · have h := (if_neg c).symm.trans h
            refine lv_iconst (v := 0) hx hb dX11_atom_68 (by decide) ?_
            exact gw_ri X hP hS h dX11_atom_69
          · have h := (if_pos c).symm.trans h
            refine lv_aload_n hx hb dX11_atom_41 rfl (lv_at hl 0 rfl) ?_
            refine lv_aload_n hx hb dX11_atom_42 rfl (lv_at hl 0 rfl) ?_
            refine va_get (D := G.1) (ci := 13) (v := .ref (G.2.1 36)) (C := RX11) (T := TX11) (N := 5) hx hb hts gx_X11 hown hT.2.1 hP 33 rfl rfl 2 (by decide) (hts _ gv_1177) (fun _ h9 => h9) rfl dX11_atom_43 ?_
            obtain ⟨p30, gp30, h⟩ := Option.bind_eq_some_iff.mp h
            refine gw_fi (gw_rF (x := ⟨"java/util/List", "size", "()I"⟩) (C := RJx4a65c) X (hT.2.1.1 2 _ rfl).2 hP hS (gc_Jx4a65c_size_8abf5_36 l G p29.2 _ gp30) gk_Jx4a65c_size_8abf5 ⟨by decide +kernel, by decide +kernel⟩ gv_1200 ⟨gv_1204, gv_1206⟩ 0 rfl (va_recv hT.2.1 hP (ci := 2) (q0 := 36) rfl rfl) rfl rfl (Nat.le_of_ble_eq_true rfl) hl.1 ⟨rfl, rfl⟩ ⟨Nat.le_of_ble_eq_true rfl, Nat.le_of_ble_eq_true rfl⟩ ⟨Nat.le_of_ble_eq_true rfl, Nat.le_of_ble_eq_true rfl⟩ dX11_atom_46) hS (fun H locs hP hS => ?_)
            refine lv_bipush (v := 16) hx hb dX11_atom_51 (by decide) ?_
            refine lv_icmp_ge (tgt := 60) hx hb dX11_atom_53 (by decide) (fun c => ?_) (fun c => ?_)
            · have h := (if_pos c).symm.trans h
              refine lv_iconst (v := 0) hx hb dX11_atom_60 (by decide) ?_
              refine lv_iconst (v := 2) hx hb dX11_atom_61 (by decide) ?_
              obtain ⟨p31, gp31, h⟩ := Option.bind_eq_some_iff.mp h
              refine gw_cz (gw_rV (C := RX11) X hP hS (gc_X11_no l G (0 : Int32) (2 : Int32) p30.2 _ gp31) gk_X11_no gv_1209 ⟨gv_1211, gv_s22⟩ (va_recv hT.2.1 hP (ci := 13) (q0 := 33) rfl rfl) rfl rfl (Nat.le_of_ble_eq_true rfl) hl.1 ⟨rfl, rfl⟩ ⟨Nat.le_of_ble_eq_true rfl, Nat.le_of_ble_eq_true rfl⟩ ⟨Nat.le_of_ble_eq_true rfl, Nat.le_of_ble_eq_true rfl⟩ dX11_atom_62) hS (fun H locs hb_p31 hP hS => ?_)
              refine lv_if_eq (tgt := 70) hx hb dX11_atom_65 (by decide) (fun c => ?_) (fun c => ?_)
              · have h := (if_pos c).symm.trans h
                refine lv_aload_n hx hb dX11_atom_70 rfl (lv_at hl 0 rfl) ?_
                exact absurd h (fun h => nomatch h)
              · have h := (if_neg c).symm.trans h
                refine lv_iconst (v := 0) hx hb dX11_atom_68 (by decide) ?_
                exact gw_ri X hP hS h dX11_atom_69
            · have h := (if_neg c).symm.trans h
              refine lv_iconst (v := 1) hx hb dX11_atom_56 (by decide) ?_
              refine lv_goto (tgt := 61) hx hb dX11_atom_57 (by decide) ?_
              refine lv_iconst (v := 2) hx hb dX11_atom_61 (by decide) ?_
              obtain ⟨p32, gp32, h⟩ := Option.bind_eq_some_iff.mp h
              refine gw_cz (gw_rV (C := RX11) X hP hS (gc_X11_no l G (1 : Int32) (2 : Int32) p30.2 _ gp32) gk_X11_no gv_1209 ⟨gv_1211, gv_s22⟩ (va_recv hT.2.1 hP (ci := 13) (q0 := 33) rfl rfl) rfl rfl (Nat.le_of_ble_eq_true rfl) hl.1 ⟨rfl, rfl⟩ ⟨Nat.le_of_ble_eq_true rfl, Nat.le_of_ble_eq_true rfl⟩ ⟨Nat.le_of_ble_eq_true rfl, Nat.le_of_ble_eq_true rfl⟩ dX11_atom_62) hS (fun H locs hb_p32 hP hS => ?_)
              refine lv_if_eq (tgt := 70) hx hb dX11_atom_65 (by decide) (fun c => ?_) (fun c => ?_)
              · have h := (if_pos c).symm.trans h
                refine lv_aload_n hx hb dX11_atom_70 rfl (lv_at hl 0 rfl) ?_
                exact absurd h (fun h => nomatch h)
              · have h := (if_neg c).symm.trans h
                refine lv_iconst (v := 0) hx hb dX11_atom_68 (by decide) ?_
                exact gw_ri X hP hS h dX11_atom_69
