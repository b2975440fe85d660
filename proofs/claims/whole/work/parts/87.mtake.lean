/-! MODEL (X11): put, goes, take, opens, isMade. -/
set_option maxRecDepth 100000 in
set_option maxHeartbeats 4000000 in
theorem c_mt1 (Z : zT) (l : Launch) (h : Nat) (ad : Nat → Nat) (iv : ivT) (av : avT) (a en : Nat) (g : Int32) (ha : iv 16 = nI a) (hen : iv 17 = nI en) (hgv : iv 18 = g) (hg : g = 0 ∨ g = 1) (hae : a ≤ 200000) (hel : en ≤ 140000) : Kl Z l yX11_take cX11_take 5 (some .long) ({ frames := 0, cells := 0, slots := 0, locals := 0 }) [.ref h, .int 1] (mdW Z h ad iv av) (fun r u => ∃ iv2, u = mdW Z h ad iv2 av ∧ sI [16, 18] iv iv2 ∧ iv2 16 = nI (a + 1) ∧ ((g = 1 ∧ a + 1 ≤ en ∧ iv2 18 = 1 ∧ r = (nI (ub (av 3 a))).toInt64) ∨ (¬ (g = 1 ∧ a + 1 ≤ en) ∧ iv2 18 = 0 ∧ r = 0))) := by
  intro sz
  refine Met.ofK (cc := cX11_take) (maxL := 5) (ret := (some .long)) (by decide) (Nat.le_of_ble_eq_true rfl) ?_
  intro p e s m below meth c ls C G hl
  generalize va_A _ sz = A at G ⊢
  have hx := C.1
  have hb := C.2.1
  have hown := C.2.2.2.2.2.1
  have hts := C.2.2.2.2.2.2.1
  have hg1 : ¬ g = 0 → g = 1 := fun z => hg.resolve_left z
  refine lv_lconst (v := 0) hx hb dX11_take_0 (by decide) ?_
  refine lv_lstore_n (lv' := [(2, .long 0), (0, .ref h), (1, .int 1)]) hx hb dX11_take_1 rfl hl (by decide) rfl (fun ls hl => ?_)
  refine lv_iconst (v := 0) hx hb dX11_take_2 (by decide) ?_
  refine lv_istore (lv' := [(4, .int 0), (2, .long 0), (0, .ref h), (1, .int 1)]) hx hb dX11_take_3 hl (by decide) rfl (fun ls hl => ?_)
  refine lv_iload hx hb dX11_take_5 (lv_at hl 0 rfl) ?_
  refine lv_iload_n hx hb dX11_take_7 rfl (lv_at hl 3 rfl) ?_
  refine lv_icmp_ge (tgt := 85) hx hb dX11_take_8 (by decide) (fun c_8 => ?_) (fun c_8 => ?_)
  · exact absurd c_8 (by decide)
  · have n_8 := nb_nle (a := 1) (b := 0) c_8 (by omega) (by omega)
    refine lv_aload_n hx hb dX11_take_11 rfl (lv_at hl 2 rfl) ?_
    refine lv_aload_n hx hb dX11_take_12 rfl (lv_at hl 2 rfl) ?_
    refine k_mgi (v := g) C G 18 (by decide) mr_18 hgv fl_X11_175 rfl dX11_take_13 ?_
    refine lv_if_eq (tgt := 34) hx hb dX11_take_16 (by decide) (fun c_16 => ?_) (fun c_16 => ?_)
    · refine lv_iconst (v := 0) hx hb dX11_take_34 (by decide) ?_
      refine k_mpi (v := 0) (ty := .boolean) C G 18 (by decide) mr_18 fl_X11_175 rfl rfl rfl rfl rfl dX11_take_35 (fun H locs (G : wd Z A s (mdW Z h ad (upd iv 18 0) av) H locs) => ?_)
      refine lv_lload_n hx hb dX11_take_38 rfl (lv_at hl 1 rfl) ?_
      refine lv_bipush (v := 8) hx hb dX11_take_39 (by decide) ?_
      refine lv_lshl (v := 0 <<< ((8 : Int32).toInt64 &&& 63)) hx hb dX11_take_41 rfl ?_
      refine lv_aload_n hx hb dX11_take_42 rfl (lv_at hl 2 rfl) ?_
      refine k_mgi (v := 0) C G 18 (by decide) mr_18 rfl fl_X11_175 rfl dX11_take_43 ?_
      refine lv_if_eq (tgt := 66) hx hb dX11_take_46 (by decide) (fun c_46 => ?_) (fun c_46 => ?_)
      · have n_46 := nb_eq (a := 0) (b := 0) c_46 (by omega) (by omega)
        refine lv_lconst (v := 0) hx hb dX11_take_66 (by decide) ?_
        refine lv_lor hx hb dX11_take_67 ?_
        refine lv_lstore_n (lv' := [(2, .long ((0 <<< ((8 : Int32).toInt64 &&& 63)) ||| 0)), (4, .int 0), (0, .ref h), (1, .int 1)]) hx hb dX11_take_68 rfl hl (by decide) rfl (fun ls hl => ?_)
        refine lv_aload_n hx hb dX11_take_69 rfl (lv_at hl 2 rfl) ?_
        refine lv_dup hx hb dX11_take_70 rfl ?_
        refine k_mgi (v := nI a) C G 16 (by decide) mr_16 ha fl_X11_179 rfl dX11_take_71 ?_
        refine lv_iconst (v := 1) hx hb dX11_take_74 (by decide) ?_
        refine lv_iadd hx hb dX11_take_75 ?_
        refine k_topi (y := nI (a + 1)) (nI_add a 1) ?_
        refine k_mpi (v := nI (a + 1)) (ty := .int) C G 16 (by decide) mr_16 fl_X11_179 rfl rfl rfl rfl rfl dX11_take_76 (fun H locs (G : wd Z A s (mdW Z h ad (upd (upd iv 18 0) 16 (nI (a + 1))) av) H locs) => ?_)
        refine lv_iinc (v := 1) (lv' := [(4, .int 1), (2, .long ((0 <<< ((8 : Int32).toInt64 &&& 63)) ||| 0)), (0, .ref h), (1, .int 1)]) hx hb dX11_take_79 hl (k := 1) rfl (by decide) (by decide) rfl (fun ls hl => ?_)
        refine lv_goto (tgt := 5) hx hb dX11_take_82 (by decide) ?_
        refine lv_iload hx hb dX11_take_5 (lv_at hl 0 rfl) ?_
        refine lv_iload_n hx hb dX11_take_7 rfl (lv_at hl 3 rfl) ?_
        refine lv_icmp_ge (tgt := 85) hx hb dX11_take_8 (by decide) (fun c_8_1 => ?_) (fun c_8_1 => ?_)
        · have n_8_1 := nb_le (a := 1) (b := 1) c_8_1 (by omega) (by omega)
          refine lv_lload_n hx hb dX11_take_85 rfl (lv_at hl 1 rfl) ?_
          exact kr_l C G ⟨_, rfl, ((sI.rf.up (by decide) _).up (by decide) _), rfl, Or.inr ⟨fun z => absurd (z.1.symm.trans c_16) (by decide), rfl, rfl⟩⟩ (Nat.le_of_ble_eq_true rfl) (Nat.le_of_ble_eq_true rfl) dX11_take_86
        · exact absurd c_8_1 (by decide)
      · exact absurd c_46 (by decide)
    · refine lv_aload_n hx hb dX11_take_19 rfl (lv_at hl 2 rfl) ?_
      refine k_mgi (v := nI a) C G 16 (by decide) mr_16 ha fl_X11_179 rfl dX11_take_20 ?_
      refine lv_aload_n hx hb dX11_take_23 rfl (lv_at hl 2 rfl) ?_
      refine k_mgi (v := nI en) C G 17 (by decide) mr_17 hen fl_X11_182 rfl dX11_take_24 ?_
      refine lv_icmp_ge (tgt := 34) hx hb dX11_take_27 (by decide) (fun c_27 => ?_) (fun c_27 => ?_)
      · have n_27 := nb_le (a := en) (b := a) c_27 (by omega) (by omega)
        refine lv_iconst (v := 0) hx hb dX11_take_34 (by decide) ?_
        refine k_mpi (v := 0) (ty := .boolean) C G 18 (by decide) mr_18 fl_X11_175 rfl rfl rfl rfl rfl dX11_take_35 (fun H locs (G : wd Z A s (mdW Z h ad (upd iv 18 0) av) H locs) => ?_)
        refine lv_lload_n hx hb dX11_take_38 rfl (lv_at hl 1 rfl) ?_
        refine lv_bipush (v := 8) hx hb dX11_take_39 (by decide) ?_
        refine lv_lshl (v := 0 <<< ((8 : Int32).toInt64 &&& 63)) hx hb dX11_take_41 rfl ?_
        refine lv_aload_n hx hb dX11_take_42 rfl (lv_at hl 2 rfl) ?_
        refine k_mgi (v := 0) C G 18 (by decide) mr_18 rfl fl_X11_175 rfl dX11_take_43 ?_
        refine lv_if_eq (tgt := 66) hx hb dX11_take_46 (by decide) (fun c_46 => ?_) (fun c_46 => ?_)
        · have n_46 := nb_eq (a := 0) (b := 0) c_46 (by omega) (by omega)
          refine lv_lconst (v := 0) hx hb dX11_take_66 (by decide) ?_
          refine lv_lor hx hb dX11_take_67 ?_
          refine lv_lstore_n (lv' := [(2, .long ((0 <<< ((8 : Int32).toInt64 &&& 63)) ||| 0)), (4, .int 0), (0, .ref h), (1, .int 1)]) hx hb dX11_take_68 rfl hl (by decide) rfl (fun ls hl => ?_)
          refine lv_aload_n hx hb dX11_take_69 rfl (lv_at hl 2 rfl) ?_
          refine lv_dup hx hb dX11_take_70 rfl ?_
          refine k_mgi (v := nI a) C G 16 (by decide) mr_16 ha fl_X11_179 rfl dX11_take_71 ?_
          refine lv_iconst (v := 1) hx hb dX11_take_74 (by decide) ?_
          refine lv_iadd hx hb dX11_take_75 ?_
          refine k_topi (y := nI (a + 1)) (nI_add a 1) ?_
          refine k_mpi (v := nI (a + 1)) (ty := .int) C G 16 (by decide) mr_16 fl_X11_179 rfl rfl rfl rfl rfl dX11_take_76 (fun H locs (G : wd Z A s (mdW Z h ad (upd (upd iv 18 0) 16 (nI (a + 1))) av) H locs) => ?_)
          refine lv_iinc (v := 1) (lv' := [(4, .int 1), (2, .long ((0 <<< ((8 : Int32).toInt64 &&& 63)) ||| 0)), (0, .ref h), (1, .int 1)]) hx hb dX11_take_79 hl (k := 1) rfl (by decide) (by decide) rfl (fun ls hl => ?_)
          refine lv_goto (tgt := 5) hx hb dX11_take_82 (by decide) ?_
          refine lv_iload hx hb dX11_take_5 (lv_at hl 0 rfl) ?_
          refine lv_iload_n hx hb dX11_take_7 rfl (lv_at hl 3 rfl) ?_
          refine lv_icmp_ge (tgt := 85) hx hb dX11_take_8 (by decide) (fun c_8_1 => ?_) (fun c_8_1 => ?_)
          · have n_8_1 := nb_le (a := 1) (b := 1) c_8_1 (by omega) (by omega)
            refine lv_lload_n hx hb dX11_take_85 rfl (lv_at hl 1 rfl) ?_
            exact kr_l C G ⟨_, rfl, ((sI.rf.up (by decide) _).up (by decide) _), rfl, Or.inr ⟨fun z => absurd z.2 (by omega), rfl, rfl⟩⟩ (Nat.le_of_ble_eq_true rfl) (Nat.le_of_ble_eq_true rfl) dX11_take_86
          · exact absurd c_8_1 (by decide)
        · exact absurd c_46 (by decide)
      · have n_27 := nb_nle (a := en) (b := a) c_27 (by omega) (by omega)
        refine lv_iconst (v := 1) hx hb dX11_take_30 (by decide) ?_
        refine lv_goto (tgt := 35) hx hb dX11_take_31 (by decide) ?_
        refine k_mpi (v := 1) (ty := .boolean) C G 18 (by decide) mr_18 fl_X11_175 rfl rfl rfl rfl rfl dX11_take_35 (fun H locs (G : wd Z A s (mdW Z h ad (upd iv 18 1) av) H locs) => ?_)
        refine lv_lload_n hx hb dX11_take_38 rfl (lv_at hl 1 rfl) ?_
        refine lv_bipush (v := 8) hx hb dX11_take_39 (by decide) ?_
        refine lv_lshl (v := 0 <<< ((8 : Int32).toInt64 &&& 63)) hx hb dX11_take_41 rfl ?_
        refine lv_aload_n hx hb dX11_take_42 rfl (lv_at hl 2 rfl) ?_
        refine k_mgi (v := 1) C G 18 (by decide) mr_18 rfl fl_X11_175 rfl dX11_take_43 ?_
        refine lv_if_eq (tgt := 66) hx hb dX11_take_46 (by decide) (fun c_46 => ?_) (fun c_46 => ?_)
        · exact absurd c_46 (by decide)
        · have n_46 := nb_ne (a := 1) (b := 0) c_46 (by omega) (by omega)
          refine lv_aload_n hx hb dX11_take_49 rfl (lv_at hl 2 rfl) ?_
          refine k_mga C G 3 (by decide) mr_3 fl_X11_20 rfl dX11_take_50 ?_
          refine lv_aload_n hx hb dX11_take_53 rfl (lv_at hl 2 rfl) ?_
          refine k_mgi (v := nI a) C G 16 (by decide) mr_16 ha fl_X11_179 rfl dX11_take_54 ?_
          refine k_mbl (v := (av 3) a) (i := a) C G 3 (k := 3) (n := 140000) mp_3 (by decide) (by omega) rfl dX11_take_57 ?_
          refine lv_i2l (v := ((av 3) a).toInt64) hx hb dX11_take_58 rfl ?_
          refine lv_ldc2 (v := 255) hx hb hown (hts _ kl_X11_185) dX11_take_59 ?_
          refine lv_land hx hb dX11_take_62 ?_
          refine lv_goto (tgt := 67) hx hb dX11_take_63 (by decide) ?_
          refine lv_lor hx hb dX11_take_67 ?_
          refine lv_lstore_n (lv' := [(2, .long ((0 <<< ((8 : Int32).toInt64 &&& 63)) ||| ((((av 3) a).toInt64) &&& 255))), (4, .int 0), (0, .ref h), (1, .int 1)]) hx hb dX11_take_68 rfl hl (by decide) rfl (fun ls hl => ?_)
          refine lv_aload_n hx hb dX11_take_69 rfl (lv_at hl 2 rfl) ?_
          refine lv_dup hx hb dX11_take_70 rfl ?_
          refine k_mgi (v := nI a) C G 16 (by decide) mr_16 ha fl_X11_179 rfl dX11_take_71 ?_
          refine lv_iconst (v := 1) hx hb dX11_take_74 (by decide) ?_
          refine lv_iadd hx hb dX11_take_75 ?_
          refine k_topi (y := nI (a + 1)) (nI_add a 1) ?_
          refine k_mpi (v := nI (a + 1)) (ty := .int) C G 16 (by decide) mr_16 fl_X11_179 rfl rfl rfl rfl rfl dX11_take_76 (fun H locs (G : wd Z A s (mdW Z h ad (upd (upd iv 18 1) 16 (nI (a + 1))) av) H locs) => ?_)
          refine lv_iinc (v := 1) (lv' := [(4, .int 1), (2, .long ((0 <<< ((8 : Int32).toInt64 &&& 63)) ||| ((((av 3) a).toInt64) &&& 255))), (0, .ref h), (1, .int 1)]) hx hb dX11_take_79 hl (k := 1) rfl (by decide) (by decide) rfl (fun ls hl => ?_)
          refine lv_goto (tgt := 5) hx hb dX11_take_82 (by decide) ?_
          refine lv_iload hx hb dX11_take_5 (lv_at hl 0 rfl) ?_
          refine lv_iload_n hx hb dX11_take_7 rfl (lv_at hl 3 rfl) ?_
          refine lv_icmp_ge (tgt := 85) hx hb dX11_take_8 (by decide) (fun c_8_1 => ?_) (fun c_8_1 => ?_)
          · have n_8_1 := nb_le (a := 1) (b := 1) c_8_1 (by omega) (by omega)
            refine lv_lload_n hx hb dX11_take_85 rfl (lv_at hl 1 rfl) ?_
            exact kr_l C G ⟨_, rfl, ((sI.rf.up (by decide) _).up (by decide) _), rfl, Or.inl ⟨hg1 c_16, by omega, rfl, tk1_b _⟩⟩ (Nat.le_of_ble_eq_true rfl) (Nat.le_of_ble_eq_true rfl) dX11_take_86
          · exact absurd c_8_1 (by decide)
set_option maxRecDepth 100000 in
set_option maxHeartbeats 4000000 in
theorem c_mt4 (Z : zT) (l : Launch) (h : Nat) (ad : Nat → Nat) (iv : ivT) (av : avT) (a en : Nat) (g : Int32) (ha : iv 16 = nI a) (hen : iv 17 = nI en) (hgv : iv 18 = g) (hg : g = 0 ∨ g = 1) (hae : a ≤ 200000) (hel : en ≤ 140000) : Kl Z l yX11_take cX11_take 5 (some .long) ({ frames := 0, cells := 0, slots := 0, locals := 0 }) [.ref h, .int 4] (mdW Z h ad iv av) (fun r u => ∃ iv2, u = mdW Z h ad iv2 av ∧ sI [16, 18] iv iv2 ∧ iv2 16 = nI (a + 4) ∧ ((g = 1 ∧ a + 4 ≤ en ∧ iv2 18 = 1 ∧ r.toInt32 = r4 (av 3) a) ∨ (¬ (g = 1 ∧ a + 4 ≤ en) ∧ iv2 18 = 0))) := by
  intro sz
  refine Met.ofK (cc := cX11_take) (maxL := 5) (ret := (some .long)) (by decide) (Nat.le_of_ble_eq_true rfl) ?_
  intro p e s m below meth c ls C G hl
  generalize va_A _ sz = A at G ⊢
  have hx := C.1
  have hb := C.2.1
  have hown := C.2.2.2.2.2.1
  have hts := C.2.2.2.2.2.2.1
  have hg1 : ¬ g = 0 → g = 1 := fun z => hg.resolve_left z
  refine lv_lconst (v := 0) hx hb dX11_take_0 (by decide) ?_
  refine lv_lstore_n (lv' := [(2, .long 0), (0, .ref h), (1, .int 4)]) hx hb dX11_take_1 rfl hl (by decide) rfl (fun ls hl => ?_)
  refine lv_iconst (v := 0) hx hb dX11_take_2 (by decide) ?_
  refine lv_istore (lv' := [(4, .int 0), (2, .long 0), (0, .ref h), (1, .int 4)]) hx hb dX11_take_3 hl (by decide) rfl (fun ls hl => ?_)
  refine lv_iload hx hb dX11_take_5 (lv_at hl 0 rfl) ?_
  refine lv_iload_n hx hb dX11_take_7 rfl (lv_at hl 3 rfl) ?_
  refine lv_icmp_ge (tgt := 85) hx hb dX11_take_8 (by decide) (fun c_8 => ?_) (fun c_8 => ?_)
  · exact absurd c_8 (by decide)
  · have n_8 := nb_nle (a := 4) (b := 0) c_8 (by omega) (by omega)
    refine lv_aload_n hx hb dX11_take_11 rfl (lv_at hl 2 rfl) ?_
    refine lv_aload_n hx hb dX11_take_12 rfl (lv_at hl 2 rfl) ?_
    refine k_mgi (v := g) C G 18 (by decide) mr_18 hgv fl_X11_175 rfl dX11_take_13 ?_
    refine lv_if_eq (tgt := 34) hx hb dX11_take_16 (by decide) (fun c_16 => ?_) (fun c_16 => ?_)
    · refine lv_iconst (v := 0) hx hb dX11_take_34 (by decide) ?_
      refine k_mpi (v := 0) (ty := .boolean) C G 18 (by decide) mr_18 fl_X11_175 rfl rfl rfl rfl rfl dX11_take_35 (fun H locs (G : wd Z A s (mdW Z h ad (upd iv 18 0) av) H locs) => ?_)
      refine lv_lload_n hx hb dX11_take_38 rfl (lv_at hl 1 rfl) ?_
      refine lv_bipush (v := 8) hx hb dX11_take_39 (by decide) ?_
      refine lv_lshl (v := 0 <<< ((8 : Int32).toInt64 &&& 63)) hx hb dX11_take_41 rfl ?_
      refine lv_aload_n hx hb dX11_take_42 rfl (lv_at hl 2 rfl) ?_
      refine k_mgi (v := 0) C G 18 (by decide) mr_18 rfl fl_X11_175 rfl dX11_take_43 ?_
      refine lv_if_eq (tgt := 66) hx hb dX11_take_46 (by decide) (fun c_46 => ?_) (fun c_46 => ?_)
      · have n_46 := nb_eq (a := 0) (b := 0) c_46 (by omega) (by omega)
        refine lv_lconst (v := 0) hx hb dX11_take_66 (by decide) ?_
        refine lv_lor hx hb dX11_take_67 ?_
        refine lv_lstore_n (lv' := [(2, .long ((0 <<< ((8 : Int32).toInt64 &&& 63)) ||| 0)), (4, .int 0), (0, .ref h), (1, .int 4)]) hx hb dX11_take_68 rfl hl (by decide) rfl (fun ls hl => ?_)
        refine lv_aload_n hx hb dX11_take_69 rfl (lv_at hl 2 rfl) ?_
        refine lv_dup hx hb dX11_take_70 rfl ?_
        refine k_mgi (v := nI a) C G 16 (by decide) mr_16 ha fl_X11_179 rfl dX11_take_71 ?_
        refine lv_iconst (v := 1) hx hb dX11_take_74 (by decide) ?_
        refine lv_iadd hx hb dX11_take_75 ?_
        refine k_topi (y := nI (a + 1)) (nI_add a 1) ?_
        refine k_mpi (v := nI (a + 1)) (ty := .int) C G 16 (by decide) mr_16 fl_X11_179 rfl rfl rfl rfl rfl dX11_take_76 (fun H locs (G : wd Z A s (mdW Z h ad (upd (upd iv 18 0) 16 (nI (a + 1))) av) H locs) => ?_)
        refine lv_iinc (v := 1) (lv' := [(4, .int 1), (2, .long ((0 <<< ((8 : Int32).toInt64 &&& 63)) ||| 0)), (0, .ref h), (1, .int 4)]) hx hb dX11_take_79 hl (k := 1) rfl (by decide) (by decide) rfl (fun ls hl => ?_)
        refine lv_goto (tgt := 5) hx hb dX11_take_82 (by decide) ?_
        refine lv_iload hx hb dX11_take_5 (lv_at hl 0 rfl) ?_
        refine lv_iload_n hx hb dX11_take_7 rfl (lv_at hl 3 rfl) ?_
        refine lv_icmp_ge (tgt := 85) hx hb dX11_take_8 (by decide) (fun c_8_1 => ?_) (fun c_8_1 => ?_)
        · exact absurd c_8_1 (by decide)
        · have n_8_1 := nb_nle (a := 4) (b := 1) c_8_1 (by omega) (by omega)
          refine lv_aload_n hx hb dX11_take_11 rfl (lv_at hl 2 rfl) ?_
          refine lv_aload_n hx hb dX11_take_12 rfl (lv_at hl 2 rfl) ?_
          refine k_mgi (v := 0) C G 18 (by decide) mr_18 rfl fl_X11_175 rfl dX11_take_13 ?_
          refine lv_if_eq (tgt := 34) hx hb dX11_take_16 (by decide) (fun c_16_1 => ?_) (fun c_16_1 => ?_)
          · have n_16_1 := nb_eq (a := 0) (b := 0) c_16_1 (by omega) (by omega)
            refine lv_iconst (v := 0) hx hb dX11_take_34 (by decide) ?_
            refine k_mpi (v := 0) (ty := .boolean) C G 18 (by decide) mr_18 fl_X11_175 rfl rfl rfl rfl rfl dX11_take_35 (fun H locs (G : wd Z A s (mdW Z h ad (upd (upd (upd iv 18 0) 16 (nI (a + 1))) 18 0) av) H locs) => ?_)
            refine lv_lload_n hx hb dX11_take_38 rfl (lv_at hl 1 rfl) ?_
            refine lv_bipush (v := 8) hx hb dX11_take_39 (by decide) ?_
            refine lv_lshl (v := ((0 <<< ((8 : Int32).toInt64 &&& 63)) ||| 0) <<< ((8 : Int32).toInt64 &&& 63)) hx hb dX11_take_41 rfl ?_
            refine lv_aload_n hx hb dX11_take_42 rfl (lv_at hl 2 rfl) ?_
            refine k_mgi (v := 0) C G 18 (by decide) mr_18 rfl fl_X11_175 rfl dX11_take_43 ?_
            refine lv_if_eq (tgt := 66) hx hb dX11_take_46 (by decide) (fun c_46_1 => ?_) (fun c_46_1 => ?_)
            · have n_46_1 := nb_eq (a := 0) (b := 0) c_46_1 (by omega) (by omega)
              refine lv_lconst (v := 0) hx hb dX11_take_66 (by decide) ?_
              refine lv_lor hx hb dX11_take_67 ?_
              refine lv_lstore_n (lv' := [(2, .long ((((0 <<< ((8 : Int32).toInt64 &&& 63)) ||| 0) <<< ((8 : Int32).toInt64 &&& 63)) ||| 0)), (4, .int 1), (0, .ref h), (1, .int 4)]) hx hb dX11_take_68 rfl hl (by decide) rfl (fun ls hl => ?_)
              refine lv_aload_n hx hb dX11_take_69 rfl (lv_at hl 2 rfl) ?_
              refine lv_dup hx hb dX11_take_70 rfl ?_
              refine k_mgi (v := nI (a + 1)) C G 16 (by decide) mr_16 rfl fl_X11_179 rfl dX11_take_71 ?_
              refine lv_iconst (v := 1) hx hb dX11_take_74 (by decide) ?_
              refine lv_iadd hx hb dX11_take_75 ?_
              refine k_topi (y := nI (a + 1 + 1)) (nI_add (a + 1) 1) ?_
              refine k_mpi (v := nI (a + 1 + 1)) (ty := .int) C G 16 (by decide) mr_16 fl_X11_179 rfl rfl rfl rfl rfl dX11_take_76 (fun H locs (G : wd Z A s (mdW Z h ad (upd (upd (upd (upd iv 18 0) 16 (nI (a + 1))) 18 0) 16 (nI (a + 1 + 1))) av) H locs) => ?_)
              refine lv_iinc (v := 2) (lv' := [(4, .int 2), (2, .long ((((0 <<< ((8 : Int32).toInt64 &&& 63)) ||| 0) <<< ((8 : Int32).toInt64 &&& 63)) ||| 0)), (0, .ref h), (1, .int 4)]) hx hb dX11_take_79 hl (k := 1) rfl (by decide) (by decide) rfl (fun ls hl => ?_)
              refine lv_goto (tgt := 5) hx hb dX11_take_82 (by decide) ?_
              refine lv_iload hx hb dX11_take_5 (lv_at hl 0 rfl) ?_
              refine lv_iload_n hx hb dX11_take_7 rfl (lv_at hl 3 rfl) ?_
              refine lv_icmp_ge (tgt := 85) hx hb dX11_take_8 (by decide) (fun c_8_2 => ?_) (fun c_8_2 => ?_)
              · exact absurd c_8_2 (by decide)
              · have n_8_2 := nb_nle (a := 4) (b := 2) c_8_2 (by omega) (by omega)
                refine lv_aload_n hx hb dX11_take_11 rfl (lv_at hl 2 rfl) ?_
                refine lv_aload_n hx hb dX11_take_12 rfl (lv_at hl 2 rfl) ?_
                refine k_mgi (v := 0) C G 18 (by decide) mr_18 rfl fl_X11_175 rfl dX11_take_13 ?_
                refine lv_if_eq (tgt := 34) hx hb dX11_take_16 (by decide) (fun c_16_2 => ?_) (fun c_16_2 => ?_)
                · have n_16_2 := nb_eq (a := 0) (b := 0) c_16_2 (by omega) (by omega)
                  refine lv_iconst (v := 0) hx hb dX11_take_34 (by decide) ?_
                  refine k_mpi (v := 0) (ty := .boolean) C G 18 (by decide) mr_18 fl_X11_175 rfl rfl rfl rfl rfl dX11_take_35 (fun H locs (G : wd Z A s (mdW Z h ad (upd (upd (upd (upd (upd iv 18 0) 16 (nI (a + 1))) 18 0) 16 (nI (a + 1 + 1))) 18 0) av) H locs) => ?_)
                  refine lv_lload_n hx hb dX11_take_38 rfl (lv_at hl 1 rfl) ?_
                  refine lv_bipush (v := 8) hx hb dX11_take_39 (by decide) ?_
                  refine lv_lshl (v := ((((0 <<< ((8 : Int32).toInt64 &&& 63)) ||| 0) <<< ((8 : Int32).toInt64 &&& 63)) ||| 0) <<< ((8 : Int32).toInt64 &&& 63)) hx hb dX11_take_41 rfl ?_
                  refine lv_aload_n hx hb dX11_take_42 rfl (lv_at hl 2 rfl) ?_
                  refine k_mgi (v := 0) C G 18 (by decide) mr_18 rfl fl_X11_175 rfl dX11_take_43 ?_
                  refine lv_if_eq (tgt := 66) hx hb dX11_take_46 (by decide) (fun c_46_2 => ?_) (fun c_46_2 => ?_)
                  · have n_46_2 := nb_eq (a := 0) (b := 0) c_46_2 (by omega) (by omega)
                    refine lv_lconst (v := 0) hx hb dX11_take_66 (by decide) ?_
                    refine lv_lor hx hb dX11_take_67 ?_
                    refine lv_lstore_n (lv' := [(2, .long ((((((0 <<< ((8 : Int32).toInt64 &&& 63)) ||| 0) <<< ((8 : Int32).toInt64 &&& 63)) ||| 0) <<< ((8 : Int32).toInt64 &&& 63)) ||| 0)), (4, .int 2), (0, .ref h), (1, .int 4)]) hx hb dX11_take_68 rfl hl (by decide) rfl (fun ls hl => ?_)
                    refine lv_aload_n hx hb dX11_take_69 rfl (lv_at hl 2 rfl) ?_
                    refine lv_dup hx hb dX11_take_70 rfl ?_
                    refine k_mgi (v := nI (a + 1 + 1)) C G 16 (by decide) mr_16 rfl fl_X11_179 rfl dX11_take_71 ?_
                    refine lv_iconst (v := 1) hx hb dX11_take_74 (by decide) ?_
                    refine lv_iadd hx hb dX11_take_75 ?_
                    refine k_topi (y := nI (a + 1 + 1 + 1)) (nI_add (a + 1 + 1) 1) ?_
                    refine k_mpi (v := nI (a + 1 + 1 + 1)) (ty := .int) C G 16 (by decide) mr_16 fl_X11_179 rfl rfl rfl rfl rfl dX11_take_76 (fun H locs (G : wd Z A s (mdW Z h ad (upd (upd (upd (upd (upd (upd iv 18 0) 16 (nI (a + 1))) 18 0) 16 (nI (a + 1 + 1))) 18 0) 16 (nI (a + 1 + 1 + 1))) av) H locs) => ?_)
                    refine lv_iinc (v := 3) (lv' := [(4, .int 3), (2, .long ((((((0 <<< ((8 : Int32).toInt64 &&& 63)) ||| 0) <<< ((8 : Int32).toInt64 &&& 63)) ||| 0) <<< ((8 : Int32).toInt64 &&& 63)) ||| 0)), (0, .ref h), (1, .int 4)]) hx hb dX11_take_79 hl (k := 1) rfl (by decide) (by decide) rfl (fun ls hl => ?_)
                    refine lv_goto (tgt := 5) hx hb dX11_take_82 (by decide) ?_
                    refine lv_iload hx hb dX11_take_5 (lv_at hl 0 rfl) ?_
                    refine lv_iload_n hx hb dX11_take_7 rfl (lv_at hl 3 rfl) ?_
                    refine lv_icmp_ge (tgt := 85) hx hb dX11_take_8 (by decide) (fun c_8_3 => ?_) (fun c_8_3 => ?_)
                    · exact absurd c_8_3 (by decide)
                    · have n_8_3 := nb_nle (a := 4) (b := 3) c_8_3 (by omega) (by omega)
                      refine lv_aload_n hx hb dX11_take_11 rfl (lv_at hl 2 rfl) ?_
                      refine lv_aload_n hx hb dX11_take_12 rfl (lv_at hl 2 rfl) ?_
                      refine k_mgi (v := 0) C G 18 (by decide) mr_18 rfl fl_X11_175 rfl dX11_take_13 ?_
                      refine lv_if_eq (tgt := 34) hx hb dX11_take_16 (by decide) (fun c_16_3 => ?_) (fun c_16_3 => ?_)
                      · have n_16_3 := nb_eq (a := 0) (b := 0) c_16_3 (by omega) (by omega)
                        refine lv_iconst (v := 0) hx hb dX11_take_34 (by decide) ?_
                        refine k_mpi (v := 0) (ty := .boolean) C G 18 (by decide) mr_18 fl_X11_175 rfl rfl rfl rfl rfl dX11_take_35 (fun H locs (G : wd Z A s (mdW Z h ad (upd (upd (upd (upd (upd (upd (upd iv 18 0) 16 (nI (a + 1))) 18 0) 16 (nI (a + 1 + 1))) 18 0) 16 (nI (a + 1 + 1 + 1))) 18 0) av) H locs) => ?_)
                        refine lv_lload_n hx hb dX11_take_38 rfl (lv_at hl 1 rfl) ?_
                        refine lv_bipush (v := 8) hx hb dX11_take_39 (by decide) ?_
                        refine lv_lshl (v := ((((((0 <<< ((8 : Int32).toInt64 &&& 63)) ||| 0) <<< ((8 : Int32).toInt64 &&& 63)) ||| 0) <<< ((8 : Int32).toInt64 &&& 63)) ||| 0) <<< ((8 : Int32).toInt64 &&& 63)) hx hb dX11_take_41 rfl ?_
                        refine lv_aload_n hx hb dX11_take_42 rfl (lv_at hl 2 rfl) ?_
                        refine k_mgi (v := 0) C G 18 (by decide) mr_18 rfl fl_X11_175 rfl dX11_take_43 ?_
                        refine lv_if_eq (tgt := 66) hx hb dX11_take_46 (by decide) (fun c_46_3 => ?_) (fun c_46_3 => ?_)
                        · have n_46_3 := nb_eq (a := 0) (b := 0) c_46_3 (by omega) (by omega)
                          refine lv_lconst (v := 0) hx hb dX11_take_66 (by decide) ?_
                          refine lv_lor hx hb dX11_take_67 ?_
                          refine lv_lstore_n (lv' := [(2, .long ((((((((0 <<< ((8 : Int32).toInt64 &&& 63)) ||| 0) <<< ((8 : Int32).toInt64 &&& 63)) ||| 0) <<< ((8 : Int32).toInt64 &&& 63)) ||| 0) <<< ((8 : Int32).toInt64 &&& 63)) ||| 0)), (4, .int 3), (0, .ref h), (1, .int 4)]) hx hb dX11_take_68 rfl hl (by decide) rfl (fun ls hl => ?_)
                          refine lv_aload_n hx hb dX11_take_69 rfl (lv_at hl 2 rfl) ?_
                          refine lv_dup hx hb dX11_take_70 rfl ?_
                          refine k_mgi (v := nI (a + 1 + 1 + 1)) C G 16 (by decide) mr_16 rfl fl_X11_179 rfl dX11_take_71 ?_
                          refine lv_iconst (v := 1) hx hb dX11_take_74 (by decide) ?_
                          refine lv_iadd hx hb dX11_take_75 ?_
                          refine k_topi (y := nI (a + 1 + 1 + 1 + 1)) (nI_add (a + 1 + 1 + 1) 1) ?_
                          refine k_mpi (v := nI (a + 1 + 1 + 1 + 1)) (ty := .int) C G 16 (by decide) mr_16 fl_X11_179 rfl rfl rfl rfl rfl dX11_take_76 (fun H locs (G : wd Z A s (mdW Z h ad (upd (upd (upd (upd (upd (upd (upd (upd iv 18 0) 16 (nI (a + 1))) 18 0) 16 (nI (a + 1 + 1))) 18 0) 16 (nI (a + 1 + 1 + 1))) 18 0) 16 (nI (a + 1 + 1 + 1 + 1))) av) H locs) => ?_)
                          refine lv_iinc (v := 4) (lv' := [(4, .int 4), (2, .long ((((((((0 <<< ((8 : Int32).toInt64 &&& 63)) ||| 0) <<< ((8 : Int32).toInt64 &&& 63)) ||| 0) <<< ((8 : Int32).toInt64 &&& 63)) ||| 0) <<< ((8 : Int32).toInt64 &&& 63)) ||| 0)), (0, .ref h), (1, .int 4)]) hx hb dX11_take_79 hl (k := 1) rfl (by decide) (by decide) rfl (fun ls hl => ?_)
                          refine lv_goto (tgt := 5) hx hb dX11_take_82 (by decide) ?_
                          refine lv_iload hx hb dX11_take_5 (lv_at hl 0 rfl) ?_
                          refine lv_iload_n hx hb dX11_take_7 rfl (lv_at hl 3 rfl) ?_
                          refine lv_icmp_ge (tgt := 85) hx hb dX11_take_8 (by decide) (fun c_8_4 => ?_) (fun c_8_4 => ?_)
                          · have n_8_4 := nb_le (a := 4) (b := 4) c_8_4 (by omega) (by omega)
                            refine lv_lload_n hx hb dX11_take_85 rfl (lv_at hl 1 rfl) ?_
                            exact kr_l C G ⟨_, rfl, ((((((((sI.rf.up (by decide) _).up (by decide) _).up (by decide) _).up (by decide) _).up (by decide) _).up (by decide) _).up (by decide) _).up (by decide) _), rfl, Or.inr ⟨fun z => absurd (z.1.symm.trans c_16) (by decide), rfl⟩⟩ (Nat.le_of_ble_eq_true rfl) (Nat.le_of_ble_eq_true rfl) dX11_take_86
                          · exact absurd c_8_4 (by decide)
                        · exact absurd c_46_3 (by decide)
                      · exact absurd c_16_3 (by decide)
                  · exact absurd c_46_2 (by decide)
                · exact absurd c_16_2 (by decide)
            · exact absurd c_46_1 (by decide)
          · exact absurd c_16_1 (by decide)
      · exact absurd c_46 (by decide)
    · refine lv_aload_n hx hb dX11_take_19 rfl (lv_at hl 2 rfl) ?_
      refine k_mgi (v := nI a) C G 16 (by decide) mr_16 ha fl_X11_179 rfl dX11_take_20 ?_
      refine lv_aload_n hx hb dX11_take_23 rfl (lv_at hl 2 rfl) ?_
      refine k_mgi (v := nI en) C G 17 (by decide) mr_17 hen fl_X11_182 rfl dX11_take_24 ?_
      refine lv_icmp_ge (tgt := 34) hx hb dX11_take_27 (by decide) (fun c_27 => ?_) (fun c_27 => ?_)
      · have n_27 := nb_le (a := en) (b := a) c_27 (by omega) (by omega)
        refine lv_iconst (v := 0) hx hb dX11_take_34 (by decide) ?_
        refine k_mpi (v := 0) (ty := .boolean) C G 18 (by decide) mr_18 fl_X11_175 rfl rfl rfl rfl rfl dX11_take_35 (fun H locs (G : wd Z A s (mdW Z h ad (upd iv 18 0) av) H locs) => ?_)
        refine lv_lload_n hx hb dX11_take_38 rfl (lv_at hl 1 rfl) ?_
        refine lv_bipush (v := 8) hx hb dX11_take_39 (by decide) ?_
        refine lv_lshl (v := 0 <<< ((8 : Int32).toInt64 &&& 63)) hx hb dX11_take_41 rfl ?_
        refine lv_aload_n hx hb dX11_take_42 rfl (lv_at hl 2 rfl) ?_
        refine k_mgi (v := 0) C G 18 (by decide) mr_18 rfl fl_X11_175 rfl dX11_take_43 ?_
        refine lv_if_eq (tgt := 66) hx hb dX11_take_46 (by decide) (fun c_46 => ?_) (fun c_46 => ?_)
        · have n_46 := nb_eq (a := 0) (b := 0) c_46 (by omega) (by omega)
          refine lv_lconst (v := 0) hx hb dX11_take_66 (by decide) ?_
          refine lv_lor hx hb dX11_take_67 ?_
          refine lv_lstore_n (lv' := [(2, .long ((0 <<< ((8 : Int32).toInt64 &&& 63)) ||| 0)), (4, .int 0), (0, .ref h), (1, .int 4)]) hx hb dX11_take_68 rfl hl (by decide) rfl (fun ls hl => ?_)
          refine lv_aload_n hx hb dX11_take_69 rfl (lv_at hl 2 rfl) ?_
          refine lv_dup hx hb dX11_take_70 rfl ?_
          refine k_mgi (v := nI a) C G 16 (by decide) mr_16 ha fl_X11_179 rfl dX11_take_71 ?_
          refine lv_iconst (v := 1) hx hb dX11_take_74 (by decide) ?_
          refine lv_iadd hx hb dX11_take_75 ?_
          refine k_topi (y := nI (a + 1)) (nI_add a 1) ?_
          refine k_mpi (v := nI (a + 1)) (ty := .int) C G 16 (by decide) mr_16 fl_X11_179 rfl rfl rfl rfl rfl dX11_take_76 (fun H locs (G : wd Z A s (mdW Z h ad (upd (upd iv 18 0) 16 (nI (a + 1))) av) H locs) => ?_)
          refine lv_iinc (v := 1) (lv' := [(4, .int 1), (2, .long ((0 <<< ((8 : Int32).toInt64 &&& 63)) ||| 0)), (0, .ref h), (1, .int 4)]) hx hb dX11_take_79 hl (k := 1) rfl (by decide) (by decide) rfl (fun ls hl => ?_)
          refine lv_goto (tgt := 5) hx hb dX11_take_82 (by decide) ?_
          refine lv_iload hx hb dX11_take_5 (lv_at hl 0 rfl) ?_
          refine lv_iload_n hx hb dX11_take_7 rfl (lv_at hl 3 rfl) ?_
          refine lv_icmp_ge (tgt := 85) hx hb dX11_take_8 (by decide) (fun c_8_1 => ?_) (fun c_8_1 => ?_)
          · exact absurd c_8_1 (by decide)
          · have n_8_1 := nb_nle (a := 4) (b := 1) c_8_1 (by omega) (by omega)
            refine lv_aload_n hx hb dX11_take_11 rfl (lv_at hl 2 rfl) ?_
            refine lv_aload_n hx hb dX11_take_12 rfl (lv_at hl 2 rfl) ?_
            refine k_mgi (v := 0) C G 18 (by decide) mr_18 rfl fl_X11_175 rfl dX11_take_13 ?_
            refine lv_if_eq (tgt := 34) hx hb dX11_take_16 (by decide) (fun c_16_1 => ?_) (fun c_16_1 => ?_)
            · have n_16_1 := nb_eq (a := 0) (b := 0) c_16_1 (by omega) (by omega)
              refine lv_iconst (v := 0) hx hb dX11_take_34 (by decide) ?_
              refine k_mpi (v := 0) (ty := .boolean) C G 18 (by decide) mr_18 fl_X11_175 rfl rfl rfl rfl rfl dX11_take_35 (fun H locs (G : wd Z A s (mdW Z h ad (upd (upd (upd iv 18 0) 16 (nI (a + 1))) 18 0) av) H locs) => ?_)
              refine lv_lload_n hx hb dX11_take_38 rfl (lv_at hl 1 rfl) ?_
              refine lv_bipush (v := 8) hx hb dX11_take_39 (by decide) ?_
              refine lv_lshl (v := ((0 <<< ((8 : Int32).toInt64 &&& 63)) ||| 0) <<< ((8 : Int32).toInt64 &&& 63)) hx hb dX11_take_41 rfl ?_
              refine lv_aload_n hx hb dX11_take_42 rfl (lv_at hl 2 rfl) ?_
              refine k_mgi (v := 0) C G 18 (by decide) mr_18 rfl fl_X11_175 rfl dX11_take_43 ?_
              refine lv_if_eq (tgt := 66) hx hb dX11_take_46 (by decide) (fun c_46_1 => ?_) (fun c_46_1 => ?_)
              · have n_46_1 := nb_eq (a := 0) (b := 0) c_46_1 (by omega) (by omega)
                refine lv_lconst (v := 0) hx hb dX11_take_66 (by decide) ?_
                refine lv_lor hx hb dX11_take_67 ?_
                refine lv_lstore_n (lv' := [(2, .long ((((0 <<< ((8 : Int32).toInt64 &&& 63)) ||| 0) <<< ((8 : Int32).toInt64 &&& 63)) ||| 0)), (4, .int 1), (0, .ref h), (1, .int 4)]) hx hb dX11_take_68 rfl hl (by decide) rfl (fun ls hl => ?_)
                refine lv_aload_n hx hb dX11_take_69 rfl (lv_at hl 2 rfl) ?_
                refine lv_dup hx hb dX11_take_70 rfl ?_
                refine k_mgi (v := nI (a + 1)) C G 16 (by decide) mr_16 rfl fl_X11_179 rfl dX11_take_71 ?_
                refine lv_iconst (v := 1) hx hb dX11_take_74 (by decide) ?_
                refine lv_iadd hx hb dX11_take_75 ?_
                refine k_topi (y := nI (a + 1 + 1)) (nI_add (a + 1) 1) ?_
                refine k_mpi (v := nI (a + 1 + 1)) (ty := .int) C G 16 (by decide) mr_16 fl_X11_179 rfl rfl rfl rfl rfl dX11_take_76 (fun H locs (G : wd Z A s (mdW Z h ad (upd (upd (upd (upd iv 18 0) 16 (nI (a + 1))) 18 0) 16 (nI (a + 1 + 1))) av) H locs) => ?_)
                refine lv_iinc (v := 2) (lv' := [(4, .int 2), (2, .long ((((0 <<< ((8 : Int32).toInt64 &&& 63)) ||| 0) <<< ((8 : Int32).toInt64 &&& 63)) ||| 0)), (0, .ref h), (1, .int 4)]) hx hb dX11_take_79 hl (k := 1) rfl (by decide) (by decide) rfl (fun ls hl => ?_)
                refine lv_goto (tgt := 5) hx hb dX11_take_82 (by decide) ?_
                refine lv_iload hx hb dX11_take_5 (lv_at hl 0 rfl) ?_
                refine lv_iload_n hx hb dX11_take_7 rfl (lv_at hl 3 rfl) ?_
                refine lv_icmp_ge (tgt := 85) hx hb dX11_take_8 (by decide) (fun c_8_2 => ?_) (fun c_8_2 => ?_)
                · exact absurd c_8_2 (by decide)
                · have n_8_2 := nb_nle (a := 4) (b := 2) c_8_2 (by omega) (by omega)
                  refine lv_aload_n hx hb dX11_take_11 rfl (lv_at hl 2 rfl) ?_
                  refine lv_aload_n hx hb dX11_take_12 rfl (lv_at hl 2 rfl) ?_
                  refine k_mgi (v := 0) C G 18 (by decide) mr_18 rfl fl_X11_175 rfl dX11_take_13 ?_
                  refine lv_if_eq (tgt := 34) hx hb dX11_take_16 (by decide) (fun c_16_2 => ?_) (fun c_16_2 => ?_)
                  · have n_16_2 := nb_eq (a := 0) (b := 0) c_16_2 (by omega) (by omega)
                    refine lv_iconst (v := 0) hx hb dX11_take_34 (by decide) ?_
                    refine k_mpi (v := 0) (ty := .boolean) C G 18 (by decide) mr_18 fl_X11_175 rfl rfl rfl rfl rfl dX11_take_35 (fun H locs (G : wd Z A s (mdW Z h ad (upd (upd (upd (upd (upd iv 18 0) 16 (nI (a + 1))) 18 0) 16 (nI (a + 1 + 1))) 18 0) av) H locs) => ?_)
                    refine lv_lload_n hx hb dX11_take_38 rfl (lv_at hl 1 rfl) ?_
                    refine lv_bipush (v := 8) hx hb dX11_take_39 (by decide) ?_
                    refine lv_lshl (v := ((((0 <<< ((8 : Int32).toInt64 &&& 63)) ||| 0) <<< ((8 : Int32).toInt64 &&& 63)) ||| 0) <<< ((8 : Int32).toInt64 &&& 63)) hx hb dX11_take_41 rfl ?_
                    refine lv_aload_n hx hb dX11_take_42 rfl (lv_at hl 2 rfl) ?_
                    refine k_mgi (v := 0) C G 18 (by decide) mr_18 rfl fl_X11_175 rfl dX11_take_43 ?_
                    refine lv_if_eq (tgt := 66) hx hb dX11_take_46 (by decide) (fun c_46_2 => ?_) (fun c_46_2 => ?_)
                    · have n_46_2 := nb_eq (a := 0) (b := 0) c_46_2 (by omega) (by omega)
                      refine lv_lconst (v := 0) hx hb dX11_take_66 (by decide) ?_
                      refine lv_lor hx hb dX11_take_67 ?_
                      refine lv_lstore_n (lv' := [(2, .long ((((((0 <<< ((8 : Int32).toInt64 &&& 63)) ||| 0) <<< ((8 : Int32).toInt64 &&& 63)) ||| 0) <<< ((8 : Int32).toInt64 &&& 63)) ||| 0)), (4, .int 2), (0, .ref h), (1, .int 4)]) hx hb dX11_take_68 rfl hl (by decide) rfl (fun ls hl => ?_)
                      refine lv_aload_n hx hb dX11_take_69 rfl (lv_at hl 2 rfl) ?_
                      refine lv_dup hx hb dX11_take_70 rfl ?_
                      refine k_mgi (v := nI (a + 1 + 1)) C G 16 (by decide) mr_16 rfl fl_X11_179 rfl dX11_take_71 ?_
                      refine lv_iconst (v := 1) hx hb dX11_take_74 (by decide) ?_
                      refine lv_iadd hx hb dX11_take_75 ?_
                      refine k_topi (y := nI (a + 1 + 1 + 1)) (nI_add (a + 1 + 1) 1) ?_
                      refine k_mpi (v := nI (a + 1 + 1 + 1)) (ty := .int) C G 16 (by decide) mr_16 fl_X11_179 rfl rfl rfl rfl rfl dX11_take_76 (fun H locs (G : wd Z A s (mdW Z h ad (upd (upd (upd (upd (upd (upd iv 18 0) 16 (nI (a + 1))) 18 0) 16 (nI (a + 1 + 1))) 18 0) 16 (nI (a + 1 + 1 + 1))) av) H locs) => ?_)
                      refine lv_iinc (v := 3) (lv' := [(4, .int 3), (2, .long ((((((0 <<< ((8 : Int32).toInt64 &&& 63)) ||| 0) <<< ((8 : Int32).toInt64 &&& 63)) ||| 0) <<< ((8 : Int32).toInt64 &&& 63)) ||| 0)), (0, .ref h), (1, .int 4)]) hx hb dX11_take_79 hl (k := 1) rfl (by decide) (by decide) rfl (fun ls hl => ?_)
                      refine lv_goto (tgt := 5) hx hb dX11_take_82 (by decide) ?_
                      refine lv_iload hx hb dX11_take_5 (lv_at hl 0 rfl) ?_
                      refine lv_iload_n hx hb dX11_take_7 rfl (lv_at hl 3 rfl) ?_
                      refine lv_icmp_ge (tgt := 85) hx hb dX11_take_8 (by decide) (fun c_8_3 => ?_) (fun c_8_3 => ?_)
                      · exact absurd c_8_3 (by decide)
                      · have n_8_3 := nb_nle (a := 4) (b := 3) c_8_3 (by omega) (by omega)
                        refine lv_aload_n hx hb dX11_take_11 rfl (lv_at hl 2 rfl) ?_
                        refine lv_aload_n hx hb dX11_take_12 rfl (lv_at hl 2 rfl) ?_
                        refine k_mgi (v := 0) C G 18 (by decide) mr_18 rfl fl_X11_175 rfl dX11_take_13 ?_
                        refine lv_if_eq (tgt := 34) hx hb dX11_take_16 (by decide) (fun c_16_3 => ?_) (fun c_16_3 => ?_)
                        · have n_16_3 := nb_eq (a := 0) (b := 0) c_16_3 (by omega) (by omega)
                          refine lv_iconst (v := 0) hx hb dX11_take_34 (by decide) ?_
                          refine k_mpi (v := 0) (ty := .boolean) C G 18 (by decide) mr_18 fl_X11_175 rfl rfl rfl rfl rfl dX11_take_35 (fun H locs (G : wd Z A s (mdW Z h ad (upd (upd (upd (upd (upd (upd (upd iv 18 0) 16 (nI (a + 1))) 18 0) 16 (nI (a + 1 + 1))) 18 0) 16 (nI (a + 1 + 1 + 1))) 18 0) av) H locs) => ?_)
                          refine lv_lload_n hx hb dX11_take_38 rfl (lv_at hl 1 rfl) ?_
                          refine lv_bipush (v := 8) hx hb dX11_take_39 (by decide) ?_
                          refine lv_lshl (v := ((((((0 <<< ((8 : Int32).toInt64 &&& 63)) ||| 0) <<< ((8 : Int32).toInt64 &&& 63)) ||| 0) <<< ((8 : Int32).toInt64 &&& 63)) ||| 0) <<< ((8 : Int32).toInt64 &&& 63)) hx hb dX11_take_41 rfl ?_
                          refine lv_aload_n hx hb dX11_take_42 rfl (lv_at hl 2 rfl) ?_
                          refine k_mgi (v := 0) C G 18 (by decide) mr_18 rfl fl_X11_175 rfl dX11_take_43 ?_
                          refine lv_if_eq (tgt := 66) hx hb dX11_take_46 (by decide) (fun c_46_3 => ?_) (fun c_46_3 => ?_)
                          · have n_46_3 := nb_eq (a := 0) (b := 0) c_46_3 (by omega) (by omega)
                            refine lv_lconst (v := 0) hx hb dX11_take_66 (by decide) ?_
                            refine lv_lor hx hb dX11_take_67 ?_
                            refine lv_lstore_n (lv' := [(2, .long ((((((((0 <<< ((8 : Int32).toInt64 &&& 63)) ||| 0) <<< ((8 : Int32).toInt64 &&& 63)) ||| 0) <<< ((8 : Int32).toInt64 &&& 63)) ||| 0) <<< ((8 : Int32).toInt64 &&& 63)) ||| 0)), (4, .int 3), (0, .ref h), (1, .int 4)]) hx hb dX11_take_68 rfl hl (by decide) rfl (fun ls hl => ?_)
                            refine lv_aload_n hx hb dX11_take_69 rfl (lv_at hl 2 rfl) ?_
                            refine lv_dup hx hb dX11_take_70 rfl ?_
                            refine k_mgi (v := nI (a + 1 + 1 + 1)) C G 16 (by decide) mr_16 rfl fl_X11_179 rfl dX11_take_71 ?_
                            refine lv_iconst (v := 1) hx hb dX11_take_74 (by decide) ?_
                            refine lv_iadd hx hb dX11_take_75 ?_
                            refine k_topi (y := nI (a + 1 + 1 + 1 + 1)) (nI_add (a + 1 + 1 + 1) 1) ?_
                            refine k_mpi (v := nI (a + 1 + 1 + 1 + 1)) (ty := .int) C G 16 (by decide) mr_16 fl_X11_179 rfl rfl rfl rfl rfl dX11_take_76 (fun H locs (G : wd Z A s (mdW Z h ad (upd (upd (upd (upd (upd (upd (upd (upd iv 18 0) 16 (nI (a + 1))) 18 0) 16 (nI (a + 1 + 1))) 18 0) 16 (nI (a + 1 + 1 + 1))) 18 0) 16 (nI (a + 1 + 1 + 1 + 1))) av) H locs) => ?_)
                            refine lv_iinc (v := 4) (lv' := [(4, .int 4), (2, .long ((((((((0 <<< ((8 : Int32).toInt64 &&& 63)) ||| 0) <<< ((8 : Int32).toInt64 &&& 63)) ||| 0) <<< ((8 : Int32).toInt64 &&& 63)) ||| 0) <<< ((8 : Int32).toInt64 &&& 63)) ||| 0)), (0, .ref h), (1, .int 4)]) hx hb dX11_take_79 hl (k := 1) rfl (by decide) (by decide) rfl (fun ls hl => ?_)
                            refine lv_goto (tgt := 5) hx hb dX11_take_82 (by decide) ?_
                            refine lv_iload hx hb dX11_take_5 (lv_at hl 0 rfl) ?_
                            refine lv_iload_n hx hb dX11_take_7 rfl (lv_at hl 3 rfl) ?_
                            refine lv_icmp_ge (tgt := 85) hx hb dX11_take_8 (by decide) (fun c_8_4 => ?_) (fun c_8_4 => ?_)
                            · have n_8_4 := nb_le (a := 4) (b := 4) c_8_4 (by omega) (by omega)
                              refine lv_lload_n hx hb dX11_take_85 rfl (lv_at hl 1 rfl) ?_
                              exact kr_l C G ⟨_, rfl, ((((((((sI.rf.up (by decide) _).up (by decide) _).up (by decide) _).up (by decide) _).up (by decide) _).up (by decide) _).up (by decide) _).up (by decide) _), rfl, Or.inr ⟨fun z => absurd z.2 (by omega), rfl⟩⟩ (Nat.le_of_ble_eq_true rfl) (Nat.le_of_ble_eq_true rfl) dX11_take_86
                            · exact absurd c_8_4 (by decide)
                          · exact absurd c_46_3 (by decide)
                        · exact absurd c_16_3 (by decide)
                    · exact absurd c_46_2 (by decide)
                  · exact absurd c_16_2 (by decide)
              · exact absurd c_46_1 (by decide)
            · exact absurd c_16_1 (by decide)
        · exact absurd c_46 (by decide)
      · have n_27 := nb_nle (a := en) (b := a) c_27 (by omega) (by omega)
        refine lv_iconst (v := 1) hx hb dX11_take_30 (by decide) ?_
        refine lv_goto (tgt := 35) hx hb dX11_take_31 (by decide) ?_
        refine k_mpi (v := 1) (ty := .boolean) C G 18 (by decide) mr_18 fl_X11_175 rfl rfl rfl rfl rfl dX11_take_35 (fun H locs (G : wd Z A s (mdW Z h ad (upd iv 18 1) av) H locs) => ?_)
        refine lv_lload_n hx hb dX11_take_38 rfl (lv_at hl 1 rfl) ?_
        refine lv_bipush (v := 8) hx hb dX11_take_39 (by decide) ?_
        refine lv_lshl (v := 0 <<< ((8 : Int32).toInt64 &&& 63)) hx hb dX11_take_41 rfl ?_
        refine lv_aload_n hx hb dX11_take_42 rfl (lv_at hl 2 rfl) ?_
        refine k_mgi (v := 1) C G 18 (by decide) mr_18 rfl fl_X11_175 rfl dX11_take_43 ?_
        refine lv_if_eq (tgt := 66) hx hb dX11_take_46 (by decide) (fun c_46 => ?_) (fun c_46 => ?_)
        · exact absurd c_46 (by decide)
        · have n_46 := nb_ne (a := 1) (b := 0) c_46 (by omega) (by omega)
          refine lv_aload_n hx hb dX11_take_49 rfl (lv_at hl 2 rfl) ?_
          refine k_mga C G 3 (by decide) mr_3 fl_X11_20 rfl dX11_take_50 ?_
          refine lv_aload_n hx hb dX11_take_53 rfl (lv_at hl 2 rfl) ?_
          refine k_mgi (v := nI a) C G 16 (by decide) mr_16 ha fl_X11_179 rfl dX11_take_54 ?_
          refine k_mbl (v := (av 3) a) (i := a) C G 3 (k := 3) (n := 140000) mp_3 (by decide) (by omega) rfl dX11_take_57 ?_
          refine lv_i2l (v := ((av 3) a).toInt64) hx hb dX11_take_58 rfl ?_
          refine lv_ldc2 (v := 255) hx hb hown (hts _ kl_X11_185) dX11_take_59 ?_
          refine lv_land hx hb dX11_take_62 ?_
          refine lv_goto (tgt := 67) hx hb dX11_take_63 (by decide) ?_
          refine lv_lor hx hb dX11_take_67 ?_
          refine lv_lstore_n (lv' := [(2, .long ((0 <<< ((8 : Int32).toInt64 &&& 63)) ||| ((((av 3) a).toInt64) &&& 255))), (4, .int 0), (0, .ref h), (1, .int 4)]) hx hb dX11_take_68 rfl hl (by decide) rfl (fun ls hl => ?_)
          refine lv_aload_n hx hb dX11_take_69 rfl (lv_at hl 2 rfl) ?_
          refine lv_dup hx hb dX11_take_70 rfl ?_
          refine k_mgi (v := nI a) C G 16 (by decide) mr_16 ha fl_X11_179 rfl dX11_take_71 ?_
          refine lv_iconst (v := 1) hx hb dX11_take_74 (by decide) ?_
          refine lv_iadd hx hb dX11_take_75 ?_
          refine k_topi (y := nI (a + 1)) (nI_add a 1) ?_
          refine k_mpi (v := nI (a + 1)) (ty := .int) C G 16 (by decide) mr_16 fl_X11_179 rfl rfl rfl rfl rfl dX11_take_76 (fun H locs (G : wd Z A s (mdW Z h ad (upd (upd iv 18 1) 16 (nI (a + 1))) av) H locs) => ?_)
          refine lv_iinc (v := 1) (lv' := [(4, .int 1), (2, .long ((0 <<< ((8 : Int32).toInt64 &&& 63)) ||| ((((av 3) a).toInt64) &&& 255))), (0, .ref h), (1, .int 4)]) hx hb dX11_take_79 hl (k := 1) rfl (by decide) (by decide) rfl (fun ls hl => ?_)
          refine lv_goto (tgt := 5) hx hb dX11_take_82 (by decide) ?_
          refine lv_iload hx hb dX11_take_5 (lv_at hl 0 rfl) ?_
          refine lv_iload_n hx hb dX11_take_7 rfl (lv_at hl 3 rfl) ?_
          refine lv_icmp_ge (tgt := 85) hx hb dX11_take_8 (by decide) (fun c_8_1 => ?_) (fun c_8_1 => ?_)
          · exact absurd c_8_1 (by decide)
          · have n_8_1 := nb_nle (a := 4) (b := 1) c_8_1 (by omega) (by omega)
            refine lv_aload_n hx hb dX11_take_11 rfl (lv_at hl 2 rfl) ?_
            refine lv_aload_n hx hb dX11_take_12 rfl (lv_at hl 2 rfl) ?_
            refine k_mgi (v := 1) C G 18 (by decide) mr_18 rfl fl_X11_175 rfl dX11_take_13 ?_
            refine lv_if_eq (tgt := 34) hx hb dX11_take_16 (by decide) (fun c_16_1 => ?_) (fun c_16_1 => ?_)
            · exact absurd c_16_1 (by decide)
            · have n_16_1 := nb_ne (a := 1) (b := 0) c_16_1 (by omega) (by omega)
              refine lv_aload_n hx hb dX11_take_19 rfl (lv_at hl 2 rfl) ?_
              refine k_mgi (v := nI (a + 1)) C G 16 (by decide) mr_16 rfl fl_X11_179 rfl dX11_take_20 ?_
              refine lv_aload_n hx hb dX11_take_23 rfl (lv_at hl 2 rfl) ?_
              refine k_mgi (v := nI en) C G 17 (by decide) mr_17 hen fl_X11_182 rfl dX11_take_24 ?_
              refine lv_icmp_ge (tgt := 34) hx hb dX11_take_27 (by decide) (fun c_27_1 => ?_) (fun c_27_1 => ?_)
              · have n_27_1 := nb_le (a := en) (b := a + 1) c_27_1 (by omega) (by omega)
                refine lv_iconst (v := 0) hx hb dX11_take_34 (by decide) ?_
                refine k_mpi (v := 0) (ty := .boolean) C G 18 (by decide) mr_18 fl_X11_175 rfl rfl rfl rfl rfl dX11_take_35 (fun H locs (G : wd Z A s (mdW Z h ad (upd (upd (upd iv 18 1) 16 (nI (a + 1))) 18 0) av) H locs) => ?_)
                refine lv_lload_n hx hb dX11_take_38 rfl (lv_at hl 1 rfl) ?_
                refine lv_bipush (v := 8) hx hb dX11_take_39 (by decide) ?_
                refine lv_lshl (v := ((0 <<< ((8 : Int32).toInt64 &&& 63)) ||| ((((av 3) a).toInt64) &&& 255)) <<< ((8 : Int32).toInt64 &&& 63)) hx hb dX11_take_41 rfl ?_
                refine lv_aload_n hx hb dX11_take_42 rfl (lv_at hl 2 rfl) ?_
                refine k_mgi (v := 0) C G 18 (by decide) mr_18 rfl fl_X11_175 rfl dX11_take_43 ?_
                refine lv_if_eq (tgt := 66) hx hb dX11_take_46 (by decide) (fun c_46_1 => ?_) (fun c_46_1 => ?_)
                · have n_46_1 := nb_eq (a := 0) (b := 0) c_46_1 (by omega) (by omega)
                  refine lv_lconst (v := 0) hx hb dX11_take_66 (by decide) ?_
                  refine lv_lor hx hb dX11_take_67 ?_
                  refine lv_lstore_n (lv' := [(2, .long ((((0 <<< ((8 : Int32).toInt64 &&& 63)) ||| ((((av 3) a).toInt64) &&& 255)) <<< ((8 : Int32).toInt64 &&& 63)) ||| 0)), (4, .int 1), (0, .ref h), (1, .int 4)]) hx hb dX11_take_68 rfl hl (by decide) rfl (fun ls hl => ?_)
                  refine lv_aload_n hx hb dX11_take_69 rfl (lv_at hl 2 rfl) ?_
                  refine lv_dup hx hb dX11_take_70 rfl ?_
                  refine k_mgi (v := nI (a + 1)) C G 16 (by decide) mr_16 rfl fl_X11_179 rfl dX11_take_71 ?_
                  refine lv_iconst (v := 1) hx hb dX11_take_74 (by decide) ?_
                  refine lv_iadd hx hb dX11_take_75 ?_
                  refine k_topi (y := nI (a + 1 + 1)) (nI_add (a + 1) 1) ?_
                  refine k_mpi (v := nI (a + 1 + 1)) (ty := .int) C G 16 (by decide) mr_16 fl_X11_179 rfl rfl rfl rfl rfl dX11_take_76 (fun H locs (G : wd Z A s (mdW Z h ad (upd (upd (upd (upd iv 18 1) 16 (nI (a + 1))) 18 0) 16 (nI (a + 1 + 1))) av) H locs) => ?_)
                  refine lv_iinc (v := 2) (lv' := [(4, .int 2), (2, .long ((((0 <<< ((8 : Int32).toInt64 &&& 63)) ||| ((((av 3) a).toInt64) &&& 255)) <<< ((8 : Int32).toInt64 &&& 63)) ||| 0)), (0, .ref h), (1, .int 4)]) hx hb dX11_take_79 hl (k := 1) rfl (by decide) (by decide) rfl (fun ls hl => ?_)
                  refine lv_goto (tgt := 5) hx hb dX11_take_82 (by decide) ?_
                  refine lv_iload hx hb dX11_take_5 (lv_at hl 0 rfl) ?_
                  refine lv_iload_n hx hb dX11_take_7 rfl (lv_at hl 3 rfl) ?_
                  refine lv_icmp_ge (tgt := 85) hx hb dX11_take_8 (by decide) (fun c_8_2 => ?_) (fun c_8_2 => ?_)
                  · exact absurd c_8_2 (by decide)
                  · have n_8_2 := nb_nle (a := 4) (b := 2) c_8_2 (by omega) (by omega)
                    refine lv_aload_n hx hb dX11_take_11 rfl (lv_at hl 2 rfl) ?_
                    refine lv_aload_n hx hb dX11_take_12 rfl (lv_at hl 2 rfl) ?_
                    refine k_mgi (v := 0) C G 18 (by decide) mr_18 rfl fl_X11_175 rfl dX11_take_13 ?_
                    refine lv_if_eq (tgt := 34) hx hb dX11_take_16 (by decide) (fun c_16_2 => ?_) (fun c_16_2 => ?_)
                    · have n_16_2 := nb_eq (a := 0) (b := 0) c_16_2 (by omega) (by omega)
                      refine lv_iconst (v := 0) hx hb dX11_take_34 (by decide) ?_
                      refine k_mpi (v := 0) (ty := .boolean) C G 18 (by decide) mr_18 fl_X11_175 rfl rfl rfl rfl rfl dX11_take_35 (fun H locs (G : wd Z A s (mdW Z h ad (upd (upd (upd (upd (upd iv 18 1) 16 (nI (a + 1))) 18 0) 16 (nI (a + 1 + 1))) 18 0) av) H locs) => ?_)
                      refine lv_lload_n hx hb dX11_take_38 rfl (lv_at hl 1 rfl) ?_
                      refine lv_bipush (v := 8) hx hb dX11_take_39 (by decide) ?_
                      refine lv_lshl (v := ((((0 <<< ((8 : Int32).toInt64 &&& 63)) ||| ((((av 3) a).toInt64) &&& 255)) <<< ((8 : Int32).toInt64 &&& 63)) ||| 0) <<< ((8 : Int32).toInt64 &&& 63)) hx hb dX11_take_41 rfl ?_
                      refine lv_aload_n hx hb dX11_take_42 rfl (lv_at hl 2 rfl) ?_
                      refine k_mgi (v := 0) C G 18 (by decide) mr_18 rfl fl_X11_175 rfl dX11_take_43 ?_
                      refine lv_if_eq (tgt := 66) hx hb dX11_take_46 (by decide) (fun c_46_2 => ?_) (fun c_46_2 => ?_)
                      · have n_46_2 := nb_eq (a := 0) (b := 0) c_46_2 (by omega) (by omega)
                        refine lv_lconst (v := 0) hx hb dX11_take_66 (by decide) ?_
                        refine lv_lor hx hb dX11_take_67 ?_
                        refine lv_lstore_n (lv' := [(2, .long ((((((0 <<< ((8 : Int32).toInt64 &&& 63)) ||| ((((av 3) a).toInt64) &&& 255)) <<< ((8 : Int32).toInt64 &&& 63)) ||| 0) <<< ((8 : Int32).toInt64 &&& 63)) ||| 0)), (4, .int 2), (0, .ref h), (1, .int 4)]) hx hb dX11_take_68 rfl hl (by decide) rfl (fun ls hl => ?_)
                        refine lv_aload_n hx hb dX11_take_69 rfl (lv_at hl 2 rfl) ?_
                        refine lv_dup hx hb dX11_take_70 rfl ?_
                        refine k_mgi (v := nI (a + 1 + 1)) C G 16 (by decide) mr_16 rfl fl_X11_179 rfl dX11_take_71 ?_
                        refine lv_iconst (v := 1) hx hb dX11_take_74 (by decide) ?_
                        refine lv_iadd hx hb dX11_take_75 ?_
                        refine k_topi (y := nI (a + 1 + 1 + 1)) (nI_add (a + 1 + 1) 1) ?_
                        refine k_mpi (v := nI (a + 1 + 1 + 1)) (ty := .int) C G 16 (by decide) mr_16 fl_X11_179 rfl rfl rfl rfl rfl dX11_take_76 (fun H locs (G : wd Z A s (mdW Z h ad (upd (upd (upd (upd (upd (upd iv 18 1) 16 (nI (a + 1))) 18 0) 16 (nI (a + 1 + 1))) 18 0) 16 (nI (a + 1 + 1 + 1))) av) H locs) => ?_)
                        refine lv_iinc (v := 3) (lv' := [(4, .int 3), (2, .long ((((((0 <<< ((8 : Int32).toInt64 &&& 63)) ||| ((((av 3) a).toInt64) &&& 255)) <<< ((8 : Int32).toInt64 &&& 63)) ||| 0) <<< ((8 : Int32).toInt64 &&& 63)) ||| 0)), (0, .ref h), (1, .int 4)]) hx hb dX11_take_79 hl (k := 1) rfl (by decide) (by decide) rfl (fun ls hl => ?_)
                        refine lv_goto (tgt := 5) hx hb dX11_take_82 (by decide) ?_
                        refine lv_iload hx hb dX11_take_5 (lv_at hl 0 rfl) ?_
                        refine lv_iload_n hx hb dX11_take_7 rfl (lv_at hl 3 rfl) ?_
                        refine lv_icmp_ge (tgt := 85) hx hb dX11_take_8 (by decide) (fun c_8_3 => ?_) (fun c_8_3 => ?_)
                        · exact absurd c_8_3 (by decide)
                        · have n_8_3 := nb_nle (a := 4) (b := 3) c_8_3 (by omega) (by omega)
                          refine lv_aload_n hx hb dX11_take_11 rfl (lv_at hl 2 rfl) ?_
                          refine lv_aload_n hx hb dX11_take_12 rfl (lv_at hl 2 rfl) ?_
                          refine k_mgi (v := 0) C G 18 (by decide) mr_18 rfl fl_X11_175 rfl dX11_take_13 ?_
                          refine lv_if_eq (tgt := 34) hx hb dX11_take_16 (by decide) (fun c_16_3 => ?_) (fun c_16_3 => ?_)
                          · have n_16_3 := nb_eq (a := 0) (b := 0) c_16_3 (by omega) (by omega)
                            refine lv_iconst (v := 0) hx hb dX11_take_34 (by decide) ?_
                            refine k_mpi (v := 0) (ty := .boolean) C G 18 (by decide) mr_18 fl_X11_175 rfl rfl rfl rfl rfl dX11_take_35 (fun H locs (G : wd Z A s (mdW Z h ad (upd (upd (upd (upd (upd (upd (upd iv 18 1) 16 (nI (a + 1))) 18 0) 16 (nI (a + 1 + 1))) 18 0) 16 (nI (a + 1 + 1 + 1))) 18 0) av) H locs) => ?_)
                            refine lv_lload_n hx hb dX11_take_38 rfl (lv_at hl 1 rfl) ?_
                            refine lv_bipush (v := 8) hx hb dX11_take_39 (by decide) ?_
                            refine lv_lshl (v := ((((((0 <<< ((8 : Int32).toInt64 &&& 63)) ||| ((((av 3) a).toInt64) &&& 255)) <<< ((8 : Int32).toInt64 &&& 63)) ||| 0) <<< ((8 : Int32).toInt64 &&& 63)) ||| 0) <<< ((8 : Int32).toInt64 &&& 63)) hx hb dX11_take_41 rfl ?_
                            refine lv_aload_n hx hb dX11_take_42 rfl (lv_at hl 2 rfl) ?_
                            refine k_mgi (v := 0) C G 18 (by decide) mr_18 rfl fl_X11_175 rfl dX11_take_43 ?_
                            refine lv_if_eq (tgt := 66) hx hb dX11_take_46 (by decide) (fun c_46_3 => ?_) (fun c_46_3 => ?_)
                            · have n_46_3 := nb_eq (a := 0) (b := 0) c_46_3 (by omega) (by omega)
                              refine lv_lconst (v := 0) hx hb dX11_take_66 (by decide) ?_
                              refine lv_lor hx hb dX11_take_67 ?_
                              refine lv_lstore_n (lv' := [(2, .long ((((((((0 <<< ((8 : Int32).toInt64 &&& 63)) ||| ((((av 3) a).toInt64) &&& 255)) <<< ((8 : Int32).toInt64 &&& 63)) ||| 0) <<< ((8 : Int32).toInt64 &&& 63)) ||| 0) <<< ((8 : Int32).toInt64 &&& 63)) ||| 0)), (4, .int 3), (0, .ref h), (1, .int 4)]) hx hb dX11_take_68 rfl hl (by decide) rfl (fun ls hl => ?_)
                              refine lv_aload_n hx hb dX11_take_69 rfl (lv_at hl 2 rfl) ?_
                              refine lv_dup hx hb dX11_take_70 rfl ?_
                              refine k_mgi (v := nI (a + 1 + 1 + 1)) C G 16 (by decide) mr_16 rfl fl_X11_179 rfl dX11_take_71 ?_
                              refine lv_iconst (v := 1) hx hb dX11_take_74 (by decide) ?_
                              refine lv_iadd hx hb dX11_take_75 ?_
                              refine k_topi (y := nI (a + 1 + 1 + 1 + 1)) (nI_add (a + 1 + 1 + 1) 1) ?_
                              refine k_mpi (v := nI (a + 1 + 1 + 1 + 1)) (ty := .int) C G 16 (by decide) mr_16 fl_X11_179 rfl rfl rfl rfl rfl dX11_take_76 (fun H locs (G : wd Z A s (mdW Z h ad (upd (upd (upd (upd (upd (upd (upd (upd iv 18 1) 16 (nI (a + 1))) 18 0) 16 (nI (a + 1 + 1))) 18 0) 16 (nI (a + 1 + 1 + 1))) 18 0) 16 (nI (a + 1 + 1 + 1 + 1))) av) H locs) => ?_)
                              refine lv_iinc (v := 4) (lv' := [(4, .int 4), (2, .long ((((((((0 <<< ((8 : Int32).toInt64 &&& 63)) ||| ((((av 3) a).toInt64) &&& 255)) <<< ((8 : Int32).toInt64 &&& 63)) ||| 0) <<< ((8 : Int32).toInt64 &&& 63)) ||| 0) <<< ((8 : Int32).toInt64 &&& 63)) ||| 0)), (0, .ref h), (1, .int 4)]) hx hb dX11_take_79 hl (k := 1) rfl (by decide) (by decide) rfl (fun ls hl => ?_)
                              refine lv_goto (tgt := 5) hx hb dX11_take_82 (by decide) ?_
                              refine lv_iload hx hb dX11_take_5 (lv_at hl 0 rfl) ?_
                              refine lv_iload_n hx hb dX11_take_7 rfl (lv_at hl 3 rfl) ?_
                              refine lv_icmp_ge (tgt := 85) hx hb dX11_take_8 (by decide) (fun c_8_4 => ?_) (fun c_8_4 => ?_)
                              · have n_8_4 := nb_le (a := 4) (b := 4) c_8_4 (by omega) (by omega)
                                refine lv_lload_n hx hb dX11_take_85 rfl (lv_at hl 1 rfl) ?_
                                exact kr_l C G ⟨_, rfl, ((((((((sI.rf.up (by decide) _).up (by decide) _).up (by decide) _).up (by decide) _).up (by decide) _).up (by decide) _).up (by decide) _).up (by decide) _), rfl, Or.inr ⟨fun z => absurd z.2 (by omega), rfl⟩⟩ (Nat.le_of_ble_eq_true rfl) (Nat.le_of_ble_eq_true rfl) dX11_take_86
                              · exact absurd c_8_4 (by decide)
                            · exact absurd c_46_3 (by decide)
                          · exact absurd c_16_3 (by decide)
                      · exact absurd c_46_2 (by decide)
                    · exact absurd c_16_2 (by decide)
                · exact absurd c_46_1 (by decide)
              · have n_27_1 := nb_nle (a := en) (b := a + 1) c_27_1 (by omega) (by omega)
                refine lv_iconst (v := 1) hx hb dX11_take_30 (by decide) ?_
                refine lv_goto (tgt := 35) hx hb dX11_take_31 (by decide) ?_
                refine k_mpi (v := 1) (ty := .boolean) C G 18 (by decide) mr_18 fl_X11_175 rfl rfl rfl rfl rfl dX11_take_35 (fun H locs (G : wd Z A s (mdW Z h ad (upd (upd (upd iv 18 1) 16 (nI (a + 1))) 18 1) av) H locs) => ?_)
                refine lv_lload_n hx hb dX11_take_38 rfl (lv_at hl 1 rfl) ?_
                refine lv_bipush (v := 8) hx hb dX11_take_39 (by decide) ?_
                refine lv_lshl (v := ((0 <<< ((8 : Int32).toInt64 &&& 63)) ||| ((((av 3) a).toInt64) &&& 255)) <<< ((8 : Int32).toInt64 &&& 63)) hx hb dX11_take_41 rfl ?_
                refine lv_aload_n hx hb dX11_take_42 rfl (lv_at hl 2 rfl) ?_
                refine k_mgi (v := 1) C G 18 (by decide) mr_18 rfl fl_X11_175 rfl dX11_take_43 ?_
                refine lv_if_eq (tgt := 66) hx hb dX11_take_46 (by decide) (fun c_46_1 => ?_) (fun c_46_1 => ?_)
                · exact absurd c_46_1 (by decide)
                · have n_46_1 := nb_ne (a := 1) (b := 0) c_46_1 (by omega) (by omega)
                  refine lv_aload_n hx hb dX11_take_49 rfl (lv_at hl 2 rfl) ?_
                  refine k_mga C G 3 (by decide) mr_3 fl_X11_20 rfl dX11_take_50 ?_
                  refine lv_aload_n hx hb dX11_take_53 rfl (lv_at hl 2 rfl) ?_
                  refine k_mgi (v := nI (a + 1)) C G 16 (by decide) mr_16 rfl fl_X11_179 rfl dX11_take_54 ?_
                  refine k_mbl (v := (av 3) (a + 1)) (i := a + 1) C G 3 (k := 3) (n := 140000) mp_3 (by decide) (by omega) rfl dX11_take_57 ?_
                  refine lv_i2l (v := ((av 3) (a + 1)).toInt64) hx hb dX11_take_58 rfl ?_
                  refine lv_ldc2 (v := 255) hx hb hown (hts _ kl_X11_185) dX11_take_59 ?_
                  refine lv_land hx hb dX11_take_62 ?_
                  refine lv_goto (tgt := 67) hx hb dX11_take_63 (by decide) ?_
                  refine lv_lor hx hb dX11_take_67 ?_
                  refine lv_lstore_n (lv' := [(2, .long ((((0 <<< ((8 : Int32).toInt64 &&& 63)) ||| ((((av 3) a).toInt64) &&& 255)) <<< ((8 : Int32).toInt64 &&& 63)) ||| ((((av 3) (a + 1)).toInt64) &&& 255))), (4, .int 1), (0, .ref h), (1, .int 4)]) hx hb dX11_take_68 rfl hl (by decide) rfl (fun ls hl => ?_)
                  refine lv_aload_n hx hb dX11_take_69 rfl (lv_at hl 2 rfl) ?_
                  refine lv_dup hx hb dX11_take_70 rfl ?_
                  refine k_mgi (v := nI (a + 1)) C G 16 (by decide) mr_16 rfl fl_X11_179 rfl dX11_take_71 ?_
                  refine lv_iconst (v := 1) hx hb dX11_take_74 (by decide) ?_
                  refine lv_iadd hx hb dX11_take_75 ?_
                  refine k_topi (y := nI (a + 1 + 1)) (nI_add (a + 1) 1) ?_
                  refine k_mpi (v := nI (a + 1 + 1)) (ty := .int) C G 16 (by decide) mr_16 fl_X11_179 rfl rfl rfl rfl rfl dX11_take_76 (fun H locs (G : wd Z A s (mdW Z h ad (upd (upd (upd (upd iv 18 1) 16 (nI (a + 1))) 18 1) 16 (nI (a + 1 + 1))) av) H locs) => ?_)
                  refine lv_iinc (v := 2) (lv' := [(4, .int 2), (2, .long ((((0 <<< ((8 : Int32).toInt64 &&& 63)) ||| ((((av 3) a).toInt64) &&& 255)) <<< ((8 : Int32).toInt64 &&& 63)) ||| ((((av 3) (a + 1)).toInt64) &&& 255))), (0, .ref h), (1, .int 4)]) hx hb dX11_take_79 hl (k := 1) rfl (by decide) (by decide) rfl (fun ls hl => ?_)
                  refine lv_goto (tgt := 5) hx hb dX11_take_82 (by decide) ?_
                  refine lv_iload hx hb dX11_take_5 (lv_at hl 0 rfl) ?_
                  refine lv_iload_n hx hb dX11_take_7 rfl (lv_at hl 3 rfl) ?_
                  refine lv_icmp_ge (tgt := 85) hx hb dX11_take_8 (by decide) (fun c_8_2 => ?_) (fun c_8_2 => ?_)
                  · exact absurd c_8_2 (by decide)
                  · have n_8_2 := nb_nle (a := 4) (b := 2) c_8_2 (by omega) (by omega)
                    refine lv_aload_n hx hb dX11_take_11 rfl (lv_at hl 2 rfl) ?_
                    refine lv_aload_n hx hb dX11_take_12 rfl (lv_at hl 2 rfl) ?_
                    refine k_mgi (v := 1) C G 18 (by decide) mr_18 rfl fl_X11_175 rfl dX11_take_13 ?_
                    refine lv_if_eq (tgt := 34) hx hb dX11_take_16 (by decide) (fun c_16_2 => ?_) (fun c_16_2 => ?_)
                    · exact absurd c_16_2 (by decide)
                    · have n_16_2 := nb_ne (a := 1) (b := 0) c_16_2 (by omega) (by omega)
                      refine lv_aload_n hx hb dX11_take_19 rfl (lv_at hl 2 rfl) ?_
                      refine k_mgi (v := nI (a + 1 + 1)) C G 16 (by decide) mr_16 rfl fl_X11_179 rfl dX11_take_20 ?_
                      refine lv_aload_n hx hb dX11_take_23 rfl (lv_at hl 2 rfl) ?_
                      refine k_mgi (v := nI en) C G 17 (by decide) mr_17 hen fl_X11_182 rfl dX11_take_24 ?_
                      refine lv_icmp_ge (tgt := 34) hx hb dX11_take_27 (by decide) (fun c_27_2 => ?_) (fun c_27_2 => ?_)
                      · have n_27_2 := nb_le (a := en) (b := a + 1 + 1) c_27_2 (by omega) (by omega)
                        refine lv_iconst (v := 0) hx hb dX11_take_34 (by decide) ?_
                        refine k_mpi (v := 0) (ty := .boolean) C G 18 (by decide) mr_18 fl_X11_175 rfl rfl rfl rfl rfl dX11_take_35 (fun H locs (G : wd Z A s (mdW Z h ad (upd (upd (upd (upd (upd iv 18 1) 16 (nI (a + 1))) 18 1) 16 (nI (a + 1 + 1))) 18 0) av) H locs) => ?_)
                        refine lv_lload_n hx hb dX11_take_38 rfl (lv_at hl 1 rfl) ?_
                        refine lv_bipush (v := 8) hx hb dX11_take_39 (by decide) ?_
                        refine lv_lshl (v := ((((0 <<< ((8 : Int32).toInt64 &&& 63)) ||| ((((av 3) a).toInt64) &&& 255)) <<< ((8 : Int32).toInt64 &&& 63)) ||| ((((av 3) (a + 1)).toInt64) &&& 255)) <<< ((8 : Int32).toInt64 &&& 63)) hx hb dX11_take_41 rfl ?_
                        refine lv_aload_n hx hb dX11_take_42 rfl (lv_at hl 2 rfl) ?_
                        refine k_mgi (v := 0) C G 18 (by decide) mr_18 rfl fl_X11_175 rfl dX11_take_43 ?_
                        refine lv_if_eq (tgt := 66) hx hb dX11_take_46 (by decide) (fun c_46_2 => ?_) (fun c_46_2 => ?_)
                        · have n_46_2 := nb_eq (a := 0) (b := 0) c_46_2 (by omega) (by omega)
                          refine lv_lconst (v := 0) hx hb dX11_take_66 (by decide) ?_
                          refine lv_lor hx hb dX11_take_67 ?_
                          refine lv_lstore_n (lv' := [(2, .long ((((((0 <<< ((8 : Int32).toInt64 &&& 63)) ||| ((((av 3) a).toInt64) &&& 255)) <<< ((8 : Int32).toInt64 &&& 63)) ||| ((((av 3) (a + 1)).toInt64) &&& 255)) <<< ((8 : Int32).toInt64 &&& 63)) ||| 0)), (4, .int 2), (0, .ref h), (1, .int 4)]) hx hb dX11_take_68 rfl hl (by decide) rfl (fun ls hl => ?_)
                          refine lv_aload_n hx hb dX11_take_69 rfl (lv_at hl 2 rfl) ?_
                          refine lv_dup hx hb dX11_take_70 rfl ?_
                          refine k_mgi (v := nI (a + 1 + 1)) C G 16 (by decide) mr_16 rfl fl_X11_179 rfl dX11_take_71 ?_
                          refine lv_iconst (v := 1) hx hb dX11_take_74 (by decide) ?_
                          refine lv_iadd hx hb dX11_take_75 ?_
                          refine k_topi (y := nI (a + 1 + 1 + 1)) (nI_add (a + 1 + 1) 1) ?_
                          refine k_mpi (v := nI (a + 1 + 1 + 1)) (ty := .int) C G 16 (by decide) mr_16 fl_X11_179 rfl rfl rfl rfl rfl dX11_take_76 (fun H locs (G : wd Z A s (mdW Z h ad (upd (upd (upd (upd (upd (upd iv 18 1) 16 (nI (a + 1))) 18 1) 16 (nI (a + 1 + 1))) 18 0) 16 (nI (a + 1 + 1 + 1))) av) H locs) => ?_)
                          refine lv_iinc (v := 3) (lv' := [(4, .int 3), (2, .long ((((((0 <<< ((8 : Int32).toInt64 &&& 63)) ||| ((((av 3) a).toInt64) &&& 255)) <<< ((8 : Int32).toInt64 &&& 63)) ||| ((((av 3) (a + 1)).toInt64) &&& 255)) <<< ((8 : Int32).toInt64 &&& 63)) ||| 0)), (0, .ref h), (1, .int 4)]) hx hb dX11_take_79 hl (k := 1) rfl (by decide) (by decide) rfl (fun ls hl => ?_)
                          refine lv_goto (tgt := 5) hx hb dX11_take_82 (by decide) ?_
                          refine lv_iload hx hb dX11_take_5 (lv_at hl 0 rfl) ?_
                          refine lv_iload_n hx hb dX11_take_7 rfl (lv_at hl 3 rfl) ?_
                          refine lv_icmp_ge (tgt := 85) hx hb dX11_take_8 (by decide) (fun c_8_3 => ?_) (fun c_8_3 => ?_)
                          · exact absurd c_8_3 (by decide)
                          · have n_8_3 := nb_nle (a := 4) (b := 3) c_8_3 (by omega) (by omega)
                            refine lv_aload_n hx hb dX11_take_11 rfl (lv_at hl 2 rfl) ?_
                            refine lv_aload_n hx hb dX11_take_12 rfl (lv_at hl 2 rfl) ?_
                            refine k_mgi (v := 0) C G 18 (by decide) mr_18 rfl fl_X11_175 rfl dX11_take_13 ?_
                            refine lv_if_eq (tgt := 34) hx hb dX11_take_16 (by decide) (fun c_16_3 => ?_) (fun c_16_3 => ?_)
                            · have n_16_3 := nb_eq (a := 0) (b := 0) c_16_3 (by omega) (by omega)
                              refine lv_iconst (v := 0) hx hb dX11_take_34 (by decide) ?_
                              refine k_mpi (v := 0) (ty := .boolean) C G 18 (by decide) mr_18 fl_X11_175 rfl rfl rfl rfl rfl dX11_take_35 (fun H locs (G : wd Z A s (mdW Z h ad (upd (upd (upd (upd (upd (upd (upd iv 18 1) 16 (nI (a + 1))) 18 1) 16 (nI (a + 1 + 1))) 18 0) 16 (nI (a + 1 + 1 + 1))) 18 0) av) H locs) => ?_)
                              refine lv_lload_n hx hb dX11_take_38 rfl (lv_at hl 1 rfl) ?_
                              refine lv_bipush (v := 8) hx hb dX11_take_39 (by decide) ?_
                              refine lv_lshl (v := ((((((0 <<< ((8 : Int32).toInt64 &&& 63)) ||| ((((av 3) a).toInt64) &&& 255)) <<< ((8 : Int32).toInt64 &&& 63)) ||| ((((av 3) (a + 1)).toInt64) &&& 255)) <<< ((8 : Int32).toInt64 &&& 63)) ||| 0) <<< ((8 : Int32).toInt64 &&& 63)) hx hb dX11_take_41 rfl ?_
                              refine lv_aload_n hx hb dX11_take_42 rfl (lv_at hl 2 rfl) ?_
                              refine k_mgi (v := 0) C G 18 (by decide) mr_18 rfl fl_X11_175 rfl dX11_take_43 ?_
                              refine lv_if_eq (tgt := 66) hx hb dX11_take_46 (by decide) (fun c_46_3 => ?_) (fun c_46_3 => ?_)
                              · have n_46_3 := nb_eq (a := 0) (b := 0) c_46_3 (by omega) (by omega)
                                refine lv_lconst (v := 0) hx hb dX11_take_66 (by decide) ?_
                                refine lv_lor hx hb dX11_take_67 ?_
                                refine lv_lstore_n (lv' := [(2, .long ((((((((0 <<< ((8 : Int32).toInt64 &&& 63)) ||| ((((av 3) a).toInt64) &&& 255)) <<< ((8 : Int32).toInt64 &&& 63)) ||| ((((av 3) (a + 1)).toInt64) &&& 255)) <<< ((8 : Int32).toInt64 &&& 63)) ||| 0) <<< ((8 : Int32).toInt64 &&& 63)) ||| 0)), (4, .int 3), (0, .ref h), (1, .int 4)]) hx hb dX11_take_68 rfl hl (by decide) rfl (fun ls hl => ?_)
                                refine lv_aload_n hx hb dX11_take_69 rfl (lv_at hl 2 rfl) ?_
                                refine lv_dup hx hb dX11_take_70 rfl ?_
                                refine k_mgi (v := nI (a + 1 + 1 + 1)) C G 16 (by decide) mr_16 rfl fl_X11_179 rfl dX11_take_71 ?_
                                refine lv_iconst (v := 1) hx hb dX11_take_74 (by decide) ?_
                                refine lv_iadd hx hb dX11_take_75 ?_
                                refine k_topi (y := nI (a + 1 + 1 + 1 + 1)) (nI_add (a + 1 + 1 + 1) 1) ?_
                                refine k_mpi (v := nI (a + 1 + 1 + 1 + 1)) (ty := .int) C G 16 (by decide) mr_16 fl_X11_179 rfl rfl rfl rfl rfl dX11_take_76 (fun H locs (G : wd Z A s (mdW Z h ad (upd (upd (upd (upd (upd (upd (upd (upd iv 18 1) 16 (nI (a + 1))) 18 1) 16 (nI (a + 1 + 1))) 18 0) 16 (nI (a + 1 + 1 + 1))) 18 0) 16 (nI (a + 1 + 1 + 1 + 1))) av) H locs) => ?_)
                                refine lv_iinc (v := 4) (lv' := [(4, .int 4), (2, .long ((((((((0 <<< ((8 : Int32).toInt64 &&& 63)) ||| ((((av 3) a).toInt64) &&& 255)) <<< ((8 : Int32).toInt64 &&& 63)) ||| ((((av 3) (a + 1)).toInt64) &&& 255)) <<< ((8 : Int32).toInt64 &&& 63)) ||| 0) <<< ((8 : Int32).toInt64 &&& 63)) ||| 0)), (0, .ref h), (1, .int 4)]) hx hb dX11_take_79 hl (k := 1) rfl (by decide) (by decide) rfl (fun ls hl => ?_)
                                refine lv_goto (tgt := 5) hx hb dX11_take_82 (by decide) ?_
                                refine lv_iload hx hb dX11_take_5 (lv_at hl 0 rfl) ?_
                                refine lv_iload_n hx hb dX11_take_7 rfl (lv_at hl 3 rfl) ?_
                                refine lv_icmp_ge (tgt := 85) hx hb dX11_take_8 (by decide) (fun c_8_4 => ?_) (fun c_8_4 => ?_)
                                · have n_8_4 := nb_le (a := 4) (b := 4) c_8_4 (by omega) (by omega)
                                  refine lv_lload_n hx hb dX11_take_85 rfl (lv_at hl 1 rfl) ?_
                                  exact kr_l C G ⟨_, rfl, ((((((((sI.rf.up (by decide) _).up (by decide) _).up (by decide) _).up (by decide) _).up (by decide) _).up (by decide) _).up (by decide) _).up (by decide) _), rfl, Or.inr ⟨fun z => absurd z.2 (by omega), rfl⟩⟩ (Nat.le_of_ble_eq_true rfl) (Nat.le_of_ble_eq_true rfl) dX11_take_86
                                · exact absurd c_8_4 (by decide)
                              · exact absurd c_46_3 (by decide)
                            · exact absurd c_16_3 (by decide)
                        · exact absurd c_46_2 (by decide)
                      · have n_27_2 := nb_nle (a := en) (b := a + 1 + 1) c_27_2 (by omega) (by omega)
                        refine lv_iconst (v := 1) hx hb dX11_take_30 (by decide) ?_
                        refine lv_goto (tgt := 35) hx hb dX11_take_31 (by decide) ?_
                        refine k_mpi (v := 1) (ty := .boolean) C G 18 (by decide) mr_18 fl_X11_175 rfl rfl rfl rfl rfl dX11_take_35 (fun H locs (G : wd Z A s (mdW Z h ad (upd (upd (upd (upd (upd iv 18 1) 16 (nI (a + 1))) 18 1) 16 (nI (a + 1 + 1))) 18 1) av) H locs) => ?_)
                        refine lv_lload_n hx hb dX11_take_38 rfl (lv_at hl 1 rfl) ?_
                        refine lv_bipush (v := 8) hx hb dX11_take_39 (by decide) ?_
                        refine lv_lshl (v := ((((0 <<< ((8 : Int32).toInt64 &&& 63)) ||| ((((av 3) a).toInt64) &&& 255)) <<< ((8 : Int32).toInt64 &&& 63)) ||| ((((av 3) (a + 1)).toInt64) &&& 255)) <<< ((8 : Int32).toInt64 &&& 63)) hx hb dX11_take_41 rfl ?_
                        refine lv_aload_n hx hb dX11_take_42 rfl (lv_at hl 2 rfl) ?_
                        refine k_mgi (v := 1) C G 18 (by decide) mr_18 rfl fl_X11_175 rfl dX11_take_43 ?_
                        refine lv_if_eq (tgt := 66) hx hb dX11_take_46 (by decide) (fun c_46_2 => ?_) (fun c_46_2 => ?_)
                        · exact absurd c_46_2 (by decide)
                        · have n_46_2 := nb_ne (a := 1) (b := 0) c_46_2 (by omega) (by omega)
                          refine lv_aload_n hx hb dX11_take_49 rfl (lv_at hl 2 rfl) ?_
                          refine k_mga C G 3 (by decide) mr_3 fl_X11_20 rfl dX11_take_50 ?_
                          refine lv_aload_n hx hb dX11_take_53 rfl (lv_at hl 2 rfl) ?_
                          refine k_mgi (v := nI (a + 1 + 1)) C G 16 (by decide) mr_16 rfl fl_X11_179 rfl dX11_take_54 ?_
                          refine k_mbl (v := (av 3) (a + 1 + 1)) (i := a + 1 + 1) C G 3 (k := 3) (n := 140000) mp_3 (by decide) (by omega) rfl dX11_take_57 ?_
                          refine lv_i2l (v := ((av 3) (a + 1 + 1)).toInt64) hx hb dX11_take_58 rfl ?_
                          refine lv_ldc2 (v := 255) hx hb hown (hts _ kl_X11_185) dX11_take_59 ?_
                          refine lv_land hx hb dX11_take_62 ?_
                          refine lv_goto (tgt := 67) hx hb dX11_take_63 (by decide) ?_
                          refine lv_lor hx hb dX11_take_67 ?_
                          refine lv_lstore_n (lv' := [(2, .long ((((((0 <<< ((8 : Int32).toInt64 &&& 63)) ||| ((((av 3) a).toInt64) &&& 255)) <<< ((8 : Int32).toInt64 &&& 63)) ||| ((((av 3) (a + 1)).toInt64) &&& 255)) <<< ((8 : Int32).toInt64 &&& 63)) ||| ((((av 3) (a + 1 + 1)).toInt64) &&& 255))), (4, .int 2), (0, .ref h), (1, .int 4)]) hx hb dX11_take_68 rfl hl (by decide) rfl (fun ls hl => ?_)
                          refine lv_aload_n hx hb dX11_take_69 rfl (lv_at hl 2 rfl) ?_
                          refine lv_dup hx hb dX11_take_70 rfl ?_
                          refine k_mgi (v := nI (a + 1 + 1)) C G 16 (by decide) mr_16 rfl fl_X11_179 rfl dX11_take_71 ?_
                          refine lv_iconst (v := 1) hx hb dX11_take_74 (by decide) ?_
                          refine lv_iadd hx hb dX11_take_75 ?_
                          refine k_topi (y := nI (a + 1 + 1 + 1)) (nI_add (a + 1 + 1) 1) ?_
                          refine k_mpi (v := nI (a + 1 + 1 + 1)) (ty := .int) C G 16 (by decide) mr_16 fl_X11_179 rfl rfl rfl rfl rfl dX11_take_76 (fun H locs (G : wd Z A s (mdW Z h ad (upd (upd (upd (upd (upd (upd iv 18 1) 16 (nI (a + 1))) 18 1) 16 (nI (a + 1 + 1))) 18 1) 16 (nI (a + 1 + 1 + 1))) av) H locs) => ?_)
                          refine lv_iinc (v := 3) (lv' := [(4, .int 3), (2, .long ((((((0 <<< ((8 : Int32).toInt64 &&& 63)) ||| ((((av 3) a).toInt64) &&& 255)) <<< ((8 : Int32).toInt64 &&& 63)) ||| ((((av 3) (a + 1)).toInt64) &&& 255)) <<< ((8 : Int32).toInt64 &&& 63)) ||| ((((av 3) (a + 1 + 1)).toInt64) &&& 255))), (0, .ref h), (1, .int 4)]) hx hb dX11_take_79 hl (k := 1) rfl (by decide) (by decide) rfl (fun ls hl => ?_)
                          refine lv_goto (tgt := 5) hx hb dX11_take_82 (by decide) ?_
                          refine lv_iload hx hb dX11_take_5 (lv_at hl 0 rfl) ?_
                          refine lv_iload_n hx hb dX11_take_7 rfl (lv_at hl 3 rfl) ?_
                          refine lv_icmp_ge (tgt := 85) hx hb dX11_take_8 (by decide) (fun c_8_3 => ?_) (fun c_8_3 => ?_)
                          · exact absurd c_8_3 (by decide)
                          · have n_8_3 := nb_nle (a := 4) (b := 3) c_8_3 (by omega) (by omega)
                            refine lv_aload_n hx hb dX11_take_11 rfl (lv_at hl 2 rfl) ?_
                            refine lv_aload_n hx hb dX11_take_12 rfl (lv_at hl 2 rfl) ?_
                            refine k_mgi (v := 1) C G 18 (by decide) mr_18 rfl fl_X11_175 rfl dX11_take_13 ?_
                            refine lv_if_eq (tgt := 34) hx hb dX11_take_16 (by decide) (fun c_16_3 => ?_) (fun c_16_3 => ?_)
                            · exact absurd c_16_3 (by decide)
                            · have n_16_3 := nb_ne (a := 1) (b := 0) c_16_3 (by omega) (by omega)
                              refine lv_aload_n hx hb dX11_take_19 rfl (lv_at hl 2 rfl) ?_
                              refine k_mgi (v := nI (a + 1 + 1 + 1)) C G 16 (by decide) mr_16 rfl fl_X11_179 rfl dX11_take_20 ?_
                              refine lv_aload_n hx hb dX11_take_23 rfl (lv_at hl 2 rfl) ?_
                              refine k_mgi (v := nI en) C G 17 (by decide) mr_17 hen fl_X11_182 rfl dX11_take_24 ?_
                              refine lv_icmp_ge (tgt := 34) hx hb dX11_take_27 (by decide) (fun c_27_3 => ?_) (fun c_27_3 => ?_)
                              · have n_27_3 := nb_le (a := en) (b := a + 1 + 1 + 1) c_27_3 (by omega) (by omega)
                                refine lv_iconst (v := 0) hx hb dX11_take_34 (by decide) ?_
                                refine k_mpi (v := 0) (ty := .boolean) C G 18 (by decide) mr_18 fl_X11_175 rfl rfl rfl rfl rfl dX11_take_35 (fun H locs (G : wd Z A s (mdW Z h ad (upd (upd (upd (upd (upd (upd (upd iv 18 1) 16 (nI (a + 1))) 18 1) 16 (nI (a + 1 + 1))) 18 1) 16 (nI (a + 1 + 1 + 1))) 18 0) av) H locs) => ?_)
                                refine lv_lload_n hx hb dX11_take_38 rfl (lv_at hl 1 rfl) ?_
                                refine lv_bipush (v := 8) hx hb dX11_take_39 (by decide) ?_
                                refine lv_lshl (v := ((((((0 <<< ((8 : Int32).toInt64 &&& 63)) ||| ((((av 3) a).toInt64) &&& 255)) <<< ((8 : Int32).toInt64 &&& 63)) ||| ((((av 3) (a + 1)).toInt64) &&& 255)) <<< ((8 : Int32).toInt64 &&& 63)) ||| ((((av 3) (a + 1 + 1)).toInt64) &&& 255)) <<< ((8 : Int32).toInt64 &&& 63)) hx hb dX11_take_41 rfl ?_
                                refine lv_aload_n hx hb dX11_take_42 rfl (lv_at hl 2 rfl) ?_
                                refine k_mgi (v := 0) C G 18 (by decide) mr_18 rfl fl_X11_175 rfl dX11_take_43 ?_
                                refine lv_if_eq (tgt := 66) hx hb dX11_take_46 (by decide) (fun c_46_3 => ?_) (fun c_46_3 => ?_)
                                · have n_46_3 := nb_eq (a := 0) (b := 0) c_46_3 (by omega) (by omega)
                                  refine lv_lconst (v := 0) hx hb dX11_take_66 (by decide) ?_
                                  refine lv_lor hx hb dX11_take_67 ?_
                                  refine lv_lstore_n (lv' := [(2, .long ((((((((0 <<< ((8 : Int32).toInt64 &&& 63)) ||| ((((av 3) a).toInt64) &&& 255)) <<< ((8 : Int32).toInt64 &&& 63)) ||| ((((av 3) (a + 1)).toInt64) &&& 255)) <<< ((8 : Int32).toInt64 &&& 63)) ||| ((((av 3) (a + 1 + 1)).toInt64) &&& 255)) <<< ((8 : Int32).toInt64 &&& 63)) ||| 0)), (4, .int 3), (0, .ref h), (1, .int 4)]) hx hb dX11_take_68 rfl hl (by decide) rfl (fun ls hl => ?_)
                                  refine lv_aload_n hx hb dX11_take_69 rfl (lv_at hl 2 rfl) ?_
                                  refine lv_dup hx hb dX11_take_70 rfl ?_
                                  refine k_mgi (v := nI (a + 1 + 1 + 1)) C G 16 (by decide) mr_16 rfl fl_X11_179 rfl dX11_take_71 ?_
                                  refine lv_iconst (v := 1) hx hb dX11_take_74 (by decide) ?_
                                  refine lv_iadd hx hb dX11_take_75 ?_
                                  refine k_topi (y := nI (a + 1 + 1 + 1 + 1)) (nI_add (a + 1 + 1 + 1) 1) ?_
                                  refine k_mpi (v := nI (a + 1 + 1 + 1 + 1)) (ty := .int) C G 16 (by decide) mr_16 fl_X11_179 rfl rfl rfl rfl rfl dX11_take_76 (fun H locs (G : wd Z A s (mdW Z h ad (upd (upd (upd (upd (upd (upd (upd (upd iv 18 1) 16 (nI (a + 1))) 18 1) 16 (nI (a + 1 + 1))) 18 1) 16 (nI (a + 1 + 1 + 1))) 18 0) 16 (nI (a + 1 + 1 + 1 + 1))) av) H locs) => ?_)
                                  refine lv_iinc (v := 4) (lv' := [(4, .int 4), (2, .long ((((((((0 <<< ((8 : Int32).toInt64 &&& 63)) ||| ((((av 3) a).toInt64) &&& 255)) <<< ((8 : Int32).toInt64 &&& 63)) ||| ((((av 3) (a + 1)).toInt64) &&& 255)) <<< ((8 : Int32).toInt64 &&& 63)) ||| ((((av 3) (a + 1 + 1)).toInt64) &&& 255)) <<< ((8 : Int32).toInt64 &&& 63)) ||| 0)), (0, .ref h), (1, .int 4)]) hx hb dX11_take_79 hl (k := 1) rfl (by decide) (by decide) rfl (fun ls hl => ?_)
                                  refine lv_goto (tgt := 5) hx hb dX11_take_82 (by decide) ?_
                                  refine lv_iload hx hb dX11_take_5 (lv_at hl 0 rfl) ?_
                                  refine lv_iload_n hx hb dX11_take_7 rfl (lv_at hl 3 rfl) ?_
                                  refine lv_icmp_ge (tgt := 85) hx hb dX11_take_8 (by decide) (fun c_8_4 => ?_) (fun c_8_4 => ?_)
                                  · have n_8_4 := nb_le (a := 4) (b := 4) c_8_4 (by omega) (by omega)
                                    refine lv_lload_n hx hb dX11_take_85 rfl (lv_at hl 1 rfl) ?_
                                    exact kr_l C G ⟨_, rfl, ((((((((sI.rf.up (by decide) _).up (by decide) _).up (by decide) _).up (by decide) _).up (by decide) _).up (by decide) _).up (by decide) _).up (by decide) _), rfl, Or.inr ⟨fun z => absurd z.2 (by omega), rfl⟩⟩ (Nat.le_of_ble_eq_true rfl) (Nat.le_of_ble_eq_true rfl) dX11_take_86
                                  · exact absurd c_8_4 (by decide)
                                · exact absurd c_46_3 (by decide)
                              · have n_27_3 := nb_nle (a := en) (b := a + 1 + 1 + 1) c_27_3 (by omega) (by omega)
                                refine lv_iconst (v := 1) hx hb dX11_take_30 (by decide) ?_
                                refine lv_goto (tgt := 35) hx hb dX11_take_31 (by decide) ?_
                                refine k_mpi (v := 1) (ty := .boolean) C G 18 (by decide) mr_18 fl_X11_175 rfl rfl rfl rfl rfl dX11_take_35 (fun H locs (G : wd Z A s (mdW Z h ad (upd (upd (upd (upd (upd (upd (upd iv 18 1) 16 (nI (a + 1))) 18 1) 16 (nI (a + 1 + 1))) 18 1) 16 (nI (a + 1 + 1 + 1))) 18 1) av) H locs) => ?_)
                                refine lv_lload_n hx hb dX11_take_38 rfl (lv_at hl 1 rfl) ?_
                                refine lv_bipush (v := 8) hx hb dX11_take_39 (by decide) ?_
                                refine lv_lshl (v := ((((((0 <<< ((8 : Int32).toInt64 &&& 63)) ||| ((((av 3) a).toInt64) &&& 255)) <<< ((8 : Int32).toInt64 &&& 63)) ||| ((((av 3) (a + 1)).toInt64) &&& 255)) <<< ((8 : Int32).toInt64 &&& 63)) ||| ((((av 3) (a + 1 + 1)).toInt64) &&& 255)) <<< ((8 : Int32).toInt64 &&& 63)) hx hb dX11_take_41 rfl ?_
                                refine lv_aload_n hx hb dX11_take_42 rfl (lv_at hl 2 rfl) ?_
                                refine k_mgi (v := 1) C G 18 (by decide) mr_18 rfl fl_X11_175 rfl dX11_take_43 ?_
                                refine lv_if_eq (tgt := 66) hx hb dX11_take_46 (by decide) (fun c_46_3 => ?_) (fun c_46_3 => ?_)
                                · exact absurd c_46_3 (by decide)
                                · have n_46_3 := nb_ne (a := 1) (b := 0) c_46_3 (by omega) (by omega)
                                  refine lv_aload_n hx hb dX11_take_49 rfl (lv_at hl 2 rfl) ?_
                                  refine k_mga C G 3 (by decide) mr_3 fl_X11_20 rfl dX11_take_50 ?_
                                  refine lv_aload_n hx hb dX11_take_53 rfl (lv_at hl 2 rfl) ?_
                                  refine k_mgi (v := nI (a + 1 + 1 + 1)) C G 16 (by decide) mr_16 rfl fl_X11_179 rfl dX11_take_54 ?_
                                  refine k_mbl (v := (av 3) (a + 1 + 1 + 1)) (i := a + 1 + 1 + 1) C G 3 (k := 3) (n := 140000) mp_3 (by decide) (by omega) rfl dX11_take_57 ?_
                                  refine lv_i2l (v := ((av 3) (a + 1 + 1 + 1)).toInt64) hx hb dX11_take_58 rfl ?_
                                  refine lv_ldc2 (v := 255) hx hb hown (hts _ kl_X11_185) dX11_take_59 ?_
                                  refine lv_land hx hb dX11_take_62 ?_
                                  refine lv_goto (tgt := 67) hx hb dX11_take_63 (by decide) ?_
                                  refine lv_lor hx hb dX11_take_67 ?_
                                  refine lv_lstore_n (lv' := [(2, .long ((((((((0 <<< ((8 : Int32).toInt64 &&& 63)) ||| ((((av 3) a).toInt64) &&& 255)) <<< ((8 : Int32).toInt64 &&& 63)) ||| ((((av 3) (a + 1)).toInt64) &&& 255)) <<< ((8 : Int32).toInt64 &&& 63)) ||| ((((av 3) (a + 1 + 1)).toInt64) &&& 255)) <<< ((8 : Int32).toInt64 &&& 63)) ||| ((((av 3) (a + 1 + 1 + 1)).toInt64) &&& 255))), (4, .int 3), (0, .ref h), (1, .int 4)]) hx hb dX11_take_68 rfl hl (by decide) rfl (fun ls hl => ?_)
                                  refine lv_aload_n hx hb dX11_take_69 rfl (lv_at hl 2 rfl) ?_
                                  refine lv_dup hx hb dX11_take_70 rfl ?_
                                  refine k_mgi (v := nI (a + 1 + 1 + 1)) C G 16 (by decide) mr_16 rfl fl_X11_179 rfl dX11_take_71 ?_
                                  refine lv_iconst (v := 1) hx hb dX11_take_74 (by decide) ?_
                                  refine lv_iadd hx hb dX11_take_75 ?_
                                  refine k_topi (y := nI (a + 1 + 1 + 1 + 1)) (nI_add (a + 1 + 1 + 1) 1) ?_
                                  refine k_mpi (v := nI (a + 1 + 1 + 1 + 1)) (ty := .int) C G 16 (by decide) mr_16 fl_X11_179 rfl rfl rfl rfl rfl dX11_take_76 (fun H locs (G : wd Z A s (mdW Z h ad (upd (upd (upd (upd (upd (upd (upd (upd iv 18 1) 16 (nI (a + 1))) 18 1) 16 (nI (a + 1 + 1))) 18 1) 16 (nI (a + 1 + 1 + 1))) 18 1) 16 (nI (a + 1 + 1 + 1 + 1))) av) H locs) => ?_)
                                  refine lv_iinc (v := 4) (lv' := [(4, .int 4), (2, .long ((((((((0 <<< ((8 : Int32).toInt64 &&& 63)) ||| ((((av 3) a).toInt64) &&& 255)) <<< ((8 : Int32).toInt64 &&& 63)) ||| ((((av 3) (a + 1)).toInt64) &&& 255)) <<< ((8 : Int32).toInt64 &&& 63)) ||| ((((av 3) (a + 1 + 1)).toInt64) &&& 255)) <<< ((8 : Int32).toInt64 &&& 63)) ||| ((((av 3) (a + 1 + 1 + 1)).toInt64) &&& 255))), (0, .ref h), (1, .int 4)]) hx hb dX11_take_79 hl (k := 1) rfl (by decide) (by decide) rfl (fun ls hl => ?_)
                                  refine lv_goto (tgt := 5) hx hb dX11_take_82 (by decide) ?_
                                  refine lv_iload hx hb dX11_take_5 (lv_at hl 0 rfl) ?_
                                  refine lv_iload_n hx hb dX11_take_7 rfl (lv_at hl 3 rfl) ?_
                                  refine lv_icmp_ge (tgt := 85) hx hb dX11_take_8 (by decide) (fun c_8_4 => ?_) (fun c_8_4 => ?_)
                                  · have n_8_4 := nb_le (a := 4) (b := 4) c_8_4 (by omega) (by omega)
                                    refine lv_lload_n hx hb dX11_take_85 rfl (lv_at hl 1 rfl) ?_
                                    exact kr_l C G ⟨_, rfl, ((((((((sI.rf.up (by decide) _).up (by decide) _).up (by decide) _).up (by decide) _).up (by decide) _).up (by decide) _).up (by decide) _).up (by decide) _), rfl, Or.inl ⟨hg1 c_16, by omega, rfl, tk4_r4 (av 3) a⟩⟩ (Nat.le_of_ble_eq_true rfl) (Nat.le_of_ble_eq_true rfl) dX11_take_86
                                  · exact absurd c_8_4 (by decide)
set_option maxRecDepth 100000 in
set_option maxHeartbeats 4000000 in
theorem c_mt8 (Z : zT) (l : Launch) (h : Nat) (ad : Nat → Nat) (iv : ivT) (av : avT) (a en : Nat) (g : Int32) (ha : iv 16 = nI a) (hen : iv 17 = nI en) (hgv : iv 18 = g) (hg : g = 0 ∨ g = 1) (hae : a ≤ 200000) (hel : en ≤ 140000) : Kl Z l yX11_take cX11_take 5 (some .long) ({ frames := 0, cells := 0, slots := 0, locals := 0 }) [.ref h, .int 8] (mdW Z h ad iv av) (fun r u => ∃ iv2, u = mdW Z h ad iv2 av ∧ sI [16, 18] iv iv2 ∧ iv2 16 = nI (a + 8) ∧ ((g = 1 ∧ a + 8 ≤ en ∧ iv2 18 = 1) ∨ (¬ (g = 1 ∧ a + 8 ≤ en) ∧ iv2 18 = 0))) := by
  intro sz
  refine Met.ofK (cc := cX11_take) (maxL := 5) (ret := (some .long)) (by decide) (Nat.le_of_ble_eq_true rfl) ?_
  intro p e s m below meth c ls C G hl
  generalize va_A _ sz = A at G ⊢
  have hx := C.1
  have hb := C.2.1
  have hown := C.2.2.2.2.2.1
  have hts := C.2.2.2.2.2.2.1
  have hg1 : ¬ g = 0 → g = 1 := fun z => hg.resolve_left z
  refine lv_lconst (v := 0) hx hb dX11_take_0 (by decide) ?_
  refine lv_lstore_n (lv' := [(2, .long 0), (0, .ref h), (1, .int 8)]) hx hb dX11_take_1 rfl hl (by decide) rfl (fun ls hl => ?_)
  refine lv_iconst (v := 0) hx hb dX11_take_2 (by decide) ?_
  refine lv_istore (lv' := [(4, .int 0), (2, .long 0), (0, .ref h), (1, .int 8)]) hx hb dX11_take_3 hl (by decide) rfl (fun ls hl => ?_)
  refine lv_iload hx hb dX11_take_5 (lv_at hl 0 rfl) ?_
  refine lv_iload_n hx hb dX11_take_7 rfl (lv_at hl 3 rfl) ?_
  refine lv_icmp_ge (tgt := 85) hx hb dX11_take_8 (by decide) (fun c_8 => ?_) (fun c_8 => ?_)
  · exact absurd c_8 (by decide)
  · have n_8 := nb_nle (a := 8) (b := 0) c_8 (by omega) (by omega)
    refine lv_aload_n hx hb dX11_take_11 rfl (lv_at hl 2 rfl) ?_
    refine lv_aload_n hx hb dX11_take_12 rfl (lv_at hl 2 rfl) ?_
    refine k_mgi (v := g) C G 18 (by decide) mr_18 hgv fl_X11_175 rfl dX11_take_13 ?_
    refine lv_if_eq (tgt := 34) hx hb dX11_take_16 (by decide) (fun c_16 => ?_) (fun c_16 => ?_)
    · refine lv_iconst (v := 0) hx hb dX11_take_34 (by decide) ?_
      refine k_mpi (v := 0) (ty := .boolean) C G 18 (by decide) mr_18 fl_X11_175 rfl rfl rfl rfl rfl dX11_take_35 (fun H locs (G : wd Z A s (mdW Z h ad (upd iv 18 0) av) H locs) => ?_)
      refine lv_lload_n hx hb dX11_take_38 rfl (lv_at hl 1 rfl) ?_
      refine lv_bipush (v := 8) hx hb dX11_take_39 (by decide) ?_
      refine lv_lshl (v := 0 <<< ((8 : Int32).toInt64 &&& 63)) hx hb dX11_take_41 rfl ?_
      refine lv_aload_n hx hb dX11_take_42 rfl (lv_at hl 2 rfl) ?_
      refine k_mgi (v := 0) C G 18 (by decide) mr_18 rfl fl_X11_175 rfl dX11_take_43 ?_
      refine lv_if_eq (tgt := 66) hx hb dX11_take_46 (by decide) (fun c_46 => ?_) (fun c_46 => ?_)
      · have n_46 := nb_eq (a := 0) (b := 0) c_46 (by omega) (by omega)
        refine lv_lconst (v := 0) hx hb dX11_take_66 (by decide) ?_
        refine lv_lor hx hb dX11_take_67 ?_
        refine lv_lstore_n (lv' := [(2, .long ((0 <<< ((8 : Int32).toInt64 &&& 63)) ||| 0)), (4, .int 0), (0, .ref h), (1, .int 8)]) hx hb dX11_take_68 rfl hl (by decide) rfl (fun ls hl => ?_)
        refine lv_aload_n hx hb dX11_take_69 rfl (lv_at hl 2 rfl) ?_
        refine lv_dup hx hb dX11_take_70 rfl ?_
        refine k_mgi (v := nI a) C G 16 (by decide) mr_16 ha fl_X11_179 rfl dX11_take_71 ?_
        refine lv_iconst (v := 1) hx hb dX11_take_74 (by decide) ?_
        refine lv_iadd hx hb dX11_take_75 ?_
        refine k_topi (y := nI (a + 1)) (nI_add a 1) ?_
        refine k_mpi (v := nI (a + 1)) (ty := .int) C G 16 (by decide) mr_16 fl_X11_179 rfl rfl rfl rfl rfl dX11_take_76 (fun H locs (G : wd Z A s (mdW Z h ad (upd (upd iv 18 0) 16 (nI (a + 1))) av) H locs) => ?_)
        refine lv_iinc (v := 1) (lv' := [(4, .int 1), (2, .long ((0 <<< ((8 : Int32).toInt64 &&& 63)) ||| 0)), (0, .ref h), (1, .int 8)]) hx hb dX11_take_79 hl (k := 1) rfl (by decide) (by decide) rfl (fun ls hl => ?_)
        refine lv_goto (tgt := 5) hx hb dX11_take_82 (by decide) ?_
        refine lv_iload hx hb dX11_take_5 (lv_at hl 0 rfl) ?_
        refine lv_iload_n hx hb dX11_take_7 rfl (lv_at hl 3 rfl) ?_
        refine lv_icmp_ge (tgt := 85) hx hb dX11_take_8 (by decide) (fun c_8_1 => ?_) (fun c_8_1 => ?_)
        · exact absurd c_8_1 (by decide)
        · have n_8_1 := nb_nle (a := 8) (b := 1) c_8_1 (by omega) (by omega)
          refine lv_aload_n hx hb dX11_take_11 rfl (lv_at hl 2 rfl) ?_
          refine lv_aload_n hx hb dX11_take_12 rfl (lv_at hl 2 rfl) ?_
          refine k_mgi (v := 0) C G 18 (by decide) mr_18 rfl fl_X11_175 rfl dX11_take_13 ?_
          refine lv_if_eq (tgt := 34) hx hb dX11_take_16 (by decide) (fun c_16_1 => ?_) (fun c_16_1 => ?_)
          · have n_16_1 := nb_eq (a := 0) (b := 0) c_16_1 (by omega) (by omega)
            refine lv_iconst (v := 0) hx hb dX11_take_34 (by decide) ?_
            refine k_mpi (v := 0) (ty := .boolean) C G 18 (by decide) mr_18 fl_X11_175 rfl rfl rfl rfl rfl dX11_take_35 (fun H locs (G : wd Z A s (mdW Z h ad (upd (upd (upd iv 18 0) 16 (nI (a + 1))) 18 0) av) H locs) => ?_)
            refine lv_lload_n hx hb dX11_take_38 rfl (lv_at hl 1 rfl) ?_
            refine lv_bipush (v := 8) hx hb dX11_take_39 (by decide) ?_
            refine lv_lshl (v := ((0 <<< ((8 : Int32).toInt64 &&& 63)) ||| 0) <<< ((8 : Int32).toInt64 &&& 63)) hx hb dX11_take_41 rfl ?_
            refine lv_aload_n hx hb dX11_take_42 rfl (lv_at hl 2 rfl) ?_
            refine k_mgi (v := 0) C G 18 (by decide) mr_18 rfl fl_X11_175 rfl dX11_take_43 ?_
            refine lv_if_eq (tgt := 66) hx hb dX11_take_46 (by decide) (fun c_46_1 => ?_) (fun c_46_1 => ?_)
            · have n_46_1 := nb_eq (a := 0) (b := 0) c_46_1 (by omega) (by omega)
              refine lv_lconst (v := 0) hx hb dX11_take_66 (by decide) ?_
              refine lv_lor hx hb dX11_take_67 ?_
              refine lv_lstore_n (lv' := [(2, .long ((((0 <<< ((8 : Int32).toInt64 &&& 63)) ||| 0) <<< ((8 : Int32).toInt64 &&& 63)) ||| 0)), (4, .int 1), (0, .ref h), (1, .int 8)]) hx hb dX11_take_68 rfl hl (by decide) rfl (fun ls hl => ?_)
              refine lv_aload_n hx hb dX11_take_69 rfl (lv_at hl 2 rfl) ?_
              refine lv_dup hx hb dX11_take_70 rfl ?_
              refine k_mgi (v := nI (a + 1)) C G 16 (by decide) mr_16 rfl fl_X11_179 rfl dX11_take_71 ?_
              refine lv_iconst (v := 1) hx hb dX11_take_74 (by decide) ?_
              refine lv_iadd hx hb dX11_take_75 ?_
              refine k_topi (y := nI (a + 1 + 1)) (nI_add (a + 1) 1) ?_
              refine k_mpi (v := nI (a + 1 + 1)) (ty := .int) C G 16 (by decide) mr_16 fl_X11_179 rfl rfl rfl rfl rfl dX11_take_76 (fun H locs (G : wd Z A s (mdW Z h ad (upd (upd (upd (upd iv 18 0) 16 (nI (a + 1))) 18 0) 16 (nI (a + 1 + 1))) av) H locs) => ?_)
              refine lv_iinc (v := 2) (lv' := [(4, .int 2), (2, .long ((((0 <<< ((8 : Int32).toInt64 &&& 63)) ||| 0) <<< ((8 : Int32).toInt64 &&& 63)) ||| 0)), (0, .ref h), (1, .int 8)]) hx hb dX11_take_79 hl (k := 1) rfl (by decide) (by decide) rfl (fun ls hl => ?_)
              refine lv_goto (tgt := 5) hx hb dX11_take_82 (by decide) ?_
              refine lv_iload hx hb dX11_take_5 (lv_at hl 0 rfl) ?_
              refine lv_iload_n hx hb dX11_take_7 rfl (lv_at hl 3 rfl) ?_
              refine lv_icmp_ge (tgt := 85) hx hb dX11_take_8 (by decide) (fun c_8_2 => ?_) (fun c_8_2 => ?_)
              · exact absurd c_8_2 (by decide)
              · have n_8_2 := nb_nle (a := 8) (b := 2) c_8_2 (by omega) (by omega)
                refine lv_aload_n hx hb dX11_take_11 rfl (lv_at hl 2 rfl) ?_
                refine lv_aload_n hx hb dX11_take_12 rfl (lv_at hl 2 rfl) ?_
                refine k_mgi (v := 0) C G 18 (by decide) mr_18 rfl fl_X11_175 rfl dX11_take_13 ?_
                refine lv_if_eq (tgt := 34) hx hb dX11_take_16 (by decide) (fun c_16_2 => ?_) (fun c_16_2 => ?_)
                · have n_16_2 := nb_eq (a := 0) (b := 0) c_16_2 (by omega) (by omega)
                  refine lv_iconst (v := 0) hx hb dX11_take_34 (by decide) ?_
                  refine k_mpi (v := 0) (ty := .boolean) C G 18 (by decide) mr_18 fl_X11_175 rfl rfl rfl rfl rfl dX11_take_35 (fun H locs (G : wd Z A s (mdW Z h ad (upd (upd (upd (upd (upd iv 18 0) 16 (nI (a + 1))) 18 0) 16 (nI (a + 1 + 1))) 18 0) av) H locs) => ?_)
                  refine lv_lload_n hx hb dX11_take_38 rfl (lv_at hl 1 rfl) ?_
                  refine lv_bipush (v := 8) hx hb dX11_take_39 (by decide) ?_
                  refine lv_lshl (v := ((((0 <<< ((8 : Int32).toInt64 &&& 63)) ||| 0) <<< ((8 : Int32).toInt64 &&& 63)) ||| 0) <<< ((8 : Int32).toInt64 &&& 63)) hx hb dX11_take_41 rfl ?_
                  refine lv_aload_n hx hb dX11_take_42 rfl (lv_at hl 2 rfl) ?_
                  refine k_mgi (v := 0) C G 18 (by decide) mr_18 rfl fl_X11_175 rfl dX11_take_43 ?_
                  refine lv_if_eq (tgt := 66) hx hb dX11_take_46 (by decide) (fun c_46_2 => ?_) (fun c_46_2 => ?_)
                  · have n_46_2 := nb_eq (a := 0) (b := 0) c_46_2 (by omega) (by omega)
                    refine lv_lconst (v := 0) hx hb dX11_take_66 (by decide) ?_
                    refine lv_lor hx hb dX11_take_67 ?_
                    refine lv_lstore_n (lv' := [(2, .long ((((((0 <<< ((8 : Int32).toInt64 &&& 63)) ||| 0) <<< ((8 : Int32).toInt64 &&& 63)) ||| 0) <<< ((8 : Int32).toInt64 &&& 63)) ||| 0)), (4, .int 2), (0, .ref h), (1, .int 8)]) hx hb dX11_take_68 rfl hl (by decide) rfl (fun ls hl => ?_)
                    refine lv_aload_n hx hb dX11_take_69 rfl (lv_at hl 2 rfl) ?_
                    refine lv_dup hx hb dX11_take_70 rfl ?_
                    refine k_mgi (v := nI (a + 1 + 1)) C G 16 (by decide) mr_16 rfl fl_X11_179 rfl dX11_take_71 ?_
                    refine lv_iconst (v := 1) hx hb dX11_take_74 (by decide) ?_
                    refine lv_iadd hx hb dX11_take_75 ?_
                    refine k_topi (y := nI (a + 1 + 1 + 1)) (nI_add (a + 1 + 1) 1) ?_
                    refine k_mpi (v := nI (a + 1 + 1 + 1)) (ty := .int) C G 16 (by decide) mr_16 fl_X11_179 rfl rfl rfl rfl rfl dX11_take_76 (fun H locs (G : wd Z A s (mdW Z h ad (upd (upd (upd (upd (upd (upd iv 18 0) 16 (nI (a + 1))) 18 0) 16 (nI (a + 1 + 1))) 18 0) 16 (nI (a + 1 + 1 + 1))) av) H locs) => ?_)
                    refine lv_iinc (v := 3) (lv' := [(4, .int 3), (2, .long ((((((0 <<< ((8 : Int32).toInt64 &&& 63)) ||| 0) <<< ((8 : Int32).toInt64 &&& 63)) ||| 0) <<< ((8 : Int32).toInt64 &&& 63)) ||| 0)), (0, .ref h), (1, .int 8)]) hx hb dX11_take_79 hl (k := 1) rfl (by decide) (by decide) rfl (fun ls hl => ?_)
                    refine lv_goto (tgt := 5) hx hb dX11_take_82 (by decide) ?_
                    refine lv_iload hx hb dX11_take_5 (lv_at hl 0 rfl) ?_
                    refine lv_iload_n hx hb dX11_take_7 rfl (lv_at hl 3 rfl) ?_
                    refine lv_icmp_ge (tgt := 85) hx hb dX11_take_8 (by decide) (fun c_8_3 => ?_) (fun c_8_3 => ?_)
                    · exact absurd c_8_3 (by decide)
                    · have n_8_3 := nb_nle (a := 8) (b := 3) c_8_3 (by omega) (by omega)
                      refine lv_aload_n hx hb dX11_take_11 rfl (lv_at hl 2 rfl) ?_
                      refine lv_aload_n hx hb dX11_take_12 rfl (lv_at hl 2 rfl) ?_
                      refine k_mgi (v := 0) C G 18 (by decide) mr_18 rfl fl_X11_175 rfl dX11_take_13 ?_
                      refine lv_if_eq (tgt := 34) hx hb dX11_take_16 (by decide) (fun c_16_3 => ?_) (fun c_16_3 => ?_)
                      · have n_16_3 := nb_eq (a := 0) (b := 0) c_16_3 (by omega) (by omega)
                        refine lv_iconst (v := 0) hx hb dX11_take_34 (by decide) ?_
                        refine k_mpi (v := 0) (ty := .boolean) C G 18 (by decide) mr_18 fl_X11_175 rfl rfl rfl rfl rfl dX11_take_35 (fun H locs (G : wd Z A s (mdW Z h ad (upd (upd (upd (upd (upd (upd (upd iv 18 0) 16 (nI (a + 1))) 18 0) 16 (nI (a + 1 + 1))) 18 0) 16 (nI (a + 1 + 1 + 1))) 18 0) av) H locs) => ?_)
                        refine lv_lload_n hx hb dX11_take_38 rfl (lv_at hl 1 rfl) ?_
                        refine lv_bipush (v := 8) hx hb dX11_take_39 (by decide) ?_
                        refine lv_lshl (v := ((((((0 <<< ((8 : Int32).toInt64 &&& 63)) ||| 0) <<< ((8 : Int32).toInt64 &&& 63)) ||| 0) <<< ((8 : Int32).toInt64 &&& 63)) ||| 0) <<< ((8 : Int32).toInt64 &&& 63)) hx hb dX11_take_41 rfl ?_
                        refine lv_aload_n hx hb dX11_take_42 rfl (lv_at hl 2 rfl) ?_
                        refine k_mgi (v := 0) C G 18 (by decide) mr_18 rfl fl_X11_175 rfl dX11_take_43 ?_
                        refine lv_if_eq (tgt := 66) hx hb dX11_take_46 (by decide) (fun c_46_3 => ?_) (fun c_46_3 => ?_)
                        · have n_46_3 := nb_eq (a := 0) (b := 0) c_46_3 (by omega) (by omega)
                          refine lv_lconst (v := 0) hx hb dX11_take_66 (by decide) ?_
                          refine lv_lor hx hb dX11_take_67 ?_
                          refine lv_lstore_n (lv' := [(2, .long ((((((((0 <<< ((8 : Int32).toInt64 &&& 63)) ||| 0) <<< ((8 : Int32).toInt64 &&& 63)) ||| 0) <<< ((8 : Int32).toInt64 &&& 63)) ||| 0) <<< ((8 : Int32).toInt64 &&& 63)) ||| 0)), (4, .int 3), (0, .ref h), (1, .int 8)]) hx hb dX11_take_68 rfl hl (by decide) rfl (fun ls hl => ?_)
                          refine lv_aload_n hx hb dX11_take_69 rfl (lv_at hl 2 rfl) ?_
                          refine lv_dup hx hb dX11_take_70 rfl ?_
                          refine k_mgi (v := nI (a + 1 + 1 + 1)) C G 16 (by decide) mr_16 rfl fl_X11_179 rfl dX11_take_71 ?_
                          refine lv_iconst (v := 1) hx hb dX11_take_74 (by decide) ?_
                          refine lv_iadd hx hb dX11_take_75 ?_
                          refine k_topi (y := nI (a + 1 + 1 + 1 + 1)) (nI_add (a + 1 + 1 + 1) 1) ?_
                          refine k_mpi (v := nI (a + 1 + 1 + 1 + 1)) (ty := .int) C G 16 (by decide) mr_16 fl_X11_179 rfl rfl rfl rfl rfl dX11_take_76 (fun H locs (G : wd Z A s (mdW Z h ad (upd (upd (upd (upd (upd (upd (upd (upd iv 18 0) 16 (nI (a + 1))) 18 0) 16 (nI (a + 1 + 1))) 18 0) 16 (nI (a + 1 + 1 + 1))) 18 0) 16 (nI (a + 1 + 1 + 1 + 1))) av) H locs) => ?_)
                          refine lv_iinc (v := 4) (lv' := [(4, .int 4), (2, .long ((((((((0 <<< ((8 : Int32).toInt64 &&& 63)) ||| 0) <<< ((8 : Int32).toInt64 &&& 63)) ||| 0) <<< ((8 : Int32).toInt64 &&& 63)) ||| 0) <<< ((8 : Int32).toInt64 &&& 63)) ||| 0)), (0, .ref h), (1, .int 8)]) hx hb dX11_take_79 hl (k := 1) rfl (by decide) (by decide) rfl (fun ls hl => ?_)
                          refine lv_goto (tgt := 5) hx hb dX11_take_82 (by decide) ?_
                          refine lv_iload hx hb dX11_take_5 (lv_at hl 0 rfl) ?_
                          refine lv_iload_n hx hb dX11_take_7 rfl (lv_at hl 3 rfl) ?_
                          refine lv_icmp_ge (tgt := 85) hx hb dX11_take_8 (by decide) (fun c_8_4 => ?_) (fun c_8_4 => ?_)
                          · exact absurd c_8_4 (by decide)
                          · have n_8_4 := nb_nle (a := 8) (b := 4) c_8_4 (by omega) (by omega)
                            refine lv_aload_n hx hb dX11_take_11 rfl (lv_at hl 2 rfl) ?_
                            refine lv_aload_n hx hb dX11_take_12 rfl (lv_at hl 2 rfl) ?_
                            refine k_mgi (v := 0) C G 18 (by decide) mr_18 rfl fl_X11_175 rfl dX11_take_13 ?_
                            refine lv_if_eq (tgt := 34) hx hb dX11_take_16 (by decide) (fun c_16_4 => ?_) (fun c_16_4 => ?_)
                            · have n_16_4 := nb_eq (a := 0) (b := 0) c_16_4 (by omega) (by omega)
                              refine lv_iconst (v := 0) hx hb dX11_take_34 (by decide) ?_
                              refine k_mpi (v := 0) (ty := .boolean) C G 18 (by decide) mr_18 fl_X11_175 rfl rfl rfl rfl rfl dX11_take_35 (fun H locs (G : wd Z A s (mdW Z h ad (upd (upd (upd (upd (upd (upd (upd (upd (upd iv 18 0) 16 (nI (a + 1))) 18 0) 16 (nI (a + 1 + 1))) 18 0) 16 (nI (a + 1 + 1 + 1))) 18 0) 16 (nI (a + 1 + 1 + 1 + 1))) 18 0) av) H locs) => ?_)
                              refine lv_lload_n hx hb dX11_take_38 rfl (lv_at hl 1 rfl) ?_
                              refine lv_bipush (v := 8) hx hb dX11_take_39 (by decide) ?_
                              refine lv_lshl (v := ((((((((0 <<< ((8 : Int32).toInt64 &&& 63)) ||| 0) <<< ((8 : Int32).toInt64 &&& 63)) ||| 0) <<< ((8 : Int32).toInt64 &&& 63)) ||| 0) <<< ((8 : Int32).toInt64 &&& 63)) ||| 0) <<< ((8 : Int32).toInt64 &&& 63)) hx hb dX11_take_41 rfl ?_
                              refine lv_aload_n hx hb dX11_take_42 rfl (lv_at hl 2 rfl) ?_
                              refine k_mgi (v := 0) C G 18 (by decide) mr_18 rfl fl_X11_175 rfl dX11_take_43 ?_
                              refine lv_if_eq (tgt := 66) hx hb dX11_take_46 (by decide) (fun c_46_4 => ?_) (fun c_46_4 => ?_)
                              · have n_46_4 := nb_eq (a := 0) (b := 0) c_46_4 (by omega) (by omega)
                                refine lv_lconst (v := 0) hx hb dX11_take_66 (by decide) ?_
                                refine lv_lor hx hb dX11_take_67 ?_
                                refine lv_lstore_n (lv' := [(2, .long ((((((((((0 <<< ((8 : Int32).toInt64 &&& 63)) ||| 0) <<< ((8 : Int32).toInt64 &&& 63)) ||| 0) <<< ((8 : Int32).toInt64 &&& 63)) ||| 0) <<< ((8 : Int32).toInt64 &&& 63)) ||| 0) <<< ((8 : Int32).toInt64 &&& 63)) ||| 0)), (4, .int 4), (0, .ref h), (1, .int 8)]) hx hb dX11_take_68 rfl hl (by decide) rfl (fun ls hl => ?_)
                                refine lv_aload_n hx hb dX11_take_69 rfl (lv_at hl 2 rfl) ?_
                                refine lv_dup hx hb dX11_take_70 rfl ?_
                                refine k_mgi (v := nI (a + 1 + 1 + 1 + 1)) C G 16 (by decide) mr_16 rfl fl_X11_179 rfl dX11_take_71 ?_
                                refine lv_iconst (v := 1) hx hb dX11_take_74 (by decide) ?_
                                refine lv_iadd hx hb dX11_take_75 ?_
                                refine k_topi (y := nI (a + 1 + 1 + 1 + 1 + 1)) (nI_add (a + 1 + 1 + 1 + 1) 1) ?_
                                refine k_mpi (v := nI (a + 1 + 1 + 1 + 1 + 1)) (ty := .int) C G 16 (by decide) mr_16 fl_X11_179 rfl rfl rfl rfl rfl dX11_take_76 (fun H locs (G : wd Z A s (mdW Z h ad (upd (upd (upd (upd (upd (upd (upd (upd (upd (upd iv 18 0) 16 (nI (a + 1))) 18 0) 16 (nI (a + 1 + 1))) 18 0) 16 (nI (a + 1 + 1 + 1))) 18 0) 16 (nI (a + 1 + 1 + 1 + 1))) 18 0) 16 (nI (a + 1 + 1 + 1 + 1 + 1))) av) H locs) => ?_)
                                refine lv_iinc (v := 5) (lv' := [(4, .int 5), (2, .long ((((((((((0 <<< ((8 : Int32).toInt64 &&& 63)) ||| 0) <<< ((8 : Int32).toInt64 &&& 63)) ||| 0) <<< ((8 : Int32).toInt64 &&& 63)) ||| 0) <<< ((8 : Int32).toInt64 &&& 63)) ||| 0) <<< ((8 : Int32).toInt64 &&& 63)) ||| 0)), (0, .ref h), (1, .int 8)]) hx hb dX11_take_79 hl (k := 1) rfl (by decide) (by decide) rfl (fun ls hl => ?_)
                                refine lv_goto (tgt := 5) hx hb dX11_take_82 (by decide) ?_
                                refine lv_iload hx hb dX11_take_5 (lv_at hl 0 rfl) ?_
                                refine lv_iload_n hx hb dX11_take_7 rfl (lv_at hl 3 rfl) ?_
                                refine lv_icmp_ge (tgt := 85) hx hb dX11_take_8 (by decide) (fun c_8_5 => ?_) (fun c_8_5 => ?_)
                                · exact absurd c_8_5 (by decide)
                                · have n_8_5 := nb_nle (a := 8) (b := 5) c_8_5 (by omega) (by omega)
                                  refine lv_aload_n hx hb dX11_take_11 rfl (lv_at hl 2 rfl) ?_
                                  refine lv_aload_n hx hb dX11_take_12 rfl (lv_at hl 2 rfl) ?_
                                  refine k_mgi (v := 0) C G 18 (by decide) mr_18 rfl fl_X11_175 rfl dX11_take_13 ?_
                                  refine lv_if_eq (tgt := 34) hx hb dX11_take_16 (by decide) (fun c_16_5 => ?_) (fun c_16_5 => ?_)
                                  · have n_16_5 := nb_eq (a := 0) (b := 0) c_16_5 (by omega) (by omega)
                                    refine lv_iconst (v := 0) hx hb dX11_take_34 (by decide) ?_
                                    refine k_mpi (v := 0) (ty := .boolean) C G 18 (by decide) mr_18 fl_X11_175 rfl rfl rfl rfl rfl dX11_take_35 (fun H locs (G : wd Z A s (mdW Z h ad (upd (upd (upd (upd (upd (upd (upd (upd (upd (upd (upd iv 18 0) 16 (nI (a + 1))) 18 0) 16 (nI (a + 1 + 1))) 18 0) 16 (nI (a + 1 + 1 + 1))) 18 0) 16 (nI (a + 1 + 1 + 1 + 1))) 18 0) 16 (nI (a + 1 + 1 + 1 + 1 + 1))) 18 0) av) H locs) => ?_)
                                    refine lv_lload_n hx hb dX11_take_38 rfl (lv_at hl 1 rfl) ?_
                                    refine lv_bipush (v := 8) hx hb dX11_take_39 (by decide) ?_
                                    refine lv_lshl (v := ((((((((((0 <<< ((8 : Int32).toInt64 &&& 63)) ||| 0) <<< ((8 : Int32).toInt64 &&& 63)) ||| 0) <<< ((8 : Int32).toInt64 &&& 63)) ||| 0) <<< ((8 : Int32).toInt64 &&& 63)) ||| 0) <<< ((8 : Int32).toInt64 &&& 63)) ||| 0) <<< ((8 : Int32).toInt64 &&& 63)) hx hb dX11_take_41 rfl ?_
                                    refine lv_aload_n hx hb dX11_take_42 rfl (lv_at hl 2 rfl) ?_
                                    refine k_mgi (v := 0) C G 18 (by decide) mr_18 rfl fl_X11_175 rfl dX11_take_43 ?_
                                    refine lv_if_eq (tgt := 66) hx hb dX11_take_46 (by decide) (fun c_46_5 => ?_) (fun c_46_5 => ?_)
                                    · have n_46_5 := nb_eq (a := 0) (b := 0) c_46_5 (by omega) (by omega)
                                      refine lv_lconst (v := 0) hx hb dX11_take_66 (by decide) ?_
                                      refine lv_lor hx hb dX11_take_67 ?_
                                      refine lv_lstore_n (lv' := [(2, .long ((((((((((((0 <<< ((8 : Int32).toInt64 &&& 63)) ||| 0) <<< ((8 : Int32).toInt64 &&& 63)) ||| 0) <<< ((8 : Int32).toInt64 &&& 63)) ||| 0) <<< ((8 : Int32).toInt64 &&& 63)) ||| 0) <<< ((8 : Int32).toInt64 &&& 63)) ||| 0) <<< ((8 : Int32).toInt64 &&& 63)) ||| 0)), (4, .int 5), (0, .ref h), (1, .int 8)]) hx hb dX11_take_68 rfl hl (by decide) rfl (fun ls hl => ?_)
                                      refine lv_aload_n hx hb dX11_take_69 rfl (lv_at hl 2 rfl) ?_
                                      refine lv_dup hx hb dX11_take_70 rfl ?_
                                      refine k_mgi (v := nI (a + 1 + 1 + 1 + 1 + 1)) C G 16 (by decide) mr_16 rfl fl_X11_179 rfl dX11_take_71 ?_
                                      refine lv_iconst (v := 1) hx hb dX11_take_74 (by decide) ?_
                                      refine lv_iadd hx hb dX11_take_75 ?_
                                      refine k_topi (y := nI (a + 1 + 1 + 1 + 1 + 1 + 1)) (nI_add (a + 1 + 1 + 1 + 1 + 1) 1) ?_
                                      refine k_mpi (v := nI (a + 1 + 1 + 1 + 1 + 1 + 1)) (ty := .int) C G 16 (by decide) mr_16 fl_X11_179 rfl rfl rfl rfl rfl dX11_take_76 (fun H locs (G : wd Z A s (mdW Z h ad (upd (upd (upd (upd (upd (upd (upd (upd (upd (upd (upd (upd iv 18 0) 16 (nI (a + 1))) 18 0) 16 (nI (a + 1 + 1))) 18 0) 16 (nI (a + 1 + 1 + 1))) 18 0) 16 (nI (a + 1 + 1 + 1 + 1))) 18 0) 16 (nI (a + 1 + 1 + 1 + 1 + 1))) 18 0) 16 (nI (a + 1 + 1 + 1 + 1 + 1 + 1))) av) H locs) => ?_)
                                      refine lv_iinc (v := 6) (lv' := [(4, .int 6), (2, .long ((((((((((((0 <<< ((8 : Int32).toInt64 &&& 63)) ||| 0) <<< ((8 : Int32).toInt64 &&& 63)) ||| 0) <<< ((8 : Int32).toInt64 &&& 63)) ||| 0) <<< ((8 : Int32).toInt64 &&& 63)) ||| 0) <<< ((8 : Int32).toInt64 &&& 63)) ||| 0) <<< ((8 : Int32).toInt64 &&& 63)) ||| 0)), (0, .ref h), (1, .int 8)]) hx hb dX11_take_79 hl (k := 1) rfl (by decide) (by decide) rfl (fun ls hl => ?_)
                                      refine lv_goto (tgt := 5) hx hb dX11_take_82 (by decide) ?_
                                      refine lv_iload hx hb dX11_take_5 (lv_at hl 0 rfl) ?_
                                      refine lv_iload_n hx hb dX11_take_7 rfl (lv_at hl 3 rfl) ?_
                                      refine lv_icmp_ge (tgt := 85) hx hb dX11_take_8 (by decide) (fun c_8_6 => ?_) (fun c_8_6 => ?_)
                                      · exact absurd c_8_6 (by decide)
                                      · have n_8_6 := nb_nle (a := 8) (b := 6) c_8_6 (by omega) (by omega)
                                        refine lv_aload_n hx hb dX11_take_11 rfl (lv_at hl 2 rfl) ?_
                                        refine lv_aload_n hx hb dX11_take_12 rfl (lv_at hl 2 rfl) ?_
                                        refine k_mgi (v := 0) C G 18 (by decide) mr_18 rfl fl_X11_175 rfl dX11_take_13 ?_
                                        refine lv_if_eq (tgt := 34) hx hb dX11_take_16 (by decide) (fun c_16_6 => ?_) (fun c_16_6 => ?_)
                                        · have n_16_6 := nb_eq (a := 0) (b := 0) c_16_6 (by omega) (by omega)
                                          refine lv_iconst (v := 0) hx hb dX11_take_34 (by decide) ?_
                                          refine k_mpi (v := 0) (ty := .boolean) C G 18 (by decide) mr_18 fl_X11_175 rfl rfl rfl rfl rfl dX11_take_35 (fun H locs (G : wd Z A s (mdW Z h ad (upd (upd (upd (upd (upd (upd (upd (upd (upd (upd (upd (upd (upd iv 18 0) 16 (nI (a + 1))) 18 0) 16 (nI (a + 1 + 1))) 18 0) 16 (nI (a + 1 + 1 + 1))) 18 0) 16 (nI (a + 1 + 1 + 1 + 1))) 18 0) 16 (nI (a + 1 + 1 + 1 + 1 + 1))) 18 0) 16 (nI (a + 1 + 1 + 1 + 1 + 1 + 1))) 18 0) av) H locs) => ?_)
                                          refine lv_lload_n hx hb dX11_take_38 rfl (lv_at hl 1 rfl) ?_
                                          refine lv_bipush (v := 8) hx hb dX11_take_39 (by decide) ?_
                                          refine lv_lshl (v := ((((((((((((0 <<< ((8 : Int32).toInt64 &&& 63)) ||| 0) <<< ((8 : Int32).toInt64 &&& 63)) ||| 0) <<< ((8 : Int32).toInt64 &&& 63)) ||| 0) <<< ((8 : Int32).toInt64 &&& 63)) ||| 0) <<< ((8 : Int32).toInt64 &&& 63)) ||| 0) <<< ((8 : Int32).toInt64 &&& 63)) ||| 0) <<< ((8 : Int32).toInt64 &&& 63)) hx hb dX11_take_41 rfl ?_
                                          refine lv_aload_n hx hb dX11_take_42 rfl (lv_at hl 2 rfl) ?_
                                          refine k_mgi (v := 0) C G 18 (by decide) mr_18 rfl fl_X11_175 rfl dX11_take_43 ?_
                                          refine lv_if_eq (tgt := 66) hx hb dX11_take_46 (by decide) (fun c_46_6 => ?_) (fun c_46_6 => ?_)
                                          · have n_46_6 := nb_eq (a := 0) (b := 0) c_46_6 (by omega) (by omega)
                                            refine lv_lconst (v := 0) hx hb dX11_take_66 (by decide) ?_
                                            refine lv_lor hx hb dX11_take_67 ?_
                                            refine lv_lstore_n (lv' := [(2, .long ((((((((((((((0 <<< ((8 : Int32).toInt64 &&& 63)) ||| 0) <<< ((8 : Int32).toInt64 &&& 63)) ||| 0) <<< ((8 : Int32).toInt64 &&& 63)) ||| 0) <<< ((8 : Int32).toInt64 &&& 63)) ||| 0) <<< ((8 : Int32).toInt64 &&& 63)) ||| 0) <<< ((8 : Int32).toInt64 &&& 63)) ||| 0) <<< ((8 : Int32).toInt64 &&& 63)) ||| 0)), (4, .int 6), (0, .ref h), (1, .int 8)]) hx hb dX11_take_68 rfl hl (by decide) rfl (fun ls hl => ?_)
                                            refine lv_aload_n hx hb dX11_take_69 rfl (lv_at hl 2 rfl) ?_
                                            refine lv_dup hx hb dX11_take_70 rfl ?_
                                            refine k_mgi (v := nI (a + 1 + 1 + 1 + 1 + 1 + 1)) C G 16 (by decide) mr_16 rfl fl_X11_179 rfl dX11_take_71 ?_
                                            refine lv_iconst (v := 1) hx hb dX11_take_74 (by decide) ?_
                                            refine lv_iadd hx hb dX11_take_75 ?_
                                            refine k_topi (y := nI (a + 1 + 1 + 1 + 1 + 1 + 1 + 1)) (nI_add (a + 1 + 1 + 1 + 1 + 1 + 1) 1) ?_
                                            refine k_mpi (v := nI (a + 1 + 1 + 1 + 1 + 1 + 1 + 1)) (ty := .int) C G 16 (by decide) mr_16 fl_X11_179 rfl rfl rfl rfl rfl dX11_take_76 (fun H locs (G : wd Z A s (mdW Z h ad (upd (upd (upd (upd (upd (upd (upd (upd (upd (upd (upd (upd (upd (upd iv 18 0) 16 (nI (a + 1))) 18 0) 16 (nI (a + 1 + 1))) 18 0) 16 (nI (a + 1 + 1 + 1))) 18 0) 16 (nI (a + 1 + 1 + 1 + 1))) 18 0) 16 (nI (a + 1 + 1 + 1 + 1 + 1))) 18 0) 16 (nI (a + 1 + 1 + 1 + 1 + 1 + 1))) 18 0) 16 (nI (a + 1 + 1 + 1 + 1 + 1 + 1 + 1))) av) H locs) => ?_)
                                            refine lv_iinc (v := 7) (lv' := [(4, .int 7), (2, .long ((((((((((((((0 <<< ((8 : Int32).toInt64 &&& 63)) ||| 0) <<< ((8 : Int32).toInt64 &&& 63)) ||| 0) <<< ((8 : Int32).toInt64 &&& 63)) ||| 0) <<< ((8 : Int32).toInt64 &&& 63)) ||| 0) <<< ((8 : Int32).toInt64 &&& 63)) ||| 0) <<< ((8 : Int32).toInt64 &&& 63)) ||| 0) <<< ((8 : Int32).toInt64 &&& 63)) ||| 0)), (0, .ref h), (1, .int 8)]) hx hb dX11_take_79 hl (k := 1) rfl (by decide) (by decide) rfl (fun ls hl => ?_)
                                            refine lv_goto (tgt := 5) hx hb dX11_take_82 (by decide) ?_
                                            refine lv_iload hx hb dX11_take_5 (lv_at hl 0 rfl) ?_
                                            refine lv_iload_n hx hb dX11_take_7 rfl (lv_at hl 3 rfl) ?_
                                            refine lv_icmp_ge (tgt := 85) hx hb dX11_take_8 (by decide) (fun c_8_7 => ?_) (fun c_8_7 => ?_)
                                            · exact absurd c_8_7 (by decide)
                                            · have n_8_7 := nb_nle (a := 8) (b := 7) c_8_7 (by omega) (by omega)
                                              refine lv_aload_n hx hb dX11_take_11 rfl (lv_at hl 2 rfl) ?_
                                              refine lv_aload_n hx hb dX11_take_12 rfl (lv_at hl 2 rfl) ?_
                                              refine k_mgi (v := 0) C G 18 (by decide) mr_18 rfl fl_X11_175 rfl dX11_take_13 ?_
                                              refine lv_if_eq (tgt := 34) hx hb dX11_take_16 (by decide) (fun c_16_7 => ?_) (fun c_16_7 => ?_)
                                              · have n_16_7 := nb_eq (a := 0) (b := 0) c_16_7 (by omega) (by omega)
                                                refine lv_iconst (v := 0) hx hb dX11_take_34 (by decide) ?_
                                                refine k_mpi (v := 0) (ty := .boolean) C G 18 (by decide) mr_18 fl_X11_175 rfl rfl rfl rfl rfl dX11_take_35 (fun H locs (G : wd Z A s (mdW Z h ad (upd (upd (upd (upd (upd (upd (upd (upd (upd (upd (upd (upd (upd (upd (upd iv 18 0) 16 (nI (a + 1))) 18 0) 16 (nI (a + 1 + 1))) 18 0) 16 (nI (a + 1 + 1 + 1))) 18 0) 16 (nI (a + 1 + 1 + 1 + 1))) 18 0) 16 (nI (a + 1 + 1 + 1 + 1 + 1))) 18 0) 16 (nI (a + 1 + 1 + 1 + 1 + 1 + 1))) 18 0) 16 (nI (a + 1 + 1 + 1 + 1 + 1 + 1 + 1))) 18 0) av) H locs) => ?_)
                                                refine lv_lload_n hx hb dX11_take_38 rfl (lv_at hl 1 rfl) ?_
                                                refine lv_bipush (v := 8) hx hb dX11_take_39 (by decide) ?_
                                                refine lv_lshl (v := ((((((((((((((0 <<< ((8 : Int32).toInt64 &&& 63)) ||| 0) <<< ((8 : Int32).toInt64 &&& 63)) ||| 0) <<< ((8 : Int32).toInt64 &&& 63)) ||| 0) <<< ((8 : Int32).toInt64 &&& 63)) ||| 0) <<< ((8 : Int32).toInt64 &&& 63)) ||| 0) <<< ((8 : Int32).toInt64 &&& 63)) ||| 0) <<< ((8 : Int32).toInt64 &&& 63)) ||| 0) <<< ((8 : Int32).toInt64 &&& 63)) hx hb dX11_take_41 rfl ?_
                                                refine lv_aload_n hx hb dX11_take_42 rfl (lv_at hl 2 rfl) ?_
                                                refine k_mgi (v := 0) C G 18 (by decide) mr_18 rfl fl_X11_175 rfl dX11_take_43 ?_
                                                refine lv_if_eq (tgt := 66) hx hb dX11_take_46 (by decide) (fun c_46_7 => ?_) (fun c_46_7 => ?_)
                                                · have n_46_7 := nb_eq (a := 0) (b := 0) c_46_7 (by omega) (by omega)
                                                  refine lv_lconst (v := 0) hx hb dX11_take_66 (by decide) ?_
                                                  refine lv_lor hx hb dX11_take_67 ?_
                                                  refine lv_lstore_n (lv' := [(2, .long ((((((((((((((((0 <<< ((8 : Int32).toInt64 &&& 63)) ||| 0) <<< ((8 : Int32).toInt64 &&& 63)) ||| 0) <<< ((8 : Int32).toInt64 &&& 63)) ||| 0) <<< ((8 : Int32).toInt64 &&& 63)) ||| 0) <<< ((8 : Int32).toInt64 &&& 63)) ||| 0) <<< ((8 : Int32).toInt64 &&& 63)) ||| 0) <<< ((8 : Int32).toInt64 &&& 63)) ||| 0) <<< ((8 : Int32).toInt64 &&& 63)) ||| 0)), (4, .int 7), (0, .ref h), (1, .int 8)]) hx hb dX11_take_68 rfl hl (by decide) rfl (fun ls hl => ?_)
                                                  refine lv_aload_n hx hb dX11_take_69 rfl (lv_at hl 2 rfl) ?_
                                                  refine lv_dup hx hb dX11_take_70 rfl ?_
                                                  refine k_mgi (v := nI (a + 1 + 1 + 1 + 1 + 1 + 1 + 1)) C G 16 (by decide) mr_16 rfl fl_X11_179 rfl dX11_take_71 ?_
                                                  refine lv_iconst (v := 1) hx hb dX11_take_74 (by decide) ?_
                                                  refine lv_iadd hx hb dX11_take_75 ?_
                                                  refine k_topi (y := nI (a + 1 + 1 + 1 + 1 + 1 + 1 + 1 + 1)) (nI_add (a + 1 + 1 + 1 + 1 + 1 + 1 + 1) 1) ?_
                                                  refine k_mpi (v := nI (a + 1 + 1 + 1 + 1 + 1 + 1 + 1 + 1)) (ty := .int) C G 16 (by decide) mr_16 fl_X11_179 rfl rfl rfl rfl rfl dX11_take_76 (fun H locs (G : wd Z A s (mdW Z h ad (upd (upd (upd (upd (upd (upd (upd (upd (upd (upd (upd (upd (upd (upd (upd (upd iv 18 0) 16 (nI (a + 1))) 18 0) 16 (nI (a + 1 + 1))) 18 0) 16 (nI (a + 1 + 1 + 1))) 18 0) 16 (nI (a + 1 + 1 + 1 + 1))) 18 0) 16 (nI (a + 1 + 1 + 1 + 1 + 1))) 18 0) 16 (nI (a + 1 + 1 + 1 + 1 + 1 + 1))) 18 0) 16 (nI (a + 1 + 1 + 1 + 1 + 1 + 1 + 1))) 18 0) 16 (nI (a + 1 + 1 + 1 + 1 + 1 + 1 + 1 + 1))) av) H locs) => ?_)
                                                  refine lv_iinc (v := 8) (lv' := [(4, .int 8), (2, .long ((((((((((((((((0 <<< ((8 : Int32).toInt64 &&& 63)) ||| 0) <<< ((8 : Int32).toInt64 &&& 63)) ||| 0) <<< ((8 : Int32).toInt64 &&& 63)) ||| 0) <<< ((8 : Int32).toInt64 &&& 63)) ||| 0) <<< ((8 : Int32).toInt64 &&& 63)) ||| 0) <<< ((8 : Int32).toInt64 &&& 63)) ||| 0) <<< ((8 : Int32).toInt64 &&& 63)) ||| 0) <<< ((8 : Int32).toInt64 &&& 63)) ||| 0)), (0, .ref h), (1, .int 8)]) hx hb dX11_take_79 hl (k := 1) rfl (by decide) (by decide) rfl (fun ls hl => ?_)
                                                  refine lv_goto (tgt := 5) hx hb dX11_take_82 (by decide) ?_
                                                  refine lv_iload hx hb dX11_take_5 (lv_at hl 0 rfl) ?_
                                                  refine lv_iload_n hx hb dX11_take_7 rfl (lv_at hl 3 rfl) ?_
                                                  refine lv_icmp_ge (tgt := 85) hx hb dX11_take_8 (by decide) (fun c_8_8 => ?_) (fun c_8_8 => ?_)
                                                  · have n_8_8 := nb_le (a := 8) (b := 8) c_8_8 (by omega) (by omega)
                                                    refine lv_lload_n hx hb dX11_take_85 rfl (lv_at hl 1 rfl) ?_
                                                    exact kr_l C G ⟨_, rfl, ((((((((((((((((sI.rf.up (by decide) _).up (by decide) _).up (by decide) _).up (by decide) _).up (by decide) _).up (by decide) _).up (by decide) _).up (by decide) _).up (by decide) _).up (by decide) _).up (by decide) _).up (by decide) _).up (by decide) _).up (by decide) _).up (by decide) _).up (by decide) _), rfl, Or.inr ⟨fun z => absurd (z.1.symm.trans c_16) (by decide), rfl⟩⟩ (Nat.le_of_ble_eq_true rfl) (Nat.le_of_ble_eq_true rfl) dX11_take_86
                                                  · exact absurd c_8_8 (by decide)
                                                · exact absurd c_46_7 (by decide)
                                              · exact absurd c_16_7 (by decide)
                                          · exact absurd c_46_6 (by decide)
                                        · exact absurd c_16_6 (by decide)
                                    · exact absurd c_46_5 (by decide)
                                  · exact absurd c_16_5 (by decide)
                              · exact absurd c_46_4 (by decide)
                            · exact absurd c_16_4 (by decide)
                        · exact absurd c_46_3 (by decide)
                      · exact absurd c_16_3 (by decide)
                  · exact absurd c_46_2 (by decide)
                · exact absurd c_16_2 (by decide)
            · exact absurd c_46_1 (by decide)
          · exact absurd c_16_1 (by decide)
      · exact absurd c_46 (by decide)
    · refine lv_aload_n hx hb dX11_take_19 rfl (lv_at hl 2 rfl) ?_
      refine k_mgi (v := nI a) C G 16 (by decide) mr_16 ha fl_X11_179 rfl dX11_take_20 ?_
      refine lv_aload_n hx hb dX11_take_23 rfl (lv_at hl 2 rfl) ?_
      refine k_mgi (v := nI en) C G 17 (by decide) mr_17 hen fl_X11_182 rfl dX11_take_24 ?_
      refine lv_icmp_ge (tgt := 34) hx hb dX11_take_27 (by decide) (fun c_27 => ?_) (fun c_27 => ?_)
      · have n_27 := nb_le (a := en) (b := a) c_27 (by omega) (by omega)
        refine lv_iconst (v := 0) hx hb dX11_take_34 (by decide) ?_
        refine k_mpi (v := 0) (ty := .boolean) C G 18 (by decide) mr_18 fl_X11_175 rfl rfl rfl rfl rfl dX11_take_35 (fun H locs (G : wd Z A s (mdW Z h ad (upd iv 18 0) av) H locs) => ?_)
        refine lv_lload_n hx hb dX11_take_38 rfl (lv_at hl 1 rfl) ?_
        refine lv_bipush (v := 8) hx hb dX11_take_39 (by decide) ?_
        refine lv_lshl (v := 0 <<< ((8 : Int32).toInt64 &&& 63)) hx hb dX11_take_41 rfl ?_
        refine lv_aload_n hx hb dX11_take_42 rfl (lv_at hl 2 rfl) ?_
        refine k_mgi (v := 0) C G 18 (by decide) mr_18 rfl fl_X11_175 rfl dX11_take_43 ?_
        refine lv_if_eq (tgt := 66) hx hb dX11_take_46 (by decide) (fun c_46 => ?_) (fun c_46 => ?_)
        · have n_46 := nb_eq (a := 0) (b := 0) c_46 (by omega) (by omega)
          refine lv_lconst (v := 0) hx hb dX11_take_66 (by decide) ?_
          refine lv_lor hx hb dX11_take_67 ?_
          refine lv_lstore_n (lv' := [(2, .long ((0 <<< ((8 : Int32).toInt64 &&& 63)) ||| 0)), (4, .int 0), (0, .ref h), (1, .int 8)]) hx hb dX11_take_68 rfl hl (by decide) rfl (fun ls hl => ?_)
          refine lv_aload_n hx hb dX11_take_69 rfl (lv_at hl 2 rfl) ?_
          refine lv_dup hx hb dX11_take_70 rfl ?_
          refine k_mgi (v := nI a) C G 16 (by decide) mr_16 ha fl_X11_179 rfl dX11_take_71 ?_
          refine lv_iconst (v := 1) hx hb dX11_take_74 (by decide) ?_
          refine lv_iadd hx hb dX11_take_75 ?_
          refine k_topi (y := nI (a + 1)) (nI_add a 1) ?_
          refine k_mpi (v := nI (a + 1)) (ty := .int) C G 16 (by decide) mr_16 fl_X11_179 rfl rfl rfl rfl rfl dX11_take_76 (fun H locs (G : wd Z A s (mdW Z h ad (upd (upd iv 18 0) 16 (nI (a + 1))) av) H locs) => ?_)
          refine lv_iinc (v := 1) (lv' := [(4, .int 1), (2, .long ((0 <<< ((8 : Int32).toInt64 &&& 63)) ||| 0)), (0, .ref h), (1, .int 8)]) hx hb dX11_take_79 hl (k := 1) rfl (by decide) (by decide) rfl (fun ls hl => ?_)
          refine lv_goto (tgt := 5) hx hb dX11_take_82 (by decide) ?_
          refine lv_iload hx hb dX11_take_5 (lv_at hl 0 rfl) ?_
          refine lv_iload_n hx hb dX11_take_7 rfl (lv_at hl 3 rfl) ?_
          refine lv_icmp_ge (tgt := 85) hx hb dX11_take_8 (by decide) (fun c_8_1 => ?_) (fun c_8_1 => ?_)
          · exact absurd c_8_1 (by decide)
          · have n_8_1 := nb_nle (a := 8) (b := 1) c_8_1 (by omega) (by omega)
            refine lv_aload_n hx hb dX11_take_11 rfl (lv_at hl 2 rfl) ?_
            refine lv_aload_n hx hb dX11_take_12 rfl (lv_at hl 2 rfl) ?_
            refine k_mgi (v := 0) C G 18 (by decide) mr_18 rfl fl_X11_175 rfl dX11_take_13 ?_
            refine lv_if_eq (tgt := 34) hx hb dX11_take_16 (by decide) (fun c_16_1 => ?_) (fun c_16_1 => ?_)
            · have n_16_1 := nb_eq (a := 0) (b := 0) c_16_1 (by omega) (by omega)
              refine lv_iconst (v := 0) hx hb dX11_take_34 (by decide) ?_
              refine k_mpi (v := 0) (ty := .boolean) C G 18 (by decide) mr_18 fl_X11_175 rfl rfl rfl rfl rfl dX11_take_35 (fun H locs (G : wd Z A s (mdW Z h ad (upd (upd (upd iv 18 0) 16 (nI (a + 1))) 18 0) av) H locs) => ?_)
              refine lv_lload_n hx hb dX11_take_38 rfl (lv_at hl 1 rfl) ?_
              refine lv_bipush (v := 8) hx hb dX11_take_39 (by decide) ?_
              refine lv_lshl (v := ((0 <<< ((8 : Int32).toInt64 &&& 63)) ||| 0) <<< ((8 : Int32).toInt64 &&& 63)) hx hb dX11_take_41 rfl ?_
              refine lv_aload_n hx hb dX11_take_42 rfl (lv_at hl 2 rfl) ?_
              refine k_mgi (v := 0) C G 18 (by decide) mr_18 rfl fl_X11_175 rfl dX11_take_43 ?_
              refine lv_if_eq (tgt := 66) hx hb dX11_take_46 (by decide) (fun c_46_1 => ?_) (fun c_46_1 => ?_)
              · have n_46_1 := nb_eq (a := 0) (b := 0) c_46_1 (by omega) (by omega)
                refine lv_lconst (v := 0) hx hb dX11_take_66 (by decide) ?_
                refine lv_lor hx hb dX11_take_67 ?_
                refine lv_lstore_n (lv' := [(2, .long ((((0 <<< ((8 : Int32).toInt64 &&& 63)) ||| 0) <<< ((8 : Int32).toInt64 &&& 63)) ||| 0)), (4, .int 1), (0, .ref h), (1, .int 8)]) hx hb dX11_take_68 rfl hl (by decide) rfl (fun ls hl => ?_)
                refine lv_aload_n hx hb dX11_take_69 rfl (lv_at hl 2 rfl) ?_
                refine lv_dup hx hb dX11_take_70 rfl ?_
                refine k_mgi (v := nI (a + 1)) C G 16 (by decide) mr_16 rfl fl_X11_179 rfl dX11_take_71 ?_
                refine lv_iconst (v := 1) hx hb dX11_take_74 (by decide) ?_
                refine lv_iadd hx hb dX11_take_75 ?_
                refine k_topi (y := nI (a + 1 + 1)) (nI_add (a + 1) 1) ?_
                refine k_mpi (v := nI (a + 1 + 1)) (ty := .int) C G 16 (by decide) mr_16 fl_X11_179 rfl rfl rfl rfl rfl dX11_take_76 (fun H locs (G : wd Z A s (mdW Z h ad (upd (upd (upd (upd iv 18 0) 16 (nI (a + 1))) 18 0) 16 (nI (a + 1 + 1))) av) H locs) => ?_)
                refine lv_iinc (v := 2) (lv' := [(4, .int 2), (2, .long ((((0 <<< ((8 : Int32).toInt64 &&& 63)) ||| 0) <<< ((8 : Int32).toInt64 &&& 63)) ||| 0)), (0, .ref h), (1, .int 8)]) hx hb dX11_take_79 hl (k := 1) rfl (by decide) (by decide) rfl (fun ls hl => ?_)
                refine lv_goto (tgt := 5) hx hb dX11_take_82 (by decide) ?_
                refine lv_iload hx hb dX11_take_5 (lv_at hl 0 rfl) ?_
                refine lv_iload_n hx hb dX11_take_7 rfl (lv_at hl 3 rfl) ?_
                refine lv_icmp_ge (tgt := 85) hx hb dX11_take_8 (by decide) (fun c_8_2 => ?_) (fun c_8_2 => ?_)
                · exact absurd c_8_2 (by decide)
                · have n_8_2 := nb_nle (a := 8) (b := 2) c_8_2 (by omega) (by omega)
                  refine lv_aload_n hx hb dX11_take_11 rfl (lv_at hl 2 rfl) ?_
                  refine lv_aload_n hx hb dX11_take_12 rfl (lv_at hl 2 rfl) ?_
                  refine k_mgi (v := 0) C G 18 (by decide) mr_18 rfl fl_X11_175 rfl dX11_take_13 ?_
                  refine lv_if_eq (tgt := 34) hx hb dX11_take_16 (by decide) (fun c_16_2 => ?_) (fun c_16_2 => ?_)
                  · have n_16_2 := nb_eq (a := 0) (b := 0) c_16_2 (by omega) (by omega)
                    refine lv_iconst (v := 0) hx hb dX11_take_34 (by decide) ?_
                    refine k_mpi (v := 0) (ty := .boolean) C G 18 (by decide) mr_18 fl_X11_175 rfl rfl rfl rfl rfl dX11_take_35 (fun H locs (G : wd Z A s (mdW Z h ad (upd (upd (upd (upd (upd iv 18 0) 16 (nI (a + 1))) 18 0) 16 (nI (a + 1 + 1))) 18 0) av) H locs) => ?_)
                    refine lv_lload_n hx hb dX11_take_38 rfl (lv_at hl 1 rfl) ?_
                    refine lv_bipush (v := 8) hx hb dX11_take_39 (by decide) ?_
                    refine lv_lshl (v := ((((0 <<< ((8 : Int32).toInt64 &&& 63)) ||| 0) <<< ((8 : Int32).toInt64 &&& 63)) ||| 0) <<< ((8 : Int32).toInt64 &&& 63)) hx hb dX11_take_41 rfl ?_
                    refine lv_aload_n hx hb dX11_take_42 rfl (lv_at hl 2 rfl) ?_
                    refine k_mgi (v := 0) C G 18 (by decide) mr_18 rfl fl_X11_175 rfl dX11_take_43 ?_
                    refine lv_if_eq (tgt := 66) hx hb dX11_take_46 (by decide) (fun c_46_2 => ?_) (fun c_46_2 => ?_)
                    · have n_46_2 := nb_eq (a := 0) (b := 0) c_46_2 (by omega) (by omega)
                      refine lv_lconst (v := 0) hx hb dX11_take_66 (by decide) ?_
                      refine lv_lor hx hb dX11_take_67 ?_
                      refine lv_lstore_n (lv' := [(2, .long ((((((0 <<< ((8 : Int32).toInt64 &&& 63)) ||| 0) <<< ((8 : Int32).toInt64 &&& 63)) ||| 0) <<< ((8 : Int32).toInt64 &&& 63)) ||| 0)), (4, .int 2), (0, .ref h), (1, .int 8)]) hx hb dX11_take_68 rfl hl (by decide) rfl (fun ls hl => ?_)
                      refine lv_aload_n hx hb dX11_take_69 rfl (lv_at hl 2 rfl) ?_
                      refine lv_dup hx hb dX11_take_70 rfl ?_
                      refine k_mgi (v := nI (a + 1 + 1)) C G 16 (by decide) mr_16 rfl fl_X11_179 rfl dX11_take_71 ?_
                      refine lv_iconst (v := 1) hx hb dX11_take_74 (by decide) ?_
                      refine lv_iadd hx hb dX11_take_75 ?_
                      refine k_topi (y := nI (a + 1 + 1 + 1)) (nI_add (a + 1 + 1) 1) ?_
                      refine k_mpi (v := nI (a + 1 + 1 + 1)) (ty := .int) C G 16 (by decide) mr_16 fl_X11_179 rfl rfl rfl rfl rfl dX11_take_76 (fun H locs (G : wd Z A s (mdW Z h ad (upd (upd (upd (upd (upd (upd iv 18 0) 16 (nI (a + 1))) 18 0) 16 (nI (a + 1 + 1))) 18 0) 16 (nI (a + 1 + 1 + 1))) av) H locs) => ?_)
                      refine lv_iinc (v := 3) (lv' := [(4, .int 3), (2, .long ((((((0 <<< ((8 : Int32).toInt64 &&& 63)) ||| 0) <<< ((8 : Int32).toInt64 &&& 63)) ||| 0) <<< ((8 : Int32).toInt64 &&& 63)) ||| 0)), (0, .ref h), (1, .int 8)]) hx hb dX11_take_79 hl (k := 1) rfl (by decide) (by decide) rfl (fun ls hl => ?_)
                      refine lv_goto (tgt := 5) hx hb dX11_take_82 (by decide) ?_
                      refine lv_iload hx hb dX11_take_5 (lv_at hl 0 rfl) ?_
                      refine lv_iload_n hx hb dX11_take_7 rfl (lv_at hl 3 rfl) ?_
                      refine lv_icmp_ge (tgt := 85) hx hb dX11_take_8 (by decide) (fun c_8_3 => ?_) (fun c_8_3 => ?_)
                      · exact absurd c_8_3 (by decide)
                      · have n_8_3 := nb_nle (a := 8) (b := 3) c_8_3 (by omega) (by omega)
                        refine lv_aload_n hx hb dX11_take_11 rfl (lv_at hl 2 rfl) ?_
                        refine lv_aload_n hx hb dX11_take_12 rfl (lv_at hl 2 rfl) ?_
                        refine k_mgi (v := 0) C G 18 (by decide) mr_18 rfl fl_X11_175 rfl dX11_take_13 ?_
                        refine lv_if_eq (tgt := 34) hx hb dX11_take_16 (by decide) (fun c_16_3 => ?_) (fun c_16_3 => ?_)
                        · have n_16_3 := nb_eq (a := 0) (b := 0) c_16_3 (by omega) (by omega)
                          refine lv_iconst (v := 0) hx hb dX11_take_34 (by decide) ?_
                          refine k_mpi (v := 0) (ty := .boolean) C G 18 (by decide) mr_18 fl_X11_175 rfl rfl rfl rfl rfl dX11_take_35 (fun H locs (G : wd Z A s (mdW Z h ad (upd (upd (upd (upd (upd (upd (upd iv 18 0) 16 (nI (a + 1))) 18 0) 16 (nI (a + 1 + 1))) 18 0) 16 (nI (a + 1 + 1 + 1))) 18 0) av) H locs) => ?_)
                          refine lv_lload_n hx hb dX11_take_38 rfl (lv_at hl 1 rfl) ?_
                          refine lv_bipush (v := 8) hx hb dX11_take_39 (by decide) ?_
                          refine lv_lshl (v := ((((((0 <<< ((8 : Int32).toInt64 &&& 63)) ||| 0) <<< ((8 : Int32).toInt64 &&& 63)) ||| 0) <<< ((8 : Int32).toInt64 &&& 63)) ||| 0) <<< ((8 : Int32).toInt64 &&& 63)) hx hb dX11_take_41 rfl ?_
                          refine lv_aload_n hx hb dX11_take_42 rfl (lv_at hl 2 rfl) ?_
                          refine k_mgi (v := 0) C G 18 (by decide) mr_18 rfl fl_X11_175 rfl dX11_take_43 ?_
                          refine lv_if_eq (tgt := 66) hx hb dX11_take_46 (by decide) (fun c_46_3 => ?_) (fun c_46_3 => ?_)
                          · have n_46_3 := nb_eq (a := 0) (b := 0) c_46_3 (by omega) (by omega)
                            refine lv_lconst (v := 0) hx hb dX11_take_66 (by decide) ?_
                            refine lv_lor hx hb dX11_take_67 ?_
                            refine lv_lstore_n (lv' := [(2, .long ((((((((0 <<< ((8 : Int32).toInt64 &&& 63)) ||| 0) <<< ((8 : Int32).toInt64 &&& 63)) ||| 0) <<< ((8 : Int32).toInt64 &&& 63)) ||| 0) <<< ((8 : Int32).toInt64 &&& 63)) ||| 0)), (4, .int 3), (0, .ref h), (1, .int 8)]) hx hb dX11_take_68 rfl hl (by decide) rfl (fun ls hl => ?_)
                            refine lv_aload_n hx hb dX11_take_69 rfl (lv_at hl 2 rfl) ?_
                            refine lv_dup hx hb dX11_take_70 rfl ?_
                            refine k_mgi (v := nI (a + 1 + 1 + 1)) C G 16 (by decide) mr_16 rfl fl_X11_179 rfl dX11_take_71 ?_
                            refine lv_iconst (v := 1) hx hb dX11_take_74 (by decide) ?_
                            refine lv_iadd hx hb dX11_take_75 ?_
                            refine k_topi (y := nI (a + 1 + 1 + 1 + 1)) (nI_add (a + 1 + 1 + 1) 1) ?_
                            refine k_mpi (v := nI (a + 1 + 1 + 1 + 1)) (ty := .int) C G 16 (by decide) mr_16 fl_X11_179 rfl rfl rfl rfl rfl dX11_take_76 (fun H locs (G : wd Z A s (mdW Z h ad (upd (upd (upd (upd (upd (upd (upd (upd iv 18 0) 16 (nI (a + 1))) 18 0) 16 (nI (a + 1 + 1))) 18 0) 16 (nI (a + 1 + 1 + 1))) 18 0) 16 (nI (a + 1 + 1 + 1 + 1))) av) H locs) => ?_)
                            refine lv_iinc (v := 4) (lv' := [(4, .int 4), (2, .long ((((((((0 <<< ((8 : Int32).toInt64 &&& 63)) ||| 0) <<< ((8 : Int32).toInt64 &&& 63)) ||| 0) <<< ((8 : Int32).toInt64 &&& 63)) ||| 0) <<< ((8 : Int32).toInt64 &&& 63)) ||| 0)), (0, .ref h), (1, .int 8)]) hx hb dX11_take_79 hl (k := 1) rfl (by decide) (by decide) rfl (fun ls hl => ?_)
                            refine lv_goto (tgt := 5) hx hb dX11_take_82 (by decide) ?_
                            refine lv_iload hx hb dX11_take_5 (lv_at hl 0 rfl) ?_
                            refine lv_iload_n hx hb dX11_take_7 rfl (lv_at hl 3 rfl) ?_
                            refine lv_icmp_ge (tgt := 85) hx hb dX11_take_8 (by decide) (fun c_8_4 => ?_) (fun c_8_4 => ?_)
                            · exact absurd c_8_4 (by decide)
                            · have n_8_4 := nb_nle (a := 8) (b := 4) c_8_4 (by omega) (by omega)
                              refine lv_aload_n hx hb dX11_take_11 rfl (lv_at hl 2 rfl) ?_
                              refine lv_aload_n hx hb dX11_take_12 rfl (lv_at hl 2 rfl) ?_
                              refine k_mgi (v := 0) C G 18 (by decide) mr_18 rfl fl_X11_175 rfl dX11_take_13 ?_
                              refine lv_if_eq (tgt := 34) hx hb dX11_take_16 (by decide) (fun c_16_4 => ?_) (fun c_16_4 => ?_)
                              · have n_16_4 := nb_eq (a := 0) (b := 0) c_16_4 (by omega) (by omega)
                                refine lv_iconst (v := 0) hx hb dX11_take_34 (by decide) ?_
                                refine k_mpi (v := 0) (ty := .boolean) C G 18 (by decide) mr_18 fl_X11_175 rfl rfl rfl rfl rfl dX11_take_35 (fun H locs (G : wd Z A s (mdW Z h ad (upd (upd (upd (upd (upd (upd (upd (upd (upd iv 18 0) 16 (nI (a + 1))) 18 0) 16 (nI (a + 1 + 1))) 18 0) 16 (nI (a + 1 + 1 + 1))) 18 0) 16 (nI (a + 1 + 1 + 1 + 1))) 18 0) av) H locs) => ?_)
                                refine lv_lload_n hx hb dX11_take_38 rfl (lv_at hl 1 rfl) ?_
                                refine lv_bipush (v := 8) hx hb dX11_take_39 (by decide) ?_
                                refine lv_lshl (v := ((((((((0 <<< ((8 : Int32).toInt64 &&& 63)) ||| 0) <<< ((8 : Int32).toInt64 &&& 63)) ||| 0) <<< ((8 : Int32).toInt64 &&& 63)) ||| 0) <<< ((8 : Int32).toInt64 &&& 63)) ||| 0) <<< ((8 : Int32).toInt64 &&& 63)) hx hb dX11_take_41 rfl ?_
                                refine lv_aload_n hx hb dX11_take_42 rfl (lv_at hl 2 rfl) ?_
                                refine k_mgi (v := 0) C G 18 (by decide) mr_18 rfl fl_X11_175 rfl dX11_take_43 ?_
                                refine lv_if_eq (tgt := 66) hx hb dX11_take_46 (by decide) (fun c_46_4 => ?_) (fun c_46_4 => ?_)
                                · have n_46_4 := nb_eq (a := 0) (b := 0) c_46_4 (by omega) (by omega)
                                  refine lv_lconst (v := 0) hx hb dX11_take_66 (by decide) ?_
                                  refine lv_lor hx hb dX11_take_67 ?_
                                  refine lv_lstore_n (lv' := [(2, .long ((((((((((0 <<< ((8 : Int32).toInt64 &&& 63)) ||| 0) <<< ((8 : Int32).toInt64 &&& 63)) ||| 0) <<< ((8 : Int32).toInt64 &&& 63)) ||| 0) <<< ((8 : Int32).toInt64 &&& 63)) ||| 0) <<< ((8 : Int32).toInt64 &&& 63)) ||| 0)), (4, .int 4), (0, .ref h), (1, .int 8)]) hx hb dX11_take_68 rfl hl (by decide) rfl (fun ls hl => ?_)
                                  refine lv_aload_n hx hb dX11_take_69 rfl (lv_at hl 2 rfl) ?_
                                  refine lv_dup hx hb dX11_take_70 rfl ?_
                                  refine k_mgi (v := nI (a + 1 + 1 + 1 + 1)) C G 16 (by decide) mr_16 rfl fl_X11_179 rfl dX11_take_71 ?_
                                  refine lv_iconst (v := 1) hx hb dX11_take_74 (by decide) ?_
                                  refine lv_iadd hx hb dX11_take_75 ?_
                                  refine k_topi (y := nI (a + 1 + 1 + 1 + 1 + 1)) (nI_add (a + 1 + 1 + 1 + 1) 1) ?_
                                  refine k_mpi (v := nI (a + 1 + 1 + 1 + 1 + 1)) (ty := .int) C G 16 (by decide) mr_16 fl_X11_179 rfl rfl rfl rfl rfl dX11_take_76 (fun H locs (G : wd Z A s (mdW Z h ad (upd (upd (upd (upd (upd (upd (upd (upd (upd (upd iv 18 0) 16 (nI (a + 1))) 18 0) 16 (nI (a + 1 + 1))) 18 0) 16 (nI (a + 1 + 1 + 1))) 18 0) 16 (nI (a + 1 + 1 + 1 + 1))) 18 0) 16 (nI (a + 1 + 1 + 1 + 1 + 1))) av) H locs) => ?_)
                                  refine lv_iinc (v := 5) (lv' := [(4, .int 5), (2, .long ((((((((((0 <<< ((8 : Int32).toInt64 &&& 63)) ||| 0) <<< ((8 : Int32).toInt64 &&& 63)) ||| 0) <<< ((8 : Int32).toInt64 &&& 63)) ||| 0) <<< ((8 : Int32).toInt64 &&& 63)) ||| 0) <<< ((8 : Int32).toInt64 &&& 63)) ||| 0)), (0, .ref h), (1, .int 8)]) hx hb dX11_take_79 hl (k := 1) rfl (by decide) (by decide) rfl (fun ls hl => ?_)
                                  refine lv_goto (tgt := 5) hx hb dX11_take_82 (by decide) ?_
                                  refine lv_iload hx hb dX11_take_5 (lv_at hl 0 rfl) ?_
                                  refine lv_iload_n hx hb dX11_take_7 rfl (lv_at hl 3 rfl) ?_
                                  refine lv_icmp_ge (tgt := 85) hx hb dX11_take_8 (by decide) (fun c_8_5 => ?_) (fun c_8_5 => ?_)
                                  · exact absurd c_8_5 (by decide)
                                  · have n_8_5 := nb_nle (a := 8) (b := 5) c_8_5 (by omega) (by omega)
                                    refine lv_aload_n hx hb dX11_take_11 rfl (lv_at hl 2 rfl) ?_
                                    refine lv_aload_n hx hb dX11_take_12 rfl (lv_at hl 2 rfl) ?_
                                    refine k_mgi (v := 0) C G 18 (by decide) mr_18 rfl fl_X11_175 rfl dX11_take_13 ?_
                                    refine lv_if_eq (tgt := 34) hx hb dX11_take_16 (by decide) (fun c_16_5 => ?_) (fun c_16_5 => ?_)
                                    · have n_16_5 := nb_eq (a := 0) (b := 0) c_16_5 (by omega) (by omega)
                                      refine lv_iconst (v := 0) hx hb dX11_take_34 (by decide) ?_
                                      refine k_mpi (v := 0) (ty := .boolean) C G 18 (by decide) mr_18 fl_X11_175 rfl rfl rfl rfl rfl dX11_take_35 (fun H locs (G : wd Z A s (mdW Z h ad (upd (upd (upd (upd (upd (upd (upd (upd (upd (upd (upd iv 18 0) 16 (nI (a + 1))) 18 0) 16 (nI (a + 1 + 1))) 18 0) 16 (nI (a + 1 + 1 + 1))) 18 0) 16 (nI (a + 1 + 1 + 1 + 1))) 18 0) 16 (nI (a + 1 + 1 + 1 + 1 + 1))) 18 0) av) H locs) => ?_)
                                      refine lv_lload_n hx hb dX11_take_38 rfl (lv_at hl 1 rfl) ?_
                                      refine lv_bipush (v := 8) hx hb dX11_take_39 (by decide) ?_
                                      refine lv_lshl (v := ((((((((((0 <<< ((8 : Int32).toInt64 &&& 63)) ||| 0) <<< ((8 : Int32).toInt64 &&& 63)) ||| 0) <<< ((8 : Int32).toInt64 &&& 63)) ||| 0) <<< ((8 : Int32).toInt64 &&& 63)) ||| 0) <<< ((8 : Int32).toInt64 &&& 63)) ||| 0) <<< ((8 : Int32).toInt64 &&& 63)) hx hb dX11_take_41 rfl ?_
                                      refine lv_aload_n hx hb dX11_take_42 rfl (lv_at hl 2 rfl) ?_
                                      refine k_mgi (v := 0) C G 18 (by decide) mr_18 rfl fl_X11_175 rfl dX11_take_43 ?_
                                      refine lv_if_eq (tgt := 66) hx hb dX11_take_46 (by decide) (fun c_46_5 => ?_) (fun c_46_5 => ?_)
                                      · have n_46_5 := nb_eq (a := 0) (b := 0) c_46_5 (by omega) (by omega)
                                        refine lv_lconst (v := 0) hx hb dX11_take_66 (by decide) ?_
                                        refine lv_lor hx hb dX11_take_67 ?_
                                        refine lv_lstore_n (lv' := [(2, .long ((((((((((((0 <<< ((8 : Int32).toInt64 &&& 63)) ||| 0) <<< ((8 : Int32).toInt64 &&& 63)) ||| 0) <<< ((8 : Int32).toInt64 &&& 63)) ||| 0) <<< ((8 : Int32).toInt64 &&& 63)) ||| 0) <<< ((8 : Int32).toInt64 &&& 63)) ||| 0) <<< ((8 : Int32).toInt64 &&& 63)) ||| 0)), (4, .int 5), (0, .ref h), (1, .int 8)]) hx hb dX11_take_68 rfl hl (by decide) rfl (fun ls hl => ?_)
                                        refine lv_aload_n hx hb dX11_take_69 rfl (lv_at hl 2 rfl) ?_
                                        refine lv_dup hx hb dX11_take_70 rfl ?_
                                        refine k_mgi (v := nI (a + 1 + 1 + 1 + 1 + 1)) C G 16 (by decide) mr_16 rfl fl_X11_179 rfl dX11_take_71 ?_
                                        refine lv_iconst (v := 1) hx hb dX11_take_74 (by decide) ?_
                                        refine lv_iadd hx hb dX11_take_75 ?_
                                        refine k_topi (y := nI (a + 1 + 1 + 1 + 1 + 1 + 1)) (nI_add (a + 1 + 1 + 1 + 1 + 1) 1) ?_
                                        refine k_mpi (v := nI (a + 1 + 1 + 1 + 1 + 1 + 1)) (ty := .int) C G 16 (by decide) mr_16 fl_X11_179 rfl rfl rfl rfl rfl dX11_take_76 (fun H locs (G : wd Z A s (mdW Z h ad (upd (upd (upd (upd (upd (upd (upd (upd (upd (upd (upd (upd iv 18 0) 16 (nI (a + 1))) 18 0) 16 (nI (a + 1 + 1))) 18 0) 16 (nI (a + 1 + 1 + 1))) 18 0) 16 (nI (a + 1 + 1 + 1 + 1))) 18 0) 16 (nI (a + 1 + 1 + 1 + 1 + 1))) 18 0) 16 (nI (a + 1 + 1 + 1 + 1 + 1 + 1))) av) H locs) => ?_)
                                        refine lv_iinc (v := 6) (lv' := [(4, .int 6), (2, .long ((((((((((((0 <<< ((8 : Int32).toInt64 &&& 63)) ||| 0) <<< ((8 : Int32).toInt64 &&& 63)) ||| 0) <<< ((8 : Int32).toInt64 &&& 63)) ||| 0) <<< ((8 : Int32).toInt64 &&& 63)) ||| 0) <<< ((8 : Int32).toInt64 &&& 63)) ||| 0) <<< ((8 : Int32).toInt64 &&& 63)) ||| 0)), (0, .ref h), (1, .int 8)]) hx hb dX11_take_79 hl (k := 1) rfl (by decide) (by decide) rfl (fun ls hl => ?_)
                                        refine lv_goto (tgt := 5) hx hb dX11_take_82 (by decide) ?_
                                        refine lv_iload hx hb dX11_take_5 (lv_at hl 0 rfl) ?_
                                        refine lv_iload_n hx hb dX11_take_7 rfl (lv_at hl 3 rfl) ?_
                                        refine lv_icmp_ge (tgt := 85) hx hb dX11_take_8 (by decide) (fun c_8_6 => ?_) (fun c_8_6 => ?_)
                                        · exact absurd c_8_6 (by decide)
                                        · have n_8_6 := nb_nle (a := 8) (b := 6) c_8_6 (by omega) (by omega)
                                          refine lv_aload_n hx hb dX11_take_11 rfl (lv_at hl 2 rfl) ?_
                                          refine lv_aload_n hx hb dX11_take_12 rfl (lv_at hl 2 rfl) ?_
                                          refine k_mgi (v := 0) C G 18 (by decide) mr_18 rfl fl_X11_175 rfl dX11_take_13 ?_
                                          refine lv_if_eq (tgt := 34) hx hb dX11_take_16 (by decide) (fun c_16_6 => ?_) (fun c_16_6 => ?_)
                                          · have n_16_6 := nb_eq (a := 0) (b := 0) c_16_6 (by omega) (by omega)
                                            refine lv_iconst (v := 0) hx hb dX11_take_34 (by decide) ?_
                                            refine k_mpi (v := 0) (ty := .boolean) C G 18 (by decide) mr_18 fl_X11_175 rfl rfl rfl rfl rfl dX11_take_35 (fun H locs (G : wd Z A s (mdW Z h ad (upd (upd (upd (upd (upd (upd (upd (upd (upd (upd (upd (upd (upd iv 18 0) 16 (nI (a + 1))) 18 0) 16 (nI (a + 1 + 1))) 18 0) 16 (nI (a + 1 + 1 + 1))) 18 0) 16 (nI (a + 1 + 1 + 1 + 1))) 18 0) 16 (nI (a + 1 + 1 + 1 + 1 + 1))) 18 0) 16 (nI (a + 1 + 1 + 1 + 1 + 1 + 1))) 18 0) av) H locs) => ?_)
                                            refine lv_lload_n hx hb dX11_take_38 rfl (lv_at hl 1 rfl) ?_
                                            refine lv_bipush (v := 8) hx hb dX11_take_39 (by decide) ?_
                                            refine lv_lshl (v := ((((((((((((0 <<< ((8 : Int32).toInt64 &&& 63)) ||| 0) <<< ((8 : Int32).toInt64 &&& 63)) ||| 0) <<< ((8 : Int32).toInt64 &&& 63)) ||| 0) <<< ((8 : Int32).toInt64 &&& 63)) ||| 0) <<< ((8 : Int32).toInt64 &&& 63)) ||| 0) <<< ((8 : Int32).toInt64 &&& 63)) ||| 0) <<< ((8 : Int32).toInt64 &&& 63)) hx hb dX11_take_41 rfl ?_
                                            refine lv_aload_n hx hb dX11_take_42 rfl (lv_at hl 2 rfl) ?_
                                            refine k_mgi (v := 0) C G 18 (by decide) mr_18 rfl fl_X11_175 rfl dX11_take_43 ?_
                                            refine lv_if_eq (tgt := 66) hx hb dX11_take_46 (by decide) (fun c_46_6 => ?_) (fun c_46_6 => ?_)
                                            · have n_46_6 := nb_eq (a := 0) (b := 0) c_46_6 (by omega) (by omega)
                                              refine lv_lconst (v := 0) hx hb dX11_take_66 (by decide) ?_
                                              refine lv_lor hx hb dX11_take_67 ?_
                                              refine lv_lstore_n (lv' := [(2, .long ((((((((((((((0 <<< ((8 : Int32).toInt64 &&& 63)) ||| 0) <<< ((8 : Int32).toInt64 &&& 63)) ||| 0) <<< ((8 : Int32).toInt64 &&& 63)) ||| 0) <<< ((8 : Int32).toInt64 &&& 63)) ||| 0) <<< ((8 : Int32).toInt64 &&& 63)) ||| 0) <<< ((8 : Int32).toInt64 &&& 63)) ||| 0) <<< ((8 : Int32).toInt64 &&& 63)) ||| 0)), (4, .int 6), (0, .ref h), (1, .int 8)]) hx hb dX11_take_68 rfl hl (by decide) rfl (fun ls hl => ?_)
                                              refine lv_aload_n hx hb dX11_take_69 rfl (lv_at hl 2 rfl) ?_
                                              refine lv_dup hx hb dX11_take_70 rfl ?_
                                              refine k_mgi (v := nI (a + 1 + 1 + 1 + 1 + 1 + 1)) C G 16 (by decide) mr_16 rfl fl_X11_179 rfl dX11_take_71 ?_
                                              refine lv_iconst (v := 1) hx hb dX11_take_74 (by decide) ?_
                                              refine lv_iadd hx hb dX11_take_75 ?_
                                              refine k_topi (y := nI (a + 1 + 1 + 1 + 1 + 1 + 1 + 1)) (nI_add (a + 1 + 1 + 1 + 1 + 1 + 1) 1) ?_
                                              refine k_mpi (v := nI (a + 1 + 1 + 1 + 1 + 1 + 1 + 1)) (ty := .int) C G 16 (by decide) mr_16 fl_X11_179 rfl rfl rfl rfl rfl dX11_take_76 (fun H locs (G : wd Z A s (mdW Z h ad (upd (upd (upd (upd (upd (upd (upd (upd (upd (upd (upd (upd (upd (upd iv 18 0) 16 (nI (a + 1))) 18 0) 16 (nI (a + 1 + 1))) 18 0) 16 (nI (a + 1 + 1 + 1))) 18 0) 16 (nI (a + 1 + 1 + 1 + 1))) 18 0) 16 (nI (a + 1 + 1 + 1 + 1 + 1))) 18 0) 16 (nI (a + 1 + 1 + 1 + 1 + 1 + 1))) 18 0) 16 (nI (a + 1 + 1 + 1 + 1 + 1 + 1 + 1))) av) H locs) => ?_)
                                              refine lv_iinc (v := 7) (lv' := [(4, .int 7), (2, .long ((((((((((((((0 <<< ((8 : Int32).toInt64 &&& 63)) ||| 0) <<< ((8 : Int32).toInt64 &&& 63)) ||| 0) <<< ((8 : Int32).toInt64 &&& 63)) ||| 0) <<< ((8 : Int32).toInt64 &&& 63)) ||| 0) <<< ((8 : Int32).toInt64 &&& 63)) ||| 0) <<< ((8 : Int32).toInt64 &&& 63)) ||| 0) <<< ((8 : Int32).toInt64 &&& 63)) ||| 0)), (0, .ref h), (1, .int 8)]) hx hb dX11_take_79 hl (k := 1) rfl (by decide) (by decide) rfl (fun ls hl => ?_)
                                              refine lv_goto (tgt := 5) hx hb dX11_take_82 (by decide) ?_
                                              refine lv_iload hx hb dX11_take_5 (lv_at hl 0 rfl) ?_
                                              refine lv_iload_n hx hb dX11_take_7 rfl (lv_at hl 3 rfl) ?_
                                              refine lv_icmp_ge (tgt := 85) hx hb dX11_take_8 (by decide) (fun c_8_7 => ?_) (fun c_8_7 => ?_)
                                              · exact absurd c_8_7 (by decide)
                                              · have n_8_7 := nb_nle (a := 8) (b := 7) c_8_7 (by omega) (by omega)
                                                refine lv_aload_n hx hb dX11_take_11 rfl (lv_at hl 2 rfl) ?_
                                                refine lv_aload_n hx hb dX11_take_12 rfl (lv_at hl 2 rfl) ?_
                                                refine k_mgi (v := 0) C G 18 (by decide) mr_18 rfl fl_X11_175 rfl dX11_take_13 ?_
                                                refine lv_if_eq (tgt := 34) hx hb dX11_take_16 (by decide) (fun c_16_7 => ?_) (fun c_16_7 => ?_)
                                                · have n_16_7 := nb_eq (a := 0) (b := 0) c_16_7 (by omega) (by omega)
                                                  refine lv_iconst (v := 0) hx hb dX11_take_34 (by decide) ?_
                                                  refine k_mpi (v := 0) (ty := .boolean) C G 18 (by decide) mr_18 fl_X11_175 rfl rfl rfl rfl rfl dX11_take_35 (fun H locs (G : wd Z A s (mdW Z h ad (upd (upd (upd (upd (upd (upd (upd (upd (upd (upd (upd (upd (upd (upd (upd iv 18 0) 16 (nI (a + 1))) 18 0) 16 (nI (a + 1 + 1))) 18 0) 16 (nI (a + 1 + 1 + 1))) 18 0) 16 (nI (a + 1 + 1 + 1 + 1))) 18 0) 16 (nI (a + 1 + 1 + 1 + 1 + 1))) 18 0) 16 (nI (a + 1 + 1 + 1 + 1 + 1 + 1))) 18 0) 16 (nI (a + 1 + 1 + 1 + 1 + 1 + 1 + 1))) 18 0) av) H locs) => ?_)
                                                  refine lv_lload_n hx hb dX11_take_38 rfl (lv_at hl 1 rfl) ?_
                                                  refine lv_bipush (v := 8) hx hb dX11_take_39 (by decide) ?_
                                                  refine lv_lshl (v := ((((((((((((((0 <<< ((8 : Int32).toInt64 &&& 63)) ||| 0) <<< ((8 : Int32).toInt64 &&& 63)) ||| 0) <<< ((8 : Int32).toInt64 &&& 63)) ||| 0) <<< ((8 : Int32).toInt64 &&& 63)) ||| 0) <<< ((8 : Int32).toInt64 &&& 63)) ||| 0) <<< ((8 : Int32).toInt64 &&& 63)) ||| 0) <<< ((8 : Int32).toInt64 &&& 63)) ||| 0) <<< ((8 : Int32).toInt64 &&& 63)) hx hb dX11_take_41 rfl ?_
                                                  refine lv_aload_n hx hb dX11_take_42 rfl (lv_at hl 2 rfl) ?_
                                                  refine k_mgi (v := 0) C G 18 (by decide) mr_18 rfl fl_X11_175 rfl dX11_take_43 ?_
                                                  refine lv_if_eq (tgt := 66) hx hb dX11_take_46 (by decide) (fun c_46_7 => ?_) (fun c_46_7 => ?_)
                                                  · have n_46_7 := nb_eq (a := 0) (b := 0) c_46_7 (by omega) (by omega)
                                                    refine lv_lconst (v := 0) hx hb dX11_take_66 (by decide) ?_
                                                    refine lv_lor hx hb dX11_take_67 ?_
                                                    refine lv_lstore_n (lv' := [(2, .long ((((((((((((((((0 <<< ((8 : Int32).toInt64 &&& 63)) ||| 0) <<< ((8 : Int32).toInt64 &&& 63)) ||| 0) <<< ((8 : Int32).toInt64 &&& 63)) ||| 0) <<< ((8 : Int32).toInt64 &&& 63)) ||| 0) <<< ((8 : Int32).toInt64 &&& 63)) ||| 0) <<< ((8 : Int32).toInt64 &&& 63)) ||| 0) <<< ((8 : Int32).toInt64 &&& 63)) ||| 0) <<< ((8 : Int32).toInt64 &&& 63)) ||| 0)), (4, .int 7), (0, .ref h), (1, .int 8)]) hx hb dX11_take_68 rfl hl (by decide) rfl (fun ls hl => ?_)
                                                    refine lv_aload_n hx hb dX11_take_69 rfl (lv_at hl 2 rfl) ?_
                                                    refine lv_dup hx hb dX11_take_70 rfl ?_
                                                    refine k_mgi (v := nI (a + 1 + 1 + 1 + 1 + 1 + 1 + 1)) C G 16 (by decide) mr_16 rfl fl_X11_179 rfl dX11_take_71 ?_
                                                    refine lv_iconst (v := 1) hx hb dX11_take_74 (by decide) ?_
                                                    refine lv_iadd hx hb dX11_take_75 ?_
                                                    refine k_topi (y := nI (a + 1 + 1 + 1 + 1 + 1 + 1 + 1 + 1)) (nI_add (a + 1 + 1 + 1 + 1 + 1 + 1 + 1) 1) ?_
                                                    refine k_mpi (v := nI (a + 1 + 1 + 1 + 1 + 1 + 1 + 1 + 1)) (ty := .int) C G 16 (by decide) mr_16 fl_X11_179 rfl rfl rfl rfl rfl dX11_take_76 (fun H locs (G : wd Z A s (mdW Z h ad (upd (upd (upd (upd (upd (upd (upd (upd (upd (upd (upd (upd (upd (upd (upd (upd iv 18 0) 16 (nI (a + 1))) 18 0) 16 (nI (a + 1 + 1))) 18 0) 16 (nI (a + 1 + 1 + 1))) 18 0) 16 (nI (a + 1 + 1 + 1 + 1))) 18 0) 16 (nI (a + 1 + 1 + 1 + 1 + 1))) 18 0) 16 (nI (a + 1 + 1 + 1 + 1 + 1 + 1))) 18 0) 16 (nI (a + 1 + 1 + 1 + 1 + 1 + 1 + 1))) 18 0) 16 (nI (a + 1 + 1 + 1 + 1 + 1 + 1 + 1 + 1))) av) H locs) => ?_)
                                                    refine lv_iinc (v := 8) (lv' := [(4, .int 8), (2, .long ((((((((((((((((0 <<< ((8 : Int32).toInt64 &&& 63)) ||| 0) <<< ((8 : Int32).toInt64 &&& 63)) ||| 0) <<< ((8 : Int32).toInt64 &&& 63)) ||| 0) <<< ((8 : Int32).toInt64 &&& 63)) ||| 0) <<< ((8 : Int32).toInt64 &&& 63)) ||| 0) <<< ((8 : Int32).toInt64 &&& 63)) ||| 0) <<< ((8 : Int32).toInt64 &&& 63)) ||| 0) <<< ((8 : Int32).toInt64 &&& 63)) ||| 0)), (0, .ref h), (1, .int 8)]) hx hb dX11_take_79 hl (k := 1) rfl (by decide) (by decide) rfl (fun ls hl => ?_)
                                                    refine lv_goto (tgt := 5) hx hb dX11_take_82 (by decide) ?_
                                                    refine lv_iload hx hb dX11_take_5 (lv_at hl 0 rfl) ?_
                                                    refine lv_iload_n hx hb dX11_take_7 rfl (lv_at hl 3 rfl) ?_
                                                    refine lv_icmp_ge (tgt := 85) hx hb dX11_take_8 (by decide) (fun c_8_8 => ?_) (fun c_8_8 => ?_)
                                                    · have n_8_8 := nb_le (a := 8) (b := 8) c_8_8 (by omega) (by omega)
                                                      refine lv_lload_n hx hb dX11_take_85 rfl (lv_at hl 1 rfl) ?_
                                                      exact kr_l C G ⟨_, rfl, ((((((((((((((((sI.rf.up (by decide) _).up (by decide) _).up (by decide) _).up (by decide) _).up (by decide) _).up (by decide) _).up (by decide) _).up (by decide) _).up (by decide) _).up (by decide) _).up (by decide) _).up (by decide) _).up (by decide) _).up (by decide) _).up (by decide) _).up (by decide) _), rfl, Or.inr ⟨fun z => absurd z.2 (by omega), rfl⟩⟩ (Nat.le_of_ble_eq_true rfl) (Nat.le_of_ble_eq_true rfl) dX11_take_86
                                                    · exact absurd c_8_8 (by decide)
                                                  · exact absurd c_46_7 (by decide)
                                                · exact absurd c_16_7 (by decide)
                                            · exact absurd c_46_6 (by decide)
                                          · exact absurd c_16_6 (by decide)
                                      · exact absurd c_46_5 (by decide)
                                    · exact absurd c_16_5 (by decide)
                                · exact absurd c_46_4 (by decide)
                              · exact absurd c_16_4 (by decide)
                          · exact absurd c_46_3 (by decide)
                        · exact absurd c_16_3 (by decide)
                    · exact absurd c_46_2 (by decide)
                  · exact absurd c_16_2 (by decide)
              · exact absurd c_46_1 (by decide)
            · exact absurd c_16_1 (by decide)
        · exact absurd c_46 (by decide)
      · have n_27 := nb_nle (a := en) (b := a) c_27 (by omega) (by omega)
        refine lv_iconst (v := 1) hx hb dX11_take_30 (by decide) ?_
        refine lv_goto (tgt := 35) hx hb dX11_take_31 (by decide) ?_
        refine k_mpi (v := 1) (ty := .boolean) C G 18 (by decide) mr_18 fl_X11_175 rfl rfl rfl rfl rfl dX11_take_35 (fun H locs (G : wd Z A s (mdW Z h ad (upd iv 18 1) av) H locs) => ?_)
        refine lv_lload_n hx hb dX11_take_38 rfl (lv_at hl 1 rfl) ?_
        refine lv_bipush (v := 8) hx hb dX11_take_39 (by decide) ?_
        refine lv_lshl (v := 0 <<< ((8 : Int32).toInt64 &&& 63)) hx hb dX11_take_41 rfl ?_
        refine lv_aload_n hx hb dX11_take_42 rfl (lv_at hl 2 rfl) ?_
        refine k_mgi (v := 1) C G 18 (by decide) mr_18 rfl fl_X11_175 rfl dX11_take_43 ?_
        refine lv_if_eq (tgt := 66) hx hb dX11_take_46 (by decide) (fun c_46 => ?_) (fun c_46 => ?_)
        · exact absurd c_46 (by decide)
        · have n_46 := nb_ne (a := 1) (b := 0) c_46 (by omega) (by omega)
          refine lv_aload_n hx hb dX11_take_49 rfl (lv_at hl 2 rfl) ?_
          refine k_mga C G 3 (by decide) mr_3 fl_X11_20 rfl dX11_take_50 ?_
          refine lv_aload_n hx hb dX11_take_53 rfl (lv_at hl 2 rfl) ?_
          refine k_mgi (v := nI a) C G 16 (by decide) mr_16 ha fl_X11_179 rfl dX11_take_54 ?_
          refine k_mbl (v := (av 3) a) (i := a) C G 3 (k := 3) (n := 140000) mp_3 (by decide) (by omega) rfl dX11_take_57 ?_
          refine lv_i2l (v := ((av 3) a).toInt64) hx hb dX11_take_58 rfl ?_
          refine lv_ldc2 (v := 255) hx hb hown (hts _ kl_X11_185) dX11_take_59 ?_
          refine lv_land hx hb dX11_take_62 ?_
          refine lv_goto (tgt := 67) hx hb dX11_take_63 (by decide) ?_
          refine lv_lor hx hb dX11_take_67 ?_
          refine lv_lstore_n (lv' := [(2, .long ((0 <<< ((8 : Int32).toInt64 &&& 63)) ||| ((((av 3) a).toInt64) &&& 255))), (4, .int 0), (0, .ref h), (1, .int 8)]) hx hb dX11_take_68 rfl hl (by decide) rfl (fun ls hl => ?_)
          refine lv_aload_n hx hb dX11_take_69 rfl (lv_at hl 2 rfl) ?_
          refine lv_dup hx hb dX11_take_70 rfl ?_
          refine k_mgi (v := nI a) C G 16 (by decide) mr_16 ha fl_X11_179 rfl dX11_take_71 ?_
          refine lv_iconst (v := 1) hx hb dX11_take_74 (by decide) ?_
          refine lv_iadd hx hb dX11_take_75 ?_
          refine k_topi (y := nI (a + 1)) (nI_add a 1) ?_
          refine k_mpi (v := nI (a + 1)) (ty := .int) C G 16 (by decide) mr_16 fl_X11_179 rfl rfl rfl rfl rfl dX11_take_76 (fun H locs (G : wd Z A s (mdW Z h ad (upd (upd iv 18 1) 16 (nI (a + 1))) av) H locs) => ?_)
          refine lv_iinc (v := 1) (lv' := [(4, .int 1), (2, .long ((0 <<< ((8 : Int32).toInt64 &&& 63)) ||| ((((av 3) a).toInt64) &&& 255))), (0, .ref h), (1, .int 8)]) hx hb dX11_take_79 hl (k := 1) rfl (by decide) (by decide) rfl (fun ls hl => ?_)
          refine lv_goto (tgt := 5) hx hb dX11_take_82 (by decide) ?_
          refine lv_iload hx hb dX11_take_5 (lv_at hl 0 rfl) ?_
          refine lv_iload_n hx hb dX11_take_7 rfl (lv_at hl 3 rfl) ?_
          refine lv_icmp_ge (tgt := 85) hx hb dX11_take_8 (by decide) (fun c_8_1 => ?_) (fun c_8_1 => ?_)
          · exact absurd c_8_1 (by decide)
          · have n_8_1 := nb_nle (a := 8) (b := 1) c_8_1 (by omega) (by omega)
            refine lv_aload_n hx hb dX11_take_11 rfl (lv_at hl 2 rfl) ?_
            refine lv_aload_n hx hb dX11_take_12 rfl (lv_at hl 2 rfl) ?_
            refine k_mgi (v := 1) C G 18 (by decide) mr_18 rfl fl_X11_175 rfl dX11_take_13 ?_
            refine lv_if_eq (tgt := 34) hx hb dX11_take_16 (by decide) (fun c_16_1 => ?_) (fun c_16_1 => ?_)
            · exact absurd c_16_1 (by decide)
            · have n_16_1 := nb_ne (a := 1) (b := 0) c_16_1 (by omega) (by omega)
              refine lv_aload_n hx hb dX11_take_19 rfl (lv_at hl 2 rfl) ?_
              refine k_mgi (v := nI (a + 1)) C G 16 (by decide) mr_16 rfl fl_X11_179 rfl dX11_take_20 ?_
              refine lv_aload_n hx hb dX11_take_23 rfl (lv_at hl 2 rfl) ?_
              refine k_mgi (v := nI en) C G 17 (by decide) mr_17 hen fl_X11_182 rfl dX11_take_24 ?_
              refine lv_icmp_ge (tgt := 34) hx hb dX11_take_27 (by decide) (fun c_27_1 => ?_) (fun c_27_1 => ?_)
              · have n_27_1 := nb_le (a := en) (b := a + 1) c_27_1 (by omega) (by omega)
                refine lv_iconst (v := 0) hx hb dX11_take_34 (by decide) ?_
                refine k_mpi (v := 0) (ty := .boolean) C G 18 (by decide) mr_18 fl_X11_175 rfl rfl rfl rfl rfl dX11_take_35 (fun H locs (G : wd Z A s (mdW Z h ad (upd (upd (upd iv 18 1) 16 (nI (a + 1))) 18 0) av) H locs) => ?_)
                refine lv_lload_n hx hb dX11_take_38 rfl (lv_at hl 1 rfl) ?_
                refine lv_bipush (v := 8) hx hb dX11_take_39 (by decide) ?_
                refine lv_lshl (v := ((0 <<< ((8 : Int32).toInt64 &&& 63)) ||| ((((av 3) a).toInt64) &&& 255)) <<< ((8 : Int32).toInt64 &&& 63)) hx hb dX11_take_41 rfl ?_
                refine lv_aload_n hx hb dX11_take_42 rfl (lv_at hl 2 rfl) ?_
                refine k_mgi (v := 0) C G 18 (by decide) mr_18 rfl fl_X11_175 rfl dX11_take_43 ?_
                refine lv_if_eq (tgt := 66) hx hb dX11_take_46 (by decide) (fun c_46_1 => ?_) (fun c_46_1 => ?_)
                · have n_46_1 := nb_eq (a := 0) (b := 0) c_46_1 (by omega) (by omega)
                  refine lv_lconst (v := 0) hx hb dX11_take_66 (by decide) ?_
                  refine lv_lor hx hb dX11_take_67 ?_
                  refine lv_lstore_n (lv' := [(2, .long ((((0 <<< ((8 : Int32).toInt64 &&& 63)) ||| ((((av 3) a).toInt64) &&& 255)) <<< ((8 : Int32).toInt64 &&& 63)) ||| 0)), (4, .int 1), (0, .ref h), (1, .int 8)]) hx hb dX11_take_68 rfl hl (by decide) rfl (fun ls hl => ?_)
                  refine lv_aload_n hx hb dX11_take_69 rfl (lv_at hl 2 rfl) ?_
                  refine lv_dup hx hb dX11_take_70 rfl ?_
                  refine k_mgi (v := nI (a + 1)) C G 16 (by decide) mr_16 rfl fl_X11_179 rfl dX11_take_71 ?_
                  refine lv_iconst (v := 1) hx hb dX11_take_74 (by decide) ?_
                  refine lv_iadd hx hb dX11_take_75 ?_
                  refine k_topi (y := nI (a + 1 + 1)) (nI_add (a + 1) 1) ?_
                  refine k_mpi (v := nI (a + 1 + 1)) (ty := .int) C G 16 (by decide) mr_16 fl_X11_179 rfl rfl rfl rfl rfl dX11_take_76 (fun H locs (G : wd Z A s (mdW Z h ad (upd (upd (upd (upd iv 18 1) 16 (nI (a + 1))) 18 0) 16 (nI (a + 1 + 1))) av) H locs) => ?_)
                  refine lv_iinc (v := 2) (lv' := [(4, .int 2), (2, .long ((((0 <<< ((8 : Int32).toInt64 &&& 63)) ||| ((((av 3) a).toInt64) &&& 255)) <<< ((8 : Int32).toInt64 &&& 63)) ||| 0)), (0, .ref h), (1, .int 8)]) hx hb dX11_take_79 hl (k := 1) rfl (by decide) (by decide) rfl (fun ls hl => ?_)
                  refine lv_goto (tgt := 5) hx hb dX11_take_82 (by decide) ?_
                  refine lv_iload hx hb dX11_take_5 (lv_at hl 0 rfl) ?_
                  refine lv_iload_n hx hb dX11_take_7 rfl (lv_at hl 3 rfl) ?_
                  refine lv_icmp_ge (tgt := 85) hx hb dX11_take_8 (by decide) (fun c_8_2 => ?_) (fun c_8_2 => ?_)
                  · exact absurd c_8_2 (by decide)
                  · have n_8_2 := nb_nle (a := 8) (b := 2) c_8_2 (by omega) (by omega)
                    refine lv_aload_n hx hb dX11_take_11 rfl (lv_at hl 2 rfl) ?_
                    refine lv_aload_n hx hb dX11_take_12 rfl (lv_at hl 2 rfl) ?_
                    refine k_mgi (v := 0) C G 18 (by decide) mr_18 rfl fl_X11_175 rfl dX11_take_13 ?_
                    refine lv_if_eq (tgt := 34) hx hb dX11_take_16 (by decide) (fun c_16_2 => ?_) (fun c_16_2 => ?_)
                    · have n_16_2 := nb_eq (a := 0) (b := 0) c_16_2 (by omega) (by omega)
                      refine lv_iconst (v := 0) hx hb dX11_take_34 (by decide) ?_
                      refine k_mpi (v := 0) (ty := .boolean) C G 18 (by decide) mr_18 fl_X11_175 rfl rfl rfl rfl rfl dX11_take_35 (fun H locs (G : wd Z A s (mdW Z h ad (upd (upd (upd (upd (upd iv 18 1) 16 (nI (a + 1))) 18 0) 16 (nI (a + 1 + 1))) 18 0) av) H locs) => ?_)
                      refine lv_lload_n hx hb dX11_take_38 rfl (lv_at hl 1 rfl) ?_
                      refine lv_bipush (v := 8) hx hb dX11_take_39 (by decide) ?_
                      refine lv_lshl (v := ((((0 <<< ((8 : Int32).toInt64 &&& 63)) ||| ((((av 3) a).toInt64) &&& 255)) <<< ((8 : Int32).toInt64 &&& 63)) ||| 0) <<< ((8 : Int32).toInt64 &&& 63)) hx hb dX11_take_41 rfl ?_
                      refine lv_aload_n hx hb dX11_take_42 rfl (lv_at hl 2 rfl) ?_
                      refine k_mgi (v := 0) C G 18 (by decide) mr_18 rfl fl_X11_175 rfl dX11_take_43 ?_
                      refine lv_if_eq (tgt := 66) hx hb dX11_take_46 (by decide) (fun c_46_2 => ?_) (fun c_46_2 => ?_)
                      · have n_46_2 := nb_eq (a := 0) (b := 0) c_46_2 (by omega) (by omega)
                        refine lv_lconst (v := 0) hx hb dX11_take_66 (by decide) ?_
                        refine lv_lor hx hb dX11_take_67 ?_
                        refine lv_lstore_n (lv' := [(2, .long ((((((0 <<< ((8 : Int32).toInt64 &&& 63)) ||| ((((av 3) a).toInt64) &&& 255)) <<< ((8 : Int32).toInt64 &&& 63)) ||| 0) <<< ((8 : Int32).toInt64 &&& 63)) ||| 0)), (4, .int 2), (0, .ref h), (1, .int 8)]) hx hb dX11_take_68 rfl hl (by decide) rfl (fun ls hl => ?_)
                        refine lv_aload_n hx hb dX11_take_69 rfl (lv_at hl 2 rfl) ?_
                        refine lv_dup hx hb dX11_take_70 rfl ?_
                        refine k_mgi (v := nI (a + 1 + 1)) C G 16 (by decide) mr_16 rfl fl_X11_179 rfl dX11_take_71 ?_
                        refine lv_iconst (v := 1) hx hb dX11_take_74 (by decide) ?_
                        refine lv_iadd hx hb dX11_take_75 ?_
                        refine k_topi (y := nI (a + 1 + 1 + 1)) (nI_add (a + 1 + 1) 1) ?_
                        refine k_mpi (v := nI (a + 1 + 1 + 1)) (ty := .int) C G 16 (by decide) mr_16 fl_X11_179 rfl rfl rfl rfl rfl dX11_take_76 (fun H locs (G : wd Z A s (mdW Z h ad (upd (upd (upd (upd (upd (upd iv 18 1) 16 (nI (a + 1))) 18 0) 16 (nI (a + 1 + 1))) 18 0) 16 (nI (a + 1 + 1 + 1))) av) H locs) => ?_)
                        refine lv_iinc (v := 3) (lv' := [(4, .int 3), (2, .long ((((((0 <<< ((8 : Int32).toInt64 &&& 63)) ||| ((((av 3) a).toInt64) &&& 255)) <<< ((8 : Int32).toInt64 &&& 63)) ||| 0) <<< ((8 : Int32).toInt64 &&& 63)) ||| 0)), (0, .ref h), (1, .int 8)]) hx hb dX11_take_79 hl (k := 1) rfl (by decide) (by decide) rfl (fun ls hl => ?_)
                        refine lv_goto (tgt := 5) hx hb dX11_take_82 (by decide) ?_
                        refine lv_iload hx hb dX11_take_5 (lv_at hl 0 rfl) ?_
                        refine lv_iload_n hx hb dX11_take_7 rfl (lv_at hl 3 rfl) ?_
                        refine lv_icmp_ge (tgt := 85) hx hb dX11_take_8 (by decide) (fun c_8_3 => ?_) (fun c_8_3 => ?_)
                        · exact absurd c_8_3 (by decide)
                        · have n_8_3 := nb_nle (a := 8) (b := 3) c_8_3 (by omega) (by omega)
                          refine lv_aload_n hx hb dX11_take_11 rfl (lv_at hl 2 rfl) ?_
                          refine lv_aload_n hx hb dX11_take_12 rfl (lv_at hl 2 rfl) ?_
                          refine k_mgi (v := 0) C G 18 (by decide) mr_18 rfl fl_X11_175 rfl dX11_take_13 ?_
                          refine lv_if_eq (tgt := 34) hx hb dX11_take_16 (by decide) (fun c_16_3 => ?_) (fun c_16_3 => ?_)
                          · have n_16_3 := nb_eq (a := 0) (b := 0) c_16_3 (by omega) (by omega)
                            refine lv_iconst (v := 0) hx hb dX11_take_34 (by decide) ?_
                            refine k_mpi (v := 0) (ty := .boolean) C G 18 (by decide) mr_18 fl_X11_175 rfl rfl rfl rfl rfl dX11_take_35 (fun H locs (G : wd Z A s (mdW Z h ad (upd (upd (upd (upd (upd (upd (upd iv 18 1) 16 (nI (a + 1))) 18 0) 16 (nI (a + 1 + 1))) 18 0) 16 (nI (a + 1 + 1 + 1))) 18 0) av) H locs) => ?_)
                            refine lv_lload_n hx hb dX11_take_38 rfl (lv_at hl 1 rfl) ?_
                            refine lv_bipush (v := 8) hx hb dX11_take_39 (by decide) ?_
                            refine lv_lshl (v := ((((((0 <<< ((8 : Int32).toInt64 &&& 63)) ||| ((((av 3) a).toInt64) &&& 255)) <<< ((8 : Int32).toInt64 &&& 63)) ||| 0) <<< ((8 : Int32).toInt64 &&& 63)) ||| 0) <<< ((8 : Int32).toInt64 &&& 63)) hx hb dX11_take_41 rfl ?_
                            refine lv_aload_n hx hb dX11_take_42 rfl (lv_at hl 2 rfl) ?_
                            refine k_mgi (v := 0) C G 18 (by decide) mr_18 rfl fl_X11_175 rfl dX11_take_43 ?_
                            refine lv_if_eq (tgt := 66) hx hb dX11_take_46 (by decide) (fun c_46_3 => ?_) (fun c_46_3 => ?_)
                            · have n_46_3 := nb_eq (a := 0) (b := 0) c_46_3 (by omega) (by omega)
                              refine lv_lconst (v := 0) hx hb dX11_take_66 (by decide) ?_
                              refine lv_lor hx hb dX11_take_67 ?_
                              refine lv_lstore_n (lv' := [(2, .long ((((((((0 <<< ((8 : Int32).toInt64 &&& 63)) ||| ((((av 3) a).toInt64) &&& 255)) <<< ((8 : Int32).toInt64 &&& 63)) ||| 0) <<< ((8 : Int32).toInt64 &&& 63)) ||| 0) <<< ((8 : Int32).toInt64 &&& 63)) ||| 0)), (4, .int 3), (0, .ref h), (1, .int 8)]) hx hb dX11_take_68 rfl hl (by decide) rfl (fun ls hl => ?_)
                              refine lv_aload_n hx hb dX11_take_69 rfl (lv_at hl 2 rfl) ?_
                              refine lv_dup hx hb dX11_take_70 rfl ?_
                              refine k_mgi (v := nI (a + 1 + 1 + 1)) C G 16 (by decide) mr_16 rfl fl_X11_179 rfl dX11_take_71 ?_
                              refine lv_iconst (v := 1) hx hb dX11_take_74 (by decide) ?_
                              refine lv_iadd hx hb dX11_take_75 ?_
                              refine k_topi (y := nI (a + 1 + 1 + 1 + 1)) (nI_add (a + 1 + 1 + 1) 1) ?_
                              refine k_mpi (v := nI (a + 1 + 1 + 1 + 1)) (ty := .int) C G 16 (by decide) mr_16 fl_X11_179 rfl rfl rfl rfl rfl dX11_take_76 (fun H locs (G : wd Z A s (mdW Z h ad (upd (upd (upd (upd (upd (upd (upd (upd iv 18 1) 16 (nI (a + 1))) 18 0) 16 (nI (a + 1 + 1))) 18 0) 16 (nI (a + 1 + 1 + 1))) 18 0) 16 (nI (a + 1 + 1 + 1 + 1))) av) H locs) => ?_)
                              refine lv_iinc (v := 4) (lv' := [(4, .int 4), (2, .long ((((((((0 <<< ((8 : Int32).toInt64 &&& 63)) ||| ((((av 3) a).toInt64) &&& 255)) <<< ((8 : Int32).toInt64 &&& 63)) ||| 0) <<< ((8 : Int32).toInt64 &&& 63)) ||| 0) <<< ((8 : Int32).toInt64 &&& 63)) ||| 0)), (0, .ref h), (1, .int 8)]) hx hb dX11_take_79 hl (k := 1) rfl (by decide) (by decide) rfl (fun ls hl => ?_)
                              refine lv_goto (tgt := 5) hx hb dX11_take_82 (by decide) ?_
                              refine lv_iload hx hb dX11_take_5 (lv_at hl 0 rfl) ?_
                              refine lv_iload_n hx hb dX11_take_7 rfl (lv_at hl 3 rfl) ?_
                              refine lv_icmp_ge (tgt := 85) hx hb dX11_take_8 (by decide) (fun c_8_4 => ?_) (fun c_8_4 => ?_)
                              · exact absurd c_8_4 (by decide)
                              · have n_8_4 := nb_nle (a := 8) (b := 4) c_8_4 (by omega) (by omega)
                                refine lv_aload_n hx hb dX11_take_11 rfl (lv_at hl 2 rfl) ?_
                                refine lv_aload_n hx hb dX11_take_12 rfl (lv_at hl 2 rfl) ?_
                                refine k_mgi (v := 0) C G 18 (by decide) mr_18 rfl fl_X11_175 rfl dX11_take_13 ?_
                                refine lv_if_eq (tgt := 34) hx hb dX11_take_16 (by decide) (fun c_16_4 => ?_) (fun c_16_4 => ?_)
                                · have n_16_4 := nb_eq (a := 0) (b := 0) c_16_4 (by omega) (by omega)
                                  refine lv_iconst (v := 0) hx hb dX11_take_34 (by decide) ?_
                                  refine k_mpi (v := 0) (ty := .boolean) C G 18 (by decide) mr_18 fl_X11_175 rfl rfl rfl rfl rfl dX11_take_35 (fun H locs (G : wd Z A s (mdW Z h ad (upd (upd (upd (upd (upd (upd (upd (upd (upd iv 18 1) 16 (nI (a + 1))) 18 0) 16 (nI (a + 1 + 1))) 18 0) 16 (nI (a + 1 + 1 + 1))) 18 0) 16 (nI (a + 1 + 1 + 1 + 1))) 18 0) av) H locs) => ?_)
                                  refine lv_lload_n hx hb dX11_take_38 rfl (lv_at hl 1 rfl) ?_
                                  refine lv_bipush (v := 8) hx hb dX11_take_39 (by decide) ?_
                                  refine lv_lshl (v := ((((((((0 <<< ((8 : Int32).toInt64 &&& 63)) ||| ((((av 3) a).toInt64) &&& 255)) <<< ((8 : Int32).toInt64 &&& 63)) ||| 0) <<< ((8 : Int32).toInt64 &&& 63)) ||| 0) <<< ((8 : Int32).toInt64 &&& 63)) ||| 0) <<< ((8 : Int32).toInt64 &&& 63)) hx hb dX11_take_41 rfl ?_
                                  refine lv_aload_n hx hb dX11_take_42 rfl (lv_at hl 2 rfl) ?_
                                  refine k_mgi (v := 0) C G 18 (by decide) mr_18 rfl fl_X11_175 rfl dX11_take_43 ?_
                                  refine lv_if_eq (tgt := 66) hx hb dX11_take_46 (by decide) (fun c_46_4 => ?_) (fun c_46_4 => ?_)
                                  · have n_46_4 := nb_eq (a := 0) (b := 0) c_46_4 (by omega) (by omega)
                                    refine lv_lconst (v := 0) hx hb dX11_take_66 (by decide) ?_
                                    refine lv_lor hx hb dX11_take_67 ?_
                                    refine lv_lstore_n (lv' := [(2, .long ((((((((((0 <<< ((8 : Int32).toInt64 &&& 63)) ||| ((((av 3) a).toInt64) &&& 255)) <<< ((8 : Int32).toInt64 &&& 63)) ||| 0) <<< ((8 : Int32).toInt64 &&& 63)) ||| 0) <<< ((8 : Int32).toInt64 &&& 63)) ||| 0) <<< ((8 : Int32).toInt64 &&& 63)) ||| 0)), (4, .int 4), (0, .ref h), (1, .int 8)]) hx hb dX11_take_68 rfl hl (by decide) rfl (fun ls hl => ?_)
                                    refine lv_aload_n hx hb dX11_take_69 rfl (lv_at hl 2 rfl) ?_
                                    refine lv_dup hx hb dX11_take_70 rfl ?_
                                    refine k_mgi (v := nI (a + 1 + 1 + 1 + 1)) C G 16 (by decide) mr_16 rfl fl_X11_179 rfl dX11_take_71 ?_
                                    refine lv_iconst (v := 1) hx hb dX11_take_74 (by decide) ?_
                                    refine lv_iadd hx hb dX11_take_75 ?_
                                    refine k_topi (y := nI (a + 1 + 1 + 1 + 1 + 1)) (nI_add (a + 1 + 1 + 1 + 1) 1) ?_
                                    refine k_mpi (v := nI (a + 1 + 1 + 1 + 1 + 1)) (ty := .int) C G 16 (by decide) mr_16 fl_X11_179 rfl rfl rfl rfl rfl dX11_take_76 (fun H locs (G : wd Z A s (mdW Z h ad (upd (upd (upd (upd (upd (upd (upd (upd (upd (upd iv 18 1) 16 (nI (a + 1))) 18 0) 16 (nI (a + 1 + 1))) 18 0) 16 (nI (a + 1 + 1 + 1))) 18 0) 16 (nI (a + 1 + 1 + 1 + 1))) 18 0) 16 (nI (a + 1 + 1 + 1 + 1 + 1))) av) H locs) => ?_)
                                    refine lv_iinc (v := 5) (lv' := [(4, .int 5), (2, .long ((((((((((0 <<< ((8 : Int32).toInt64 &&& 63)) ||| ((((av 3) a).toInt64) &&& 255)) <<< ((8 : Int32).toInt64 &&& 63)) ||| 0) <<< ((8 : Int32).toInt64 &&& 63)) ||| 0) <<< ((8 : Int32).toInt64 &&& 63)) ||| 0) <<< ((8 : Int32).toInt64 &&& 63)) ||| 0)), (0, .ref h), (1, .int 8)]) hx hb dX11_take_79 hl (k := 1) rfl (by decide) (by decide) rfl (fun ls hl => ?_)
                                    refine lv_goto (tgt := 5) hx hb dX11_take_82 (by decide) ?_
                                    refine lv_iload hx hb dX11_take_5 (lv_at hl 0 rfl) ?_
                                    refine lv_iload_n hx hb dX11_take_7 rfl (lv_at hl 3 rfl) ?_
                                    refine lv_icmp_ge (tgt := 85) hx hb dX11_take_8 (by decide) (fun c_8_5 => ?_) (fun c_8_5 => ?_)
                                    · exact absurd c_8_5 (by decide)
                                    · have n_8_5 := nb_nle (a := 8) (b := 5) c_8_5 (by omega) (by omega)
                                      refine lv_aload_n hx hb dX11_take_11 rfl (lv_at hl 2 rfl) ?_
                                      refine lv_aload_n hx hb dX11_take_12 rfl (lv_at hl 2 rfl) ?_
                                      refine k_mgi (v := 0) C G 18 (by decide) mr_18 rfl fl_X11_175 rfl dX11_take_13 ?_
                                      refine lv_if_eq (tgt := 34) hx hb dX11_take_16 (by decide) (fun c_16_5 => ?_) (fun c_16_5 => ?_)
                                      · have n_16_5 := nb_eq (a := 0) (b := 0) c_16_5 (by omega) (by omega)
                                        refine lv_iconst (v := 0) hx hb dX11_take_34 (by decide) ?_
                                        refine k_mpi (v := 0) (ty := .boolean) C G 18 (by decide) mr_18 fl_X11_175 rfl rfl rfl rfl rfl dX11_take_35 (fun H locs (G : wd Z A s (mdW Z h ad (upd (upd (upd (upd (upd (upd (upd (upd (upd (upd (upd iv 18 1) 16 (nI (a + 1))) 18 0) 16 (nI (a + 1 + 1))) 18 0) 16 (nI (a + 1 + 1 + 1))) 18 0) 16 (nI (a + 1 + 1 + 1 + 1))) 18 0) 16 (nI (a + 1 + 1 + 1 + 1 + 1))) 18 0) av) H locs) => ?_)
                                        refine lv_lload_n hx hb dX11_take_38 rfl (lv_at hl 1 rfl) ?_
                                        refine lv_bipush (v := 8) hx hb dX11_take_39 (by decide) ?_
                                        refine lv_lshl (v := ((((((((((0 <<< ((8 : Int32).toInt64 &&& 63)) ||| ((((av 3) a).toInt64) &&& 255)) <<< ((8 : Int32).toInt64 &&& 63)) ||| 0) <<< ((8 : Int32).toInt64 &&& 63)) ||| 0) <<< ((8 : Int32).toInt64 &&& 63)) ||| 0) <<< ((8 : Int32).toInt64 &&& 63)) ||| 0) <<< ((8 : Int32).toInt64 &&& 63)) hx hb dX11_take_41 rfl ?_
                                        refine lv_aload_n hx hb dX11_take_42 rfl (lv_at hl 2 rfl) ?_
                                        refine k_mgi (v := 0) C G 18 (by decide) mr_18 rfl fl_X11_175 rfl dX11_take_43 ?_
                                        refine lv_if_eq (tgt := 66) hx hb dX11_take_46 (by decide) (fun c_46_5 => ?_) (fun c_46_5 => ?_)
                                        · have n_46_5 := nb_eq (a := 0) (b := 0) c_46_5 (by omega) (by omega)
                                          refine lv_lconst (v := 0) hx hb dX11_take_66 (by decide) ?_
                                          refine lv_lor hx hb dX11_take_67 ?_
                                          refine lv_lstore_n (lv' := [(2, .long ((((((((((((0 <<< ((8 : Int32).toInt64 &&& 63)) ||| ((((av 3) a).toInt64) &&& 255)) <<< ((8 : Int32).toInt64 &&& 63)) ||| 0) <<< ((8 : Int32).toInt64 &&& 63)) ||| 0) <<< ((8 : Int32).toInt64 &&& 63)) ||| 0) <<< ((8 : Int32).toInt64 &&& 63)) ||| 0) <<< ((8 : Int32).toInt64 &&& 63)) ||| 0)), (4, .int 5), (0, .ref h), (1, .int 8)]) hx hb dX11_take_68 rfl hl (by decide) rfl (fun ls hl => ?_)
                                          refine lv_aload_n hx hb dX11_take_69 rfl (lv_at hl 2 rfl) ?_
                                          refine lv_dup hx hb dX11_take_70 rfl ?_
                                          refine k_mgi (v := nI (a + 1 + 1 + 1 + 1 + 1)) C G 16 (by decide) mr_16 rfl fl_X11_179 rfl dX11_take_71 ?_
                                          refine lv_iconst (v := 1) hx hb dX11_take_74 (by decide) ?_
                                          refine lv_iadd hx hb dX11_take_75 ?_
                                          refine k_topi (y := nI (a + 1 + 1 + 1 + 1 + 1 + 1)) (nI_add (a + 1 + 1 + 1 + 1 + 1) 1) ?_
                                          refine k_mpi (v := nI (a + 1 + 1 + 1 + 1 + 1 + 1)) (ty := .int) C G 16 (by decide) mr_16 fl_X11_179 rfl rfl rfl rfl rfl dX11_take_76 (fun H locs (G : wd Z A s (mdW Z h ad (upd (upd (upd (upd (upd (upd (upd (upd (upd (upd (upd (upd iv 18 1) 16 (nI (a + 1))) 18 0) 16 (nI (a + 1 + 1))) 18 0) 16 (nI (a + 1 + 1 + 1))) 18 0) 16 (nI (a + 1 + 1 + 1 + 1))) 18 0) 16 (nI (a + 1 + 1 + 1 + 1 + 1))) 18 0) 16 (nI (a + 1 + 1 + 1 + 1 + 1 + 1))) av) H locs) => ?_)
                                          refine lv_iinc (v := 6) (lv' := [(4, .int 6), (2, .long ((((((((((((0 <<< ((8 : Int32).toInt64 &&& 63)) ||| ((((av 3) a).toInt64) &&& 255)) <<< ((8 : Int32).toInt64 &&& 63)) ||| 0) <<< ((8 : Int32).toInt64 &&& 63)) ||| 0) <<< ((8 : Int32).toInt64 &&& 63)) ||| 0) <<< ((8 : Int32).toInt64 &&& 63)) ||| 0) <<< ((8 : Int32).toInt64 &&& 63)) ||| 0)), (0, .ref h), (1, .int 8)]) hx hb dX11_take_79 hl (k := 1) rfl (by decide) (by decide) rfl (fun ls hl => ?_)
                                          refine lv_goto (tgt := 5) hx hb dX11_take_82 (by decide) ?_
                                          refine lv_iload hx hb dX11_take_5 (lv_at hl 0 rfl) ?_
                                          refine lv_iload_n hx hb dX11_take_7 rfl (lv_at hl 3 rfl) ?_
                                          refine lv_icmp_ge (tgt := 85) hx hb dX11_take_8 (by decide) (fun c_8_6 => ?_) (fun c_8_6 => ?_)
                                          · exact absurd c_8_6 (by decide)
                                          · have n_8_6 := nb_nle (a := 8) (b := 6) c_8_6 (by omega) (by omega)
                                            refine lv_aload_n hx hb dX11_take_11 rfl (lv_at hl 2 rfl) ?_
                                            refine lv_aload_n hx hb dX11_take_12 rfl (lv_at hl 2 rfl) ?_
                                            refine k_mgi (v := 0) C G 18 (by decide) mr_18 rfl fl_X11_175 rfl dX11_take_13 ?_
                                            refine lv_if_eq (tgt := 34) hx hb dX11_take_16 (by decide) (fun c_16_6 => ?_) (fun c_16_6 => ?_)
                                            · have n_16_6 := nb_eq (a := 0) (b := 0) c_16_6 (by omega) (by omega)
                                              refine lv_iconst (v := 0) hx hb dX11_take_34 (by decide) ?_
                                              refine k_mpi (v := 0) (ty := .boolean) C G 18 (by decide) mr_18 fl_X11_175 rfl rfl rfl rfl rfl dX11_take_35 (fun H locs (G : wd Z A s (mdW Z h ad (upd (upd (upd (upd (upd (upd (upd (upd (upd (upd (upd (upd (upd iv 18 1) 16 (nI (a + 1))) 18 0) 16 (nI (a + 1 + 1))) 18 0) 16 (nI (a + 1 + 1 + 1))) 18 0) 16 (nI (a + 1 + 1 + 1 + 1))) 18 0) 16 (nI (a + 1 + 1 + 1 + 1 + 1))) 18 0) 16 (nI (a + 1 + 1 + 1 + 1 + 1 + 1))) 18 0) av) H locs) => ?_)
                                              refine lv_lload_n hx hb dX11_take_38 rfl (lv_at hl 1 rfl) ?_
                                              refine lv_bipush (v := 8) hx hb dX11_take_39 (by decide) ?_
                                              refine lv_lshl (v := ((((((((((((0 <<< ((8 : Int32).toInt64 &&& 63)) ||| ((((av 3) a).toInt64) &&& 255)) <<< ((8 : Int32).toInt64 &&& 63)) ||| 0) <<< ((8 : Int32).toInt64 &&& 63)) ||| 0) <<< ((8 : Int32).toInt64 &&& 63)) ||| 0) <<< ((8 : Int32).toInt64 &&& 63)) ||| 0) <<< ((8 : Int32).toInt64 &&& 63)) ||| 0) <<< ((8 : Int32).toInt64 &&& 63)) hx hb dX11_take_41 rfl ?_
                                              refine lv_aload_n hx hb dX11_take_42 rfl (lv_at hl 2 rfl) ?_
                                              refine k_mgi (v := 0) C G 18 (by decide) mr_18 rfl fl_X11_175 rfl dX11_take_43 ?_
                                              refine lv_if_eq (tgt := 66) hx hb dX11_take_46 (by decide) (fun c_46_6 => ?_) (fun c_46_6 => ?_)
                                              · have n_46_6 := nb_eq (a := 0) (b := 0) c_46_6 (by omega) (by omega)
                                                refine lv_lconst (v := 0) hx hb dX11_take_66 (by decide) ?_
                                                refine lv_lor hx hb dX11_take_67 ?_
                                                refine lv_lstore_n (lv' := [(2, .long ((((((((((((((0 <<< ((8 : Int32).toInt64 &&& 63)) ||| ((((av 3) a).toInt64) &&& 255)) <<< ((8 : Int32).toInt64 &&& 63)) ||| 0) <<< ((8 : Int32).toInt64 &&& 63)) ||| 0) <<< ((8 : Int32).toInt64 &&& 63)) ||| 0) <<< ((8 : Int32).toInt64 &&& 63)) ||| 0) <<< ((8 : Int32).toInt64 &&& 63)) ||| 0) <<< ((8 : Int32).toInt64 &&& 63)) ||| 0)), (4, .int 6), (0, .ref h), (1, .int 8)]) hx hb dX11_take_68 rfl hl (by decide) rfl (fun ls hl => ?_)
                                                refine lv_aload_n hx hb dX11_take_69 rfl (lv_at hl 2 rfl) ?_
                                                refine lv_dup hx hb dX11_take_70 rfl ?_
                                                refine k_mgi (v := nI (a + 1 + 1 + 1 + 1 + 1 + 1)) C G 16 (by decide) mr_16 rfl fl_X11_179 rfl dX11_take_71 ?_
                                                refine lv_iconst (v := 1) hx hb dX11_take_74 (by decide) ?_
                                                refine lv_iadd hx hb dX11_take_75 ?_
                                                refine k_topi (y := nI (a + 1 + 1 + 1 + 1 + 1 + 1 + 1)) (nI_add (a + 1 + 1 + 1 + 1 + 1 + 1) 1) ?_
                                                refine k_mpi (v := nI (a + 1 + 1 + 1 + 1 + 1 + 1 + 1)) (ty := .int) C G 16 (by decide) mr_16 fl_X11_179 rfl rfl rfl rfl rfl dX11_take_76 (fun H locs (G : wd Z A s (mdW Z h ad (upd (upd (upd (upd (upd (upd (upd (upd (upd (upd (upd (upd (upd (upd iv 18 1) 16 (nI (a + 1))) 18 0) 16 (nI (a + 1 + 1))) 18 0) 16 (nI (a + 1 + 1 + 1))) 18 0) 16 (nI (a + 1 + 1 + 1 + 1))) 18 0) 16 (nI (a + 1 + 1 + 1 + 1 + 1))) 18 0) 16 (nI (a + 1 + 1 + 1 + 1 + 1 + 1))) 18 0) 16 (nI (a + 1 + 1 + 1 + 1 + 1 + 1 + 1))) av) H locs) => ?_)
                                                refine lv_iinc (v := 7) (lv' := [(4, .int 7), (2, .long ((((((((((((((0 <<< ((8 : Int32).toInt64 &&& 63)) ||| ((((av 3) a).toInt64) &&& 255)) <<< ((8 : Int32).toInt64 &&& 63)) ||| 0) <<< ((8 : Int32).toInt64 &&& 63)) ||| 0) <<< ((8 : Int32).toInt64 &&& 63)) ||| 0) <<< ((8 : Int32).toInt64 &&& 63)) ||| 0) <<< ((8 : Int32).toInt64 &&& 63)) ||| 0) <<< ((8 : Int32).toInt64 &&& 63)) ||| 0)), (0, .ref h), (1, .int 8)]) hx hb dX11_take_79 hl (k := 1) rfl (by decide) (by decide) rfl (fun ls hl => ?_)
                                                refine lv_goto (tgt := 5) hx hb dX11_take_82 (by decide) ?_
                                                refine lv_iload hx hb dX11_take_5 (lv_at hl 0 rfl) ?_
                                                refine lv_iload_n hx hb dX11_take_7 rfl (lv_at hl 3 rfl) ?_
                                                refine lv_icmp_ge (tgt := 85) hx hb dX11_take_8 (by decide) (fun c_8_7 => ?_) (fun c_8_7 => ?_)
                                                · exact absurd c_8_7 (by decide)
                                                · have n_8_7 := nb_nle (a := 8) (b := 7) c_8_7 (by omega) (by omega)
                                                  refine lv_aload_n hx hb dX11_take_11 rfl (lv_at hl 2 rfl) ?_
                                                  refine lv_aload_n hx hb dX11_take_12 rfl (lv_at hl 2 rfl) ?_
                                                  refine k_mgi (v := 0) C G 18 (by decide) mr_18 rfl fl_X11_175 rfl dX11_take_13 ?_
                                                  refine lv_if_eq (tgt := 34) hx hb dX11_take_16 (by decide) (fun c_16_7 => ?_) (fun c_16_7 => ?_)
                                                  · have n_16_7 := nb_eq (a := 0) (b := 0) c_16_7 (by omega) (by omega)
                                                    refine lv_iconst (v := 0) hx hb dX11_take_34 (by decide) ?_
                                                    refine k_mpi (v := 0) (ty := .boolean) C G 18 (by decide) mr_18 fl_X11_175 rfl rfl rfl rfl rfl dX11_take_35 (fun H locs (G : wd Z A s (mdW Z h ad (upd (upd (upd (upd (upd (upd (upd (upd (upd (upd (upd (upd (upd (upd (upd iv 18 1) 16 (nI (a + 1))) 18 0) 16 (nI (a + 1 + 1))) 18 0) 16 (nI (a + 1 + 1 + 1))) 18 0) 16 (nI (a + 1 + 1 + 1 + 1))) 18 0) 16 (nI (a + 1 + 1 + 1 + 1 + 1))) 18 0) 16 (nI (a + 1 + 1 + 1 + 1 + 1 + 1))) 18 0) 16 (nI (a + 1 + 1 + 1 + 1 + 1 + 1 + 1))) 18 0) av) H locs) => ?_)
                                                    refine lv_lload_n hx hb dX11_take_38 rfl (lv_at hl 1 rfl) ?_
                                                    refine lv_bipush (v := 8) hx hb dX11_take_39 (by decide) ?_
                                                    refine lv_lshl (v := ((((((((((((((0 <<< ((8 : Int32).toInt64 &&& 63)) ||| ((((av 3) a).toInt64) &&& 255)) <<< ((8 : Int32).toInt64 &&& 63)) ||| 0) <<< ((8 : Int32).toInt64 &&& 63)) ||| 0) <<< ((8 : Int32).toInt64 &&& 63)) ||| 0) <<< ((8 : Int32).toInt64 &&& 63)) ||| 0) <<< ((8 : Int32).toInt64 &&& 63)) ||| 0) <<< ((8 : Int32).toInt64 &&& 63)) ||| 0) <<< ((8 : Int32).toInt64 &&& 63)) hx hb dX11_take_41 rfl ?_
                                                    refine lv_aload_n hx hb dX11_take_42 rfl (lv_at hl 2 rfl) ?_
                                                    refine k_mgi (v := 0) C G 18 (by decide) mr_18 rfl fl_X11_175 rfl dX11_take_43 ?_
                                                    refine lv_if_eq (tgt := 66) hx hb dX11_take_46 (by decide) (fun c_46_7 => ?_) (fun c_46_7 => ?_)
                                                    · have n_46_7 := nb_eq (a := 0) (b := 0) c_46_7 (by omega) (by omega)
                                                      refine lv_lconst (v := 0) hx hb dX11_take_66 (by decide) ?_
                                                      refine lv_lor hx hb dX11_take_67 ?_
                                                      refine lv_lstore_n (lv' := [(2, .long ((((((((((((((((0 <<< ((8 : Int32).toInt64 &&& 63)) ||| ((((av 3) a).toInt64) &&& 255)) <<< ((8 : Int32).toInt64 &&& 63)) ||| 0) <<< ((8 : Int32).toInt64 &&& 63)) ||| 0) <<< ((8 : Int32).toInt64 &&& 63)) ||| 0) <<< ((8 : Int32).toInt64 &&& 63)) ||| 0) <<< ((8 : Int32).toInt64 &&& 63)) ||| 0) <<< ((8 : Int32).toInt64 &&& 63)) ||| 0) <<< ((8 : Int32).toInt64 &&& 63)) ||| 0)), (4, .int 7), (0, .ref h), (1, .int 8)]) hx hb dX11_take_68 rfl hl (by decide) rfl (fun ls hl => ?_)
                                                      refine lv_aload_n hx hb dX11_take_69 rfl (lv_at hl 2 rfl) ?_
                                                      refine lv_dup hx hb dX11_take_70 rfl ?_
                                                      refine k_mgi (v := nI (a + 1 + 1 + 1 + 1 + 1 + 1 + 1)) C G 16 (by decide) mr_16 rfl fl_X11_179 rfl dX11_take_71 ?_
                                                      refine lv_iconst (v := 1) hx hb dX11_take_74 (by decide) ?_
                                                      refine lv_iadd hx hb dX11_take_75 ?_
                                                      refine k_topi (y := nI (a + 1 + 1 + 1 + 1 + 1 + 1 + 1 + 1)) (nI_add (a + 1 + 1 + 1 + 1 + 1 + 1 + 1) 1) ?_
                                                      refine k_mpi (v := nI (a + 1 + 1 + 1 + 1 + 1 + 1 + 1 + 1)) (ty := .int) C G 16 (by decide) mr_16 fl_X11_179 rfl rfl rfl rfl rfl dX11_take_76 (fun H locs (G : wd Z A s (mdW Z h ad (upd (upd (upd (upd (upd (upd (upd (upd (upd (upd (upd (upd (upd (upd (upd (upd iv 18 1) 16 (nI (a + 1))) 18 0) 16 (nI (a + 1 + 1))) 18 0) 16 (nI (a + 1 + 1 + 1))) 18 0) 16 (nI (a + 1 + 1 + 1 + 1))) 18 0) 16 (nI (a + 1 + 1 + 1 + 1 + 1))) 18 0) 16 (nI (a + 1 + 1 + 1 + 1 + 1 + 1))) 18 0) 16 (nI (a + 1 + 1 + 1 + 1 + 1 + 1 + 1))) 18 0) 16 (nI (a + 1 + 1 + 1 + 1 + 1 + 1 + 1 + 1))) av) H locs) => ?_)
                                                      refine lv_iinc (v := 8) (lv' := [(4, .int 8), (2, .long ((((((((((((((((0 <<< ((8 : Int32).toInt64 &&& 63)) ||| ((((av 3) a).toInt64) &&& 255)) <<< ((8 : Int32).toInt64 &&& 63)) ||| 0) <<< ((8 : Int32).toInt64 &&& 63)) ||| 0) <<< ((8 : Int32).toInt64 &&& 63)) ||| 0) <<< ((8 : Int32).toInt64 &&& 63)) ||| 0) <<< ((8 : Int32).toInt64 &&& 63)) ||| 0) <<< ((8 : Int32).toInt64 &&& 63)) ||| 0) <<< ((8 : Int32).toInt64 &&& 63)) ||| 0)), (0, .ref h), (1, .int 8)]) hx hb dX11_take_79 hl (k := 1) rfl (by decide) (by decide) rfl (fun ls hl => ?_)
                                                      refine lv_goto (tgt := 5) hx hb dX11_take_82 (by decide) ?_
                                                      refine lv_iload hx hb dX11_take_5 (lv_at hl 0 rfl) ?_
                                                      refine lv_iload_n hx hb dX11_take_7 rfl (lv_at hl 3 rfl) ?_
                                                      refine lv_icmp_ge (tgt := 85) hx hb dX11_take_8 (by decide) (fun c_8_8 => ?_) (fun c_8_8 => ?_)
                                                      · have n_8_8 := nb_le (a := 8) (b := 8) c_8_8 (by omega) (by omega)
                                                        refine lv_lload_n hx hb dX11_take_85 rfl (lv_at hl 1 rfl) ?_
                                                        exact kr_l C G ⟨_, rfl, ((((((((((((((((sI.rf.up (by decide) _).up (by decide) _).up (by decide) _).up (by decide) _).up (by decide) _).up (by decide) _).up (by decide) _).up (by decide) _).up (by decide) _).up (by decide) _).up (by decide) _).up (by decide) _).up (by decide) _).up (by decide) _).up (by decide) _).up (by decide) _), rfl, Or.inr ⟨fun z => absurd z.2 (by omega), rfl⟩⟩ (Nat.le_of_ble_eq_true rfl) (Nat.le_of_ble_eq_true rfl) dX11_take_86
                                                      · exact absurd c_8_8 (by decide)
                                                    · exact absurd c_46_7 (by decide)
                                                  · exact absurd c_16_7 (by decide)
                                              · exact absurd c_46_6 (by decide)
                                            · exact absurd c_16_6 (by decide)
                                        · exact absurd c_46_5 (by decide)
                                      · exact absurd c_16_5 (by decide)
                                  · exact absurd c_46_4 (by decide)
                                · exact absurd c_16_4 (by decide)
                            · exact absurd c_46_3 (by decide)
                          · exact absurd c_16_3 (by decide)
                      · exact absurd c_46_2 (by decide)
                    · exact absurd c_16_2 (by decide)
                · exact absurd c_46_1 (by decide)
              · have n_27_1 := nb_nle (a := en) (b := a + 1) c_27_1 (by omega) (by omega)
                refine lv_iconst (v := 1) hx hb dX11_take_30 (by decide) ?_
                refine lv_goto (tgt := 35) hx hb dX11_take_31 (by decide) ?_
                refine k_mpi (v := 1) (ty := .boolean) C G 18 (by decide) mr_18 fl_X11_175 rfl rfl rfl rfl rfl dX11_take_35 (fun H locs (G : wd Z A s (mdW Z h ad (upd (upd (upd iv 18 1) 16 (nI (a + 1))) 18 1) av) H locs) => ?_)
                refine lv_lload_n hx hb dX11_take_38 rfl (lv_at hl 1 rfl) ?_
                refine lv_bipush (v := 8) hx hb dX11_take_39 (by decide) ?_
                refine lv_lshl (v := ((0 <<< ((8 : Int32).toInt64 &&& 63)) ||| ((((av 3) a).toInt64) &&& 255)) <<< ((8 : Int32).toInt64 &&& 63)) hx hb dX11_take_41 rfl ?_
                refine lv_aload_n hx hb dX11_take_42 rfl (lv_at hl 2 rfl) ?_
                refine k_mgi (v := 1) C G 18 (by decide) mr_18 rfl fl_X11_175 rfl dX11_take_43 ?_
                refine lv_if_eq (tgt := 66) hx hb dX11_take_46 (by decide) (fun c_46_1 => ?_) (fun c_46_1 => ?_)
                · exact absurd c_46_1 (by decide)
                · have n_46_1 := nb_ne (a := 1) (b := 0) c_46_1 (by omega) (by omega)
                  refine lv_aload_n hx hb dX11_take_49 rfl (lv_at hl 2 rfl) ?_
                  refine k_mga C G 3 (by decide) mr_3 fl_X11_20 rfl dX11_take_50 ?_
                  refine lv_aload_n hx hb dX11_take_53 rfl (lv_at hl 2 rfl) ?_
                  refine k_mgi (v := nI (a + 1)) C G 16 (by decide) mr_16 rfl fl_X11_179 rfl dX11_take_54 ?_
                  refine k_mbl (v := (av 3) (a + 1)) (i := a + 1) C G 3 (k := 3) (n := 140000) mp_3 (by decide) (by omega) rfl dX11_take_57 ?_
                  refine lv_i2l (v := ((av 3) (a + 1)).toInt64) hx hb dX11_take_58 rfl ?_
                  refine lv_ldc2 (v := 255) hx hb hown (hts _ kl_X11_185) dX11_take_59 ?_
                  refine lv_land hx hb dX11_take_62 ?_
                  refine lv_goto (tgt := 67) hx hb dX11_take_63 (by decide) ?_
                  refine lv_lor hx hb dX11_take_67 ?_
                  refine lv_lstore_n (lv' := [(2, .long ((((0 <<< ((8 : Int32).toInt64 &&& 63)) ||| ((((av 3) a).toInt64) &&& 255)) <<< ((8 : Int32).toInt64 &&& 63)) ||| ((((av 3) (a + 1)).toInt64) &&& 255))), (4, .int 1), (0, .ref h), (1, .int 8)]) hx hb dX11_take_68 rfl hl (by decide) rfl (fun ls hl => ?_)
                  refine lv_aload_n hx hb dX11_take_69 rfl (lv_at hl 2 rfl) ?_
                  refine lv_dup hx hb dX11_take_70 rfl ?_
                  refine k_mgi (v := nI (a + 1)) C G 16 (by decide) mr_16 rfl fl_X11_179 rfl dX11_take_71 ?_
                  refine lv_iconst (v := 1) hx hb dX11_take_74 (by decide) ?_
                  refine lv_iadd hx hb dX11_take_75 ?_
                  refine k_topi (y := nI (a + 1 + 1)) (nI_add (a + 1) 1) ?_
                  refine k_mpi (v := nI (a + 1 + 1)) (ty := .int) C G 16 (by decide) mr_16 fl_X11_179 rfl rfl rfl rfl rfl dX11_take_76 (fun H locs (G : wd Z A s (mdW Z h ad (upd (upd (upd (upd iv 18 1) 16 (nI (a + 1))) 18 1) 16 (nI (a + 1 + 1))) av) H locs) => ?_)
                  refine lv_iinc (v := 2) (lv' := [(4, .int 2), (2, .long ((((0 <<< ((8 : Int32).toInt64 &&& 63)) ||| ((((av 3) a).toInt64) &&& 255)) <<< ((8 : Int32).toInt64 &&& 63)) ||| ((((av 3) (a + 1)).toInt64) &&& 255))), (0, .ref h), (1, .int 8)]) hx hb dX11_take_79 hl (k := 1) rfl (by decide) (by decide) rfl (fun ls hl => ?_)
                  refine lv_goto (tgt := 5) hx hb dX11_take_82 (by decide) ?_
                  refine lv_iload hx hb dX11_take_5 (lv_at hl 0 rfl) ?_
                  refine lv_iload_n hx hb dX11_take_7 rfl (lv_at hl 3 rfl) ?_
                  refine lv_icmp_ge (tgt := 85) hx hb dX11_take_8 (by decide) (fun c_8_2 => ?_) (fun c_8_2 => ?_)
                  · exact absurd c_8_2 (by decide)
                  · have n_8_2 := nb_nle (a := 8) (b := 2) c_8_2 (by omega) (by omega)
                    refine lv_aload_n hx hb dX11_take_11 rfl (lv_at hl 2 rfl) ?_
                    refine lv_aload_n hx hb dX11_take_12 rfl (lv_at hl 2 rfl) ?_
                    refine k_mgi (v := 1) C G 18 (by decide) mr_18 rfl fl_X11_175 rfl dX11_take_13 ?_
                    refine lv_if_eq (tgt := 34) hx hb dX11_take_16 (by decide) (fun c_16_2 => ?_) (fun c_16_2 => ?_)
                    · exact absurd c_16_2 (by decide)
                    · have n_16_2 := nb_ne (a := 1) (b := 0) c_16_2 (by omega) (by omega)
                      refine lv_aload_n hx hb dX11_take_19 rfl (lv_at hl 2 rfl) ?_
                      refine k_mgi (v := nI (a + 1 + 1)) C G 16 (by decide) mr_16 rfl fl_X11_179 rfl dX11_take_20 ?_
                      refine lv_aload_n hx hb dX11_take_23 rfl (lv_at hl 2 rfl) ?_
                      refine k_mgi (v := nI en) C G 17 (by decide) mr_17 hen fl_X11_182 rfl dX11_take_24 ?_
                      refine lv_icmp_ge (tgt := 34) hx hb dX11_take_27 (by decide) (fun c_27_2 => ?_) (fun c_27_2 => ?_)
                      · have n_27_2 := nb_le (a := en) (b := a + 1 + 1) c_27_2 (by omega) (by omega)
                        refine lv_iconst (v := 0) hx hb dX11_take_34 (by decide) ?_
                        refine k_mpi (v := 0) (ty := .boolean) C G 18 (by decide) mr_18 fl_X11_175 rfl rfl rfl rfl rfl dX11_take_35 (fun H locs (G : wd Z A s (mdW Z h ad (upd (upd (upd (upd (upd iv 18 1) 16 (nI (a + 1))) 18 1) 16 (nI (a + 1 + 1))) 18 0) av) H locs) => ?_)
                        refine lv_lload_n hx hb dX11_take_38 rfl (lv_at hl 1 rfl) ?_
                        refine lv_bipush (v := 8) hx hb dX11_take_39 (by decide) ?_
                        refine lv_lshl (v := ((((0 <<< ((8 : Int32).toInt64 &&& 63)) ||| ((((av 3) a).toInt64) &&& 255)) <<< ((8 : Int32).toInt64 &&& 63)) ||| ((((av 3) (a + 1)).toInt64) &&& 255)) <<< ((8 : Int32).toInt64 &&& 63)) hx hb dX11_take_41 rfl ?_
                        refine lv_aload_n hx hb dX11_take_42 rfl (lv_at hl 2 rfl) ?_
                        refine k_mgi (v := 0) C G 18 (by decide) mr_18 rfl fl_X11_175 rfl dX11_take_43 ?_
                        refine lv_if_eq (tgt := 66) hx hb dX11_take_46 (by decide) (fun c_46_2 => ?_) (fun c_46_2 => ?_)
                        · have n_46_2 := nb_eq (a := 0) (b := 0) c_46_2 (by omega) (by omega)
                          refine lv_lconst (v := 0) hx hb dX11_take_66 (by decide) ?_
                          refine lv_lor hx hb dX11_take_67 ?_
                          refine lv_lstore_n (lv' := [(2, .long ((((((0 <<< ((8 : Int32).toInt64 &&& 63)) ||| ((((av 3) a).toInt64) &&& 255)) <<< ((8 : Int32).toInt64 &&& 63)) ||| ((((av 3) (a + 1)).toInt64) &&& 255)) <<< ((8 : Int32).toInt64 &&& 63)) ||| 0)), (4, .int 2), (0, .ref h), (1, .int 8)]) hx hb dX11_take_68 rfl hl (by decide) rfl (fun ls hl => ?_)
                          refine lv_aload_n hx hb dX11_take_69 rfl (lv_at hl 2 rfl) ?_
                          refine lv_dup hx hb dX11_take_70 rfl ?_
                          refine k_mgi (v := nI (a + 1 + 1)) C G 16 (by decide) mr_16 rfl fl_X11_179 rfl dX11_take_71 ?_
                          refine lv_iconst (v := 1) hx hb dX11_take_74 (by decide) ?_
                          refine lv_iadd hx hb dX11_take_75 ?_
                          refine k_topi (y := nI (a + 1 + 1 + 1)) (nI_add (a + 1 + 1) 1) ?_
                          refine k_mpi (v := nI (a + 1 + 1 + 1)) (ty := .int) C G 16 (by decide) mr_16 fl_X11_179 rfl rfl rfl rfl rfl dX11_take_76 (fun H locs (G : wd Z A s (mdW Z h ad (upd (upd (upd (upd (upd (upd iv 18 1) 16 (nI (a + 1))) 18 1) 16 (nI (a + 1 + 1))) 18 0) 16 (nI (a + 1 + 1 + 1))) av) H locs) => ?_)
                          refine lv_iinc (v := 3) (lv' := [(4, .int 3), (2, .long ((((((0 <<< ((8 : Int32).toInt64 &&& 63)) ||| ((((av 3) a).toInt64) &&& 255)) <<< ((8 : Int32).toInt64 &&& 63)) ||| ((((av 3) (a + 1)).toInt64) &&& 255)) <<< ((8 : Int32).toInt64 &&& 63)) ||| 0)), (0, .ref h), (1, .int 8)]) hx hb dX11_take_79 hl (k := 1) rfl (by decide) (by decide) rfl (fun ls hl => ?_)
                          refine lv_goto (tgt := 5) hx hb dX11_take_82 (by decide) ?_
                          refine lv_iload hx hb dX11_take_5 (lv_at hl 0 rfl) ?_
                          refine lv_iload_n hx hb dX11_take_7 rfl (lv_at hl 3 rfl) ?_
                          refine lv_icmp_ge (tgt := 85) hx hb dX11_take_8 (by decide) (fun c_8_3 => ?_) (fun c_8_3 => ?_)
                          · exact absurd c_8_3 (by decide)
                          · have n_8_3 := nb_nle (a := 8) (b := 3) c_8_3 (by omega) (by omega)
                            refine lv_aload_n hx hb dX11_take_11 rfl (lv_at hl 2 rfl) ?_
                            refine lv_aload_n hx hb dX11_take_12 rfl (lv_at hl 2 rfl) ?_
                            refine k_mgi (v := 0) C G 18 (by decide) mr_18 rfl fl_X11_175 rfl dX11_take_13 ?_
                            refine lv_if_eq (tgt := 34) hx hb dX11_take_16 (by decide) (fun c_16_3 => ?_) (fun c_16_3 => ?_)
                            · have n_16_3 := nb_eq (a := 0) (b := 0) c_16_3 (by omega) (by omega)
                              refine lv_iconst (v := 0) hx hb dX11_take_34 (by decide) ?_
                              refine k_mpi (v := 0) (ty := .boolean) C G 18 (by decide) mr_18 fl_X11_175 rfl rfl rfl rfl rfl dX11_take_35 (fun H locs (G : wd Z A s (mdW Z h ad (upd (upd (upd (upd (upd (upd (upd iv 18 1) 16 (nI (a + 1))) 18 1) 16 (nI (a + 1 + 1))) 18 0) 16 (nI (a + 1 + 1 + 1))) 18 0) av) H locs) => ?_)
                              refine lv_lload_n hx hb dX11_take_38 rfl (lv_at hl 1 rfl) ?_
                              refine lv_bipush (v := 8) hx hb dX11_take_39 (by decide) ?_
                              refine lv_lshl (v := ((((((0 <<< ((8 : Int32).toInt64 &&& 63)) ||| ((((av 3) a).toInt64) &&& 255)) <<< ((8 : Int32).toInt64 &&& 63)) ||| ((((av 3) (a + 1)).toInt64) &&& 255)) <<< ((8 : Int32).toInt64 &&& 63)) ||| 0) <<< ((8 : Int32).toInt64 &&& 63)) hx hb dX11_take_41 rfl ?_
                              refine lv_aload_n hx hb dX11_take_42 rfl (lv_at hl 2 rfl) ?_
                              refine k_mgi (v := 0) C G 18 (by decide) mr_18 rfl fl_X11_175 rfl dX11_take_43 ?_
                              refine lv_if_eq (tgt := 66) hx hb dX11_take_46 (by decide) (fun c_46_3 => ?_) (fun c_46_3 => ?_)
                              · have n_46_3 := nb_eq (a := 0) (b := 0) c_46_3 (by omega) (by omega)
                                refine lv_lconst (v := 0) hx hb dX11_take_66 (by decide) ?_
                                refine lv_lor hx hb dX11_take_67 ?_
                                refine lv_lstore_n (lv' := [(2, .long ((((((((0 <<< ((8 : Int32).toInt64 &&& 63)) ||| ((((av 3) a).toInt64) &&& 255)) <<< ((8 : Int32).toInt64 &&& 63)) ||| ((((av 3) (a + 1)).toInt64) &&& 255)) <<< ((8 : Int32).toInt64 &&& 63)) ||| 0) <<< ((8 : Int32).toInt64 &&& 63)) ||| 0)), (4, .int 3), (0, .ref h), (1, .int 8)]) hx hb dX11_take_68 rfl hl (by decide) rfl (fun ls hl => ?_)
                                refine lv_aload_n hx hb dX11_take_69 rfl (lv_at hl 2 rfl) ?_
                                refine lv_dup hx hb dX11_take_70 rfl ?_
                                refine k_mgi (v := nI (a + 1 + 1 + 1)) C G 16 (by decide) mr_16 rfl fl_X11_179 rfl dX11_take_71 ?_
                                refine lv_iconst (v := 1) hx hb dX11_take_74 (by decide) ?_
                                refine lv_iadd hx hb dX11_take_75 ?_
                                refine k_topi (y := nI (a + 1 + 1 + 1 + 1)) (nI_add (a + 1 + 1 + 1) 1) ?_
                                refine k_mpi (v := nI (a + 1 + 1 + 1 + 1)) (ty := .int) C G 16 (by decide) mr_16 fl_X11_179 rfl rfl rfl rfl rfl dX11_take_76 (fun H locs (G : wd Z A s (mdW Z h ad (upd (upd (upd (upd (upd (upd (upd (upd iv 18 1) 16 (nI (a + 1))) 18 1) 16 (nI (a + 1 + 1))) 18 0) 16 (nI (a + 1 + 1 + 1))) 18 0) 16 (nI (a + 1 + 1 + 1 + 1))) av) H locs) => ?_)
                                refine lv_iinc (v := 4) (lv' := [(4, .int 4), (2, .long ((((((((0 <<< ((8 : Int32).toInt64 &&& 63)) ||| ((((av 3) a).toInt64) &&& 255)) <<< ((8 : Int32).toInt64 &&& 63)) ||| ((((av 3) (a + 1)).toInt64) &&& 255)) <<< ((8 : Int32).toInt64 &&& 63)) ||| 0) <<< ((8 : Int32).toInt64 &&& 63)) ||| 0)), (0, .ref h), (1, .int 8)]) hx hb dX11_take_79 hl (k := 1) rfl (by decide) (by decide) rfl (fun ls hl => ?_)
                                refine lv_goto (tgt := 5) hx hb dX11_take_82 (by decide) ?_
                                refine lv_iload hx hb dX11_take_5 (lv_at hl 0 rfl) ?_
                                refine lv_iload_n hx hb dX11_take_7 rfl (lv_at hl 3 rfl) ?_
                                refine lv_icmp_ge (tgt := 85) hx hb dX11_take_8 (by decide) (fun c_8_4 => ?_) (fun c_8_4 => ?_)
                                · exact absurd c_8_4 (by decide)
                                · have n_8_4 := nb_nle (a := 8) (b := 4) c_8_4 (by omega) (by omega)
                                  refine lv_aload_n hx hb dX11_take_11 rfl (lv_at hl 2 rfl) ?_
                                  refine lv_aload_n hx hb dX11_take_12 rfl (lv_at hl 2 rfl) ?_
                                  refine k_mgi (v := 0) C G 18 (by decide) mr_18 rfl fl_X11_175 rfl dX11_take_13 ?_
                                  refine lv_if_eq (tgt := 34) hx hb dX11_take_16 (by decide) (fun c_16_4 => ?_) (fun c_16_4 => ?_)
                                  · have n_16_4 := nb_eq (a := 0) (b := 0) c_16_4 (by omega) (by omega)
                                    refine lv_iconst (v := 0) hx hb dX11_take_34 (by decide) ?_
                                    refine k_mpi (v := 0) (ty := .boolean) C G 18 (by decide) mr_18 fl_X11_175 rfl rfl rfl rfl rfl dX11_take_35 (fun H locs (G : wd Z A s (mdW Z h ad (upd (upd (upd (upd (upd (upd (upd (upd (upd iv 18 1) 16 (nI (a + 1))) 18 1) 16 (nI (a + 1 + 1))) 18 0) 16 (nI (a + 1 + 1 + 1))) 18 0) 16 (nI (a + 1 + 1 + 1 + 1))) 18 0) av) H locs) => ?_)
                                    refine lv_lload_n hx hb dX11_take_38 rfl (lv_at hl 1 rfl) ?_
                                    refine lv_bipush (v := 8) hx hb dX11_take_39 (by decide) ?_
                                    refine lv_lshl (v := ((((((((0 <<< ((8 : Int32).toInt64 &&& 63)) ||| ((((av 3) a).toInt64) &&& 255)) <<< ((8 : Int32).toInt64 &&& 63)) ||| ((((av 3) (a + 1)).toInt64) &&& 255)) <<< ((8 : Int32).toInt64 &&& 63)) ||| 0) <<< ((8 : Int32).toInt64 &&& 63)) ||| 0) <<< ((8 : Int32).toInt64 &&& 63)) hx hb dX11_take_41 rfl ?_
                                    refine lv_aload_n hx hb dX11_take_42 rfl (lv_at hl 2 rfl) ?_
                                    refine k_mgi (v := 0) C G 18 (by decide) mr_18 rfl fl_X11_175 rfl dX11_take_43 ?_
                                    refine lv_if_eq (tgt := 66) hx hb dX11_take_46 (by decide) (fun c_46_4 => ?_) (fun c_46_4 => ?_)
                                    · have n_46_4 := nb_eq (a := 0) (b := 0) c_46_4 (by omega) (by omega)
                                      refine lv_lconst (v := 0) hx hb dX11_take_66 (by decide) ?_
                                      refine lv_lor hx hb dX11_take_67 ?_
                                      refine lv_lstore_n (lv' := [(2, .long ((((((((((0 <<< ((8 : Int32).toInt64 &&& 63)) ||| ((((av 3) a).toInt64) &&& 255)) <<< ((8 : Int32).toInt64 &&& 63)) ||| ((((av 3) (a + 1)).toInt64) &&& 255)) <<< ((8 : Int32).toInt64 &&& 63)) ||| 0) <<< ((8 : Int32).toInt64 &&& 63)) ||| 0) <<< ((8 : Int32).toInt64 &&& 63)) ||| 0)), (4, .int 4), (0, .ref h), (1, .int 8)]) hx hb dX11_take_68 rfl hl (by decide) rfl (fun ls hl => ?_)
                                      refine lv_aload_n hx hb dX11_take_69 rfl (lv_at hl 2 rfl) ?_
                                      refine lv_dup hx hb dX11_take_70 rfl ?_
                                      refine k_mgi (v := nI (a + 1 + 1 + 1 + 1)) C G 16 (by decide) mr_16 rfl fl_X11_179 rfl dX11_take_71 ?_
                                      refine lv_iconst (v := 1) hx hb dX11_take_74 (by decide) ?_
                                      refine lv_iadd hx hb dX11_take_75 ?_
                                      refine k_topi (y := nI (a + 1 + 1 + 1 + 1 + 1)) (nI_add (a + 1 + 1 + 1 + 1) 1) ?_
                                      refine k_mpi (v := nI (a + 1 + 1 + 1 + 1 + 1)) (ty := .int) C G 16 (by decide) mr_16 fl_X11_179 rfl rfl rfl rfl rfl dX11_take_76 (fun H locs (G : wd Z A s (mdW Z h ad (upd (upd (upd (upd (upd (upd (upd (upd (upd (upd iv 18 1) 16 (nI (a + 1))) 18 1) 16 (nI (a + 1 + 1))) 18 0) 16 (nI (a + 1 + 1 + 1))) 18 0) 16 (nI (a + 1 + 1 + 1 + 1))) 18 0) 16 (nI (a + 1 + 1 + 1 + 1 + 1))) av) H locs) => ?_)
                                      refine lv_iinc (v := 5) (lv' := [(4, .int 5), (2, .long ((((((((((0 <<< ((8 : Int32).toInt64 &&& 63)) ||| ((((av 3) a).toInt64) &&& 255)) <<< ((8 : Int32).toInt64 &&& 63)) ||| ((((av 3) (a + 1)).toInt64) &&& 255)) <<< ((8 : Int32).toInt64 &&& 63)) ||| 0) <<< ((8 : Int32).toInt64 &&& 63)) ||| 0) <<< ((8 : Int32).toInt64 &&& 63)) ||| 0)), (0, .ref h), (1, .int 8)]) hx hb dX11_take_79 hl (k := 1) rfl (by decide) (by decide) rfl (fun ls hl => ?_)
                                      refine lv_goto (tgt := 5) hx hb dX11_take_82 (by decide) ?_
                                      refine lv_iload hx hb dX11_take_5 (lv_at hl 0 rfl) ?_
                                      refine lv_iload_n hx hb dX11_take_7 rfl (lv_at hl 3 rfl) ?_
                                      refine lv_icmp_ge (tgt := 85) hx hb dX11_take_8 (by decide) (fun c_8_5 => ?_) (fun c_8_5 => ?_)
                                      · exact absurd c_8_5 (by decide)
                                      · have n_8_5 := nb_nle (a := 8) (b := 5) c_8_5 (by omega) (by omega)
                                        refine lv_aload_n hx hb dX11_take_11 rfl (lv_at hl 2 rfl) ?_
                                        refine lv_aload_n hx hb dX11_take_12 rfl (lv_at hl 2 rfl) ?_
                                        refine k_mgi (v := 0) C G 18 (by decide) mr_18 rfl fl_X11_175 rfl dX11_take_13 ?_
                                        refine lv_if_eq (tgt := 34) hx hb dX11_take_16 (by decide) (fun c_16_5 => ?_) (fun c_16_5 => ?_)
                                        · have n_16_5 := nb_eq (a := 0) (b := 0) c_16_5 (by omega) (by omega)
                                          refine lv_iconst (v := 0) hx hb dX11_take_34 (by decide) ?_
                                          refine k_mpi (v := 0) (ty := .boolean) C G 18 (by decide) mr_18 fl_X11_175 rfl rfl rfl rfl rfl dX11_take_35 (fun H locs (G : wd Z A s (mdW Z h ad (upd (upd (upd (upd (upd (upd (upd (upd (upd (upd (upd iv 18 1) 16 (nI (a + 1))) 18 1) 16 (nI (a + 1 + 1))) 18 0) 16 (nI (a + 1 + 1 + 1))) 18 0) 16 (nI (a + 1 + 1 + 1 + 1))) 18 0) 16 (nI (a + 1 + 1 + 1 + 1 + 1))) 18 0) av) H locs) => ?_)
                                          refine lv_lload_n hx hb dX11_take_38 rfl (lv_at hl 1 rfl) ?_
                                          refine lv_bipush (v := 8) hx hb dX11_take_39 (by decide) ?_
                                          refine lv_lshl (v := ((((((((((0 <<< ((8 : Int32).toInt64 &&& 63)) ||| ((((av 3) a).toInt64) &&& 255)) <<< ((8 : Int32).toInt64 &&& 63)) ||| ((((av 3) (a + 1)).toInt64) &&& 255)) <<< ((8 : Int32).toInt64 &&& 63)) ||| 0) <<< ((8 : Int32).toInt64 &&& 63)) ||| 0) <<< ((8 : Int32).toInt64 &&& 63)) ||| 0) <<< ((8 : Int32).toInt64 &&& 63)) hx hb dX11_take_41 rfl ?_
                                          refine lv_aload_n hx hb dX11_take_42 rfl (lv_at hl 2 rfl) ?_
                                          refine k_mgi (v := 0) C G 18 (by decide) mr_18 rfl fl_X11_175 rfl dX11_take_43 ?_
                                          refine lv_if_eq (tgt := 66) hx hb dX11_take_46 (by decide) (fun c_46_5 => ?_) (fun c_46_5 => ?_)
                                          · have n_46_5 := nb_eq (a := 0) (b := 0) c_46_5 (by omega) (by omega)
                                            refine lv_lconst (v := 0) hx hb dX11_take_66 (by decide) ?_
                                            refine lv_lor hx hb dX11_take_67 ?_
                                            refine lv_lstore_n (lv' := [(2, .long ((((((((((((0 <<< ((8 : Int32).toInt64 &&& 63)) ||| ((((av 3) a).toInt64) &&& 255)) <<< ((8 : Int32).toInt64 &&& 63)) ||| ((((av 3) (a + 1)).toInt64) &&& 255)) <<< ((8 : Int32).toInt64 &&& 63)) ||| 0) <<< ((8 : Int32).toInt64 &&& 63)) ||| 0) <<< ((8 : Int32).toInt64 &&& 63)) ||| 0) <<< ((8 : Int32).toInt64 &&& 63)) ||| 0)), (4, .int 5), (0, .ref h), (1, .int 8)]) hx hb dX11_take_68 rfl hl (by decide) rfl (fun ls hl => ?_)
                                            refine lv_aload_n hx hb dX11_take_69 rfl (lv_at hl 2 rfl) ?_
                                            refine lv_dup hx hb dX11_take_70 rfl ?_
                                            refine k_mgi (v := nI (a + 1 + 1 + 1 + 1 + 1)) C G 16 (by decide) mr_16 rfl fl_X11_179 rfl dX11_take_71 ?_
                                            refine lv_iconst (v := 1) hx hb dX11_take_74 (by decide) ?_
                                            refine lv_iadd hx hb dX11_take_75 ?_
                                            refine k_topi (y := nI (a + 1 + 1 + 1 + 1 + 1 + 1)) (nI_add (a + 1 + 1 + 1 + 1 + 1) 1) ?_
                                            refine k_mpi (v := nI (a + 1 + 1 + 1 + 1 + 1 + 1)) (ty := .int) C G 16 (by decide) mr_16 fl_X11_179 rfl rfl rfl rfl rfl dX11_take_76 (fun H locs (G : wd Z A s (mdW Z h ad (upd (upd (upd (upd (upd (upd (upd (upd (upd (upd (upd (upd iv 18 1) 16 (nI (a + 1))) 18 1) 16 (nI (a + 1 + 1))) 18 0) 16 (nI (a + 1 + 1 + 1))) 18 0) 16 (nI (a + 1 + 1 + 1 + 1))) 18 0) 16 (nI (a + 1 + 1 + 1 + 1 + 1))) 18 0) 16 (nI (a + 1 + 1 + 1 + 1 + 1 + 1))) av) H locs) => ?_)
                                            refine lv_iinc (v := 6) (lv' := [(4, .int 6), (2, .long ((((((((((((0 <<< ((8 : Int32).toInt64 &&& 63)) ||| ((((av 3) a).toInt64) &&& 255)) <<< ((8 : Int32).toInt64 &&& 63)) ||| ((((av 3) (a + 1)).toInt64) &&& 255)) <<< ((8 : Int32).toInt64 &&& 63)) ||| 0) <<< ((8 : Int32).toInt64 &&& 63)) ||| 0) <<< ((8 : Int32).toInt64 &&& 63)) ||| 0) <<< ((8 : Int32).toInt64 &&& 63)) ||| 0)), (0, .ref h), (1, .int 8)]) hx hb dX11_take_79 hl (k := 1) rfl (by decide) (by decide) rfl (fun ls hl => ?_)
                                            refine lv_goto (tgt := 5) hx hb dX11_take_82 (by decide) ?_
                                            refine lv_iload hx hb dX11_take_5 (lv_at hl 0 rfl) ?_
                                            refine lv_iload_n hx hb dX11_take_7 rfl (lv_at hl 3 rfl) ?_
                                            refine lv_icmp_ge (tgt := 85) hx hb dX11_take_8 (by decide) (fun c_8_6 => ?_) (fun c_8_6 => ?_)
                                            · exact absurd c_8_6 (by decide)
                                            · have n_8_6 := nb_nle (a := 8) (b := 6) c_8_6 (by omega) (by omega)
                                              refine lv_aload_n hx hb dX11_take_11 rfl (lv_at hl 2 rfl) ?_
                                              refine lv_aload_n hx hb dX11_take_12 rfl (lv_at hl 2 rfl) ?_
                                              refine k_mgi (v := 0) C G 18 (by decide) mr_18 rfl fl_X11_175 rfl dX11_take_13 ?_
                                              refine lv_if_eq (tgt := 34) hx hb dX11_take_16 (by decide) (fun c_16_6 => ?_) (fun c_16_6 => ?_)
                                              · have n_16_6 := nb_eq (a := 0) (b := 0) c_16_6 (by omega) (by omega)
                                                refine lv_iconst (v := 0) hx hb dX11_take_34 (by decide) ?_
                                                refine k_mpi (v := 0) (ty := .boolean) C G 18 (by decide) mr_18 fl_X11_175 rfl rfl rfl rfl rfl dX11_take_35 (fun H locs (G : wd Z A s (mdW Z h ad (upd (upd (upd (upd (upd (upd (upd (upd (upd (upd (upd (upd (upd iv 18 1) 16 (nI (a + 1))) 18 1) 16 (nI (a + 1 + 1))) 18 0) 16 (nI (a + 1 + 1 + 1))) 18 0) 16 (nI (a + 1 + 1 + 1 + 1))) 18 0) 16 (nI (a + 1 + 1 + 1 + 1 + 1))) 18 0) 16 (nI (a + 1 + 1 + 1 + 1 + 1 + 1))) 18 0) av) H locs) => ?_)
                                                refine lv_lload_n hx hb dX11_take_38 rfl (lv_at hl 1 rfl) ?_
                                                refine lv_bipush (v := 8) hx hb dX11_take_39 (by decide) ?_
                                                refine lv_lshl (v := ((((((((((((0 <<< ((8 : Int32).toInt64 &&& 63)) ||| ((((av 3) a).toInt64) &&& 255)) <<< ((8 : Int32).toInt64 &&& 63)) ||| ((((av 3) (a + 1)).toInt64) &&& 255)) <<< ((8 : Int32).toInt64 &&& 63)) ||| 0) <<< ((8 : Int32).toInt64 &&& 63)) ||| 0) <<< ((8 : Int32).toInt64 &&& 63)) ||| 0) <<< ((8 : Int32).toInt64 &&& 63)) ||| 0) <<< ((8 : Int32).toInt64 &&& 63)) hx hb dX11_take_41 rfl ?_
                                                refine lv_aload_n hx hb dX11_take_42 rfl (lv_at hl 2 rfl) ?_
                                                refine k_mgi (v := 0) C G 18 (by decide) mr_18 rfl fl_X11_175 rfl dX11_take_43 ?_
                                                refine lv_if_eq (tgt := 66) hx hb dX11_take_46 (by decide) (fun c_46_6 => ?_) (fun c_46_6 => ?_)
                                                · have n_46_6 := nb_eq (a := 0) (b := 0) c_46_6 (by omega) (by omega)
                                                  refine lv_lconst (v := 0) hx hb dX11_take_66 (by decide) ?_
                                                  refine lv_lor hx hb dX11_take_67 ?_
                                                  refine lv_lstore_n (lv' := [(2, .long ((((((((((((((0 <<< ((8 : Int32).toInt64 &&& 63)) ||| ((((av 3) a).toInt64) &&& 255)) <<< ((8 : Int32).toInt64 &&& 63)) ||| ((((av 3) (a + 1)).toInt64) &&& 255)) <<< ((8 : Int32).toInt64 &&& 63)) ||| 0) <<< ((8 : Int32).toInt64 &&& 63)) ||| 0) <<< ((8 : Int32).toInt64 &&& 63)) ||| 0) <<< ((8 : Int32).toInt64 &&& 63)) ||| 0) <<< ((8 : Int32).toInt64 &&& 63)) ||| 0)), (4, .int 6), (0, .ref h), (1, .int 8)]) hx hb dX11_take_68 rfl hl (by decide) rfl (fun ls hl => ?_)
                                                  refine lv_aload_n hx hb dX11_take_69 rfl (lv_at hl 2 rfl) ?_
                                                  refine lv_dup hx hb dX11_take_70 rfl ?_
                                                  refine k_mgi (v := nI (a + 1 + 1 + 1 + 1 + 1 + 1)) C G 16 (by decide) mr_16 rfl fl_X11_179 rfl dX11_take_71 ?_
                                                  refine lv_iconst (v := 1) hx hb dX11_take_74 (by decide) ?_
                                                  refine lv_iadd hx hb dX11_take_75 ?_
                                                  refine k_topi (y := nI (a + 1 + 1 + 1 + 1 + 1 + 1 + 1)) (nI_add (a + 1 + 1 + 1 + 1 + 1 + 1) 1) ?_
                                                  refine k_mpi (v := nI (a + 1 + 1 + 1 + 1 + 1 + 1 + 1)) (ty := .int) C G 16 (by decide) mr_16 fl_X11_179 rfl rfl rfl rfl rfl dX11_take_76 (fun H locs (G : wd Z A s (mdW Z h ad (upd (upd (upd (upd (upd (upd (upd (upd (upd (upd (upd (upd (upd (upd iv 18 1) 16 (nI (a + 1))) 18 1) 16 (nI (a + 1 + 1))) 18 0) 16 (nI (a + 1 + 1 + 1))) 18 0) 16 (nI (a + 1 + 1 + 1 + 1))) 18 0) 16 (nI (a + 1 + 1 + 1 + 1 + 1))) 18 0) 16 (nI (a + 1 + 1 + 1 + 1 + 1 + 1))) 18 0) 16 (nI (a + 1 + 1 + 1 + 1 + 1 + 1 + 1))) av) H locs) => ?_)
                                                  refine lv_iinc (v := 7) (lv' := [(4, .int 7), (2, .long ((((((((((((((0 <<< ((8 : Int32).toInt64 &&& 63)) ||| ((((av 3) a).toInt64) &&& 255)) <<< ((8 : Int32).toInt64 &&& 63)) ||| ((((av 3) (a + 1)).toInt64) &&& 255)) <<< ((8 : Int32).toInt64 &&& 63)) ||| 0) <<< ((8 : Int32).toInt64 &&& 63)) ||| 0) <<< ((8 : Int32).toInt64 &&& 63)) ||| 0) <<< ((8 : Int32).toInt64 &&& 63)) ||| 0) <<< ((8 : Int32).toInt64 &&& 63)) ||| 0)), (0, .ref h), (1, .int 8)]) hx hb dX11_take_79 hl (k := 1) rfl (by decide) (by decide) rfl (fun ls hl => ?_)
                                                  refine lv_goto (tgt := 5) hx hb dX11_take_82 (by decide) ?_
                                                  refine lv_iload hx hb dX11_take_5 (lv_at hl 0 rfl) ?_
                                                  refine lv_iload_n hx hb dX11_take_7 rfl (lv_at hl 3 rfl) ?_
                                                  refine lv_icmp_ge (tgt := 85) hx hb dX11_take_8 (by decide) (fun c_8_7 => ?_) (fun c_8_7 => ?_)
                                                  · exact absurd c_8_7 (by decide)
                                                  · have n_8_7 := nb_nle (a := 8) (b := 7) c_8_7 (by omega) (by omega)
                                                    refine lv_aload_n hx hb dX11_take_11 rfl (lv_at hl 2 rfl) ?_
                                                    refine lv_aload_n hx hb dX11_take_12 rfl (lv_at hl 2 rfl) ?_
                                                    refine k_mgi (v := 0) C G 18 (by decide) mr_18 rfl fl_X11_175 rfl dX11_take_13 ?_
                                                    refine lv_if_eq (tgt := 34) hx hb dX11_take_16 (by decide) (fun c_16_7 => ?_) (fun c_16_7 => ?_)
                                                    · have n_16_7 := nb_eq (a := 0) (b := 0) c_16_7 (by omega) (by omega)
                                                      refine lv_iconst (v := 0) hx hb dX11_take_34 (by decide) ?_
                                                      refine k_mpi (v := 0) (ty := .boolean) C G 18 (by decide) mr_18 fl_X11_175 rfl rfl rfl rfl rfl dX11_take_35 (fun H locs (G : wd Z A s (mdW Z h ad (upd (upd (upd (upd (upd (upd (upd (upd (upd (upd (upd (upd (upd (upd (upd iv 18 1) 16 (nI (a + 1))) 18 1) 16 (nI (a + 1 + 1))) 18 0) 16 (nI (a + 1 + 1 + 1))) 18 0) 16 (nI (a + 1 + 1 + 1 + 1))) 18 0) 16 (nI (a + 1 + 1 + 1 + 1 + 1))) 18 0) 16 (nI (a + 1 + 1 + 1 + 1 + 1 + 1))) 18 0) 16 (nI (a + 1 + 1 + 1 + 1 + 1 + 1 + 1))) 18 0) av) H locs) => ?_)
                                                      refine lv_lload_n hx hb dX11_take_38 rfl (lv_at hl 1 rfl) ?_
                                                      refine lv_bipush (v := 8) hx hb dX11_take_39 (by decide) ?_
                                                      refine lv_lshl (v := ((((((((((((((0 <<< ((8 : Int32).toInt64 &&& 63)) ||| ((((av 3) a).toInt64) &&& 255)) <<< ((8 : Int32).toInt64 &&& 63)) ||| ((((av 3) (a + 1)).toInt64) &&& 255)) <<< ((8 : Int32).toInt64 &&& 63)) ||| 0) <<< ((8 : Int32).toInt64 &&& 63)) ||| 0) <<< ((8 : Int32).toInt64 &&& 63)) ||| 0) <<< ((8 : Int32).toInt64 &&& 63)) ||| 0) <<< ((8 : Int32).toInt64 &&& 63)) ||| 0) <<< ((8 : Int32).toInt64 &&& 63)) hx hb dX11_take_41 rfl ?_
                                                      refine lv_aload_n hx hb dX11_take_42 rfl (lv_at hl 2 rfl) ?_
                                                      refine k_mgi (v := 0) C G 18 (by decide) mr_18 rfl fl_X11_175 rfl dX11_take_43 ?_
                                                      refine lv_if_eq (tgt := 66) hx hb dX11_take_46 (by decide) (fun c_46_7 => ?_) (fun c_46_7 => ?_)
                                                      · have n_46_7 := nb_eq (a := 0) (b := 0) c_46_7 (by omega) (by omega)
                                                        refine lv_lconst (v := 0) hx hb dX11_take_66 (by decide) ?_
                                                        refine lv_lor hx hb dX11_take_67 ?_
                                                        refine lv_lstore_n (lv' := [(2, .long ((((((((((((((((0 <<< ((8 : Int32).toInt64 &&& 63)) ||| ((((av 3) a).toInt64) &&& 255)) <<< ((8 : Int32).toInt64 &&& 63)) ||| ((((av 3) (a + 1)).toInt64) &&& 255)) <<< ((8 : Int32).toInt64 &&& 63)) ||| 0) <<< ((8 : Int32).toInt64 &&& 63)) ||| 0) <<< ((8 : Int32).toInt64 &&& 63)) ||| 0) <<< ((8 : Int32).toInt64 &&& 63)) ||| 0) <<< ((8 : Int32).toInt64 &&& 63)) ||| 0) <<< ((8 : Int32).toInt64 &&& 63)) ||| 0)), (4, .int 7), (0, .ref h), (1, .int 8)]) hx hb dX11_take_68 rfl hl (by decide) rfl (fun ls hl => ?_)
                                                        refine lv_aload_n hx hb dX11_take_69 rfl (lv_at hl 2 rfl) ?_
                                                        refine lv_dup hx hb dX11_take_70 rfl ?_
                                                        refine k_mgi (v := nI (a + 1 + 1 + 1 + 1 + 1 + 1 + 1)) C G 16 (by decide) mr_16 rfl fl_X11_179 rfl dX11_take_71 ?_
                                                        refine lv_iconst (v := 1) hx hb dX11_take_74 (by decide) ?_
                                                        refine lv_iadd hx hb dX11_take_75 ?_
                                                        refine k_topi (y := nI (a + 1 + 1 + 1 + 1 + 1 + 1 + 1 + 1)) (nI_add (a + 1 + 1 + 1 + 1 + 1 + 1 + 1) 1) ?_
                                                        refine k_mpi (v := nI (a + 1 + 1 + 1 + 1 + 1 + 1 + 1 + 1)) (ty := .int) C G 16 (by decide) mr_16 fl_X11_179 rfl rfl rfl rfl rfl dX11_take_76 (fun H locs (G : wd Z A s (mdW Z h ad (upd (upd (upd (upd (upd (upd (upd (upd (upd (upd (upd (upd (upd (upd (upd (upd iv 18 1) 16 (nI (a + 1))) 18 1) 16 (nI (a + 1 + 1))) 18 0) 16 (nI (a + 1 + 1 + 1))) 18 0) 16 (nI (a + 1 + 1 + 1 + 1))) 18 0) 16 (nI (a + 1 + 1 + 1 + 1 + 1))) 18 0) 16 (nI (a + 1 + 1 + 1 + 1 + 1 + 1))) 18 0) 16 (nI (a + 1 + 1 + 1 + 1 + 1 + 1 + 1))) 18 0) 16 (nI (a + 1 + 1 + 1 + 1 + 1 + 1 + 1 + 1))) av) H locs) => ?_)
                                                        refine lv_iinc (v := 8) (lv' := [(4, .int 8), (2, .long ((((((((((((((((0 <<< ((8 : Int32).toInt64 &&& 63)) ||| ((((av 3) a).toInt64) &&& 255)) <<< ((8 : Int32).toInt64 &&& 63)) ||| ((((av 3) (a + 1)).toInt64) &&& 255)) <<< ((8 : Int32).toInt64 &&& 63)) ||| 0) <<< ((8 : Int32).toInt64 &&& 63)) ||| 0) <<< ((8 : Int32).toInt64 &&& 63)) ||| 0) <<< ((8 : Int32).toInt64 &&& 63)) ||| 0) <<< ((8 : Int32).toInt64 &&& 63)) ||| 0) <<< ((8 : Int32).toInt64 &&& 63)) ||| 0)), (0, .ref h), (1, .int 8)]) hx hb dX11_take_79 hl (k := 1) rfl (by decide) (by decide) rfl (fun ls hl => ?_)
                                                        refine lv_goto (tgt := 5) hx hb dX11_take_82 (by decide) ?_
                                                        refine lv_iload hx hb dX11_take_5 (lv_at hl 0 rfl) ?_
                                                        refine lv_iload_n hx hb dX11_take_7 rfl (lv_at hl 3 rfl) ?_
                                                        refine lv_icmp_ge (tgt := 85) hx hb dX11_take_8 (by decide) (fun c_8_8 => ?_) (fun c_8_8 => ?_)
                                                        · have n_8_8 := nb_le (a := 8) (b := 8) c_8_8 (by omega) (by omega)
                                                          refine lv_lload_n hx hb dX11_take_85 rfl (lv_at hl 1 rfl) ?_
                                                          exact kr_l C G ⟨_, rfl, ((((((((((((((((sI.rf.up (by decide) _).up (by decide) _).up (by decide) _).up (by decide) _).up (by decide) _).up (by decide) _).up (by decide) _).up (by decide) _).up (by decide) _).up (by decide) _).up (by decide) _).up (by decide) _).up (by decide) _).up (by decide) _).up (by decide) _).up (by decide) _), rfl, Or.inr ⟨fun z => absurd z.2 (by omega), rfl⟩⟩ (Nat.le_of_ble_eq_true rfl) (Nat.le_of_ble_eq_true rfl) dX11_take_86
                                                        · exact absurd c_8_8 (by decide)
                                                      · exact absurd c_46_7 (by decide)
                                                    · exact absurd c_16_7 (by decide)
                                                · exact absurd c_46_6 (by decide)
                                              · exact absurd c_16_6 (by decide)
                                          · exact absurd c_46_5 (by decide)
                                        · exact absurd c_16_5 (by decide)
                                    · exact absurd c_46_4 (by decide)
                                  · exact absurd c_16_4 (by decide)
                              · exact absurd c_46_3 (by decide)
                            · exact absurd c_16_3 (by decide)
                        · exact absurd c_46_2 (by decide)
                      · have n_27_2 := nb_nle (a := en) (b := a + 1 + 1) c_27_2 (by omega) (by omega)
                        refine lv_iconst (v := 1) hx hb dX11_take_30 (by decide) ?_
                        refine lv_goto (tgt := 35) hx hb dX11_take_31 (by decide) ?_
                        refine k_mpi (v := 1) (ty := .boolean) C G 18 (by decide) mr_18 fl_X11_175 rfl rfl rfl rfl rfl dX11_take_35 (fun H locs (G : wd Z A s (mdW Z h ad (upd (upd (upd (upd (upd iv 18 1) 16 (nI (a + 1))) 18 1) 16 (nI (a + 1 + 1))) 18 1) av) H locs) => ?_)
                        refine lv_lload_n hx hb dX11_take_38 rfl (lv_at hl 1 rfl) ?_
                        refine lv_bipush (v := 8) hx hb dX11_take_39 (by decide) ?_
                        refine lv_lshl (v := ((((0 <<< ((8 : Int32).toInt64 &&& 63)) ||| ((((av 3) a).toInt64) &&& 255)) <<< ((8 : Int32).toInt64 &&& 63)) ||| ((((av 3) (a + 1)).toInt64) &&& 255)) <<< ((8 : Int32).toInt64 &&& 63)) hx hb dX11_take_41 rfl ?_
                        refine lv_aload_n hx hb dX11_take_42 rfl (lv_at hl 2 rfl) ?_
                        refine k_mgi (v := 1) C G 18 (by decide) mr_18 rfl fl_X11_175 rfl dX11_take_43 ?_
                        refine lv_if_eq (tgt := 66) hx hb dX11_take_46 (by decide) (fun c_46_2 => ?_) (fun c_46_2 => ?_)
                        · exact absurd c_46_2 (by decide)
                        · have n_46_2 := nb_ne (a := 1) (b := 0) c_46_2 (by omega) (by omega)
                          refine lv_aload_n hx hb dX11_take_49 rfl (lv_at hl 2 rfl) ?_
                          refine k_mga C G 3 (by decide) mr_3 fl_X11_20 rfl dX11_take_50 ?_
                          refine lv_aload_n hx hb dX11_take_53 rfl (lv_at hl 2 rfl) ?_
                          refine k_mgi (v := nI (a + 1 + 1)) C G 16 (by decide) mr_16 rfl fl_X11_179 rfl dX11_take_54 ?_
                          refine k_mbl (v := (av 3) (a + 1 + 1)) (i := a + 1 + 1) C G 3 (k := 3) (n := 140000) mp_3 (by decide) (by omega) rfl dX11_take_57 ?_
                          refine lv_i2l (v := ((av 3) (a + 1 + 1)).toInt64) hx hb dX11_take_58 rfl ?_
                          refine lv_ldc2 (v := 255) hx hb hown (hts _ kl_X11_185) dX11_take_59 ?_
                          refine lv_land hx hb dX11_take_62 ?_
                          refine lv_goto (tgt := 67) hx hb dX11_take_63 (by decide) ?_
                          refine lv_lor hx hb dX11_take_67 ?_
                          refine lv_lstore_n (lv' := [(2, .long ((((((0 <<< ((8 : Int32).toInt64 &&& 63)) ||| ((((av 3) a).toInt64) &&& 255)) <<< ((8 : Int32).toInt64 &&& 63)) ||| ((((av 3) (a + 1)).toInt64) &&& 255)) <<< ((8 : Int32).toInt64 &&& 63)) ||| ((((av 3) (a + 1 + 1)).toInt64) &&& 255))), (4, .int 2), (0, .ref h), (1, .int 8)]) hx hb dX11_take_68 rfl hl (by decide) rfl (fun ls hl => ?_)
                          refine lv_aload_n hx hb dX11_take_69 rfl (lv_at hl 2 rfl) ?_
                          refine lv_dup hx hb dX11_take_70 rfl ?_
                          refine k_mgi (v := nI (a + 1 + 1)) C G 16 (by decide) mr_16 rfl fl_X11_179 rfl dX11_take_71 ?_
                          refine lv_iconst (v := 1) hx hb dX11_take_74 (by decide) ?_
                          refine lv_iadd hx hb dX11_take_75 ?_
                          refine k_topi (y := nI (a + 1 + 1 + 1)) (nI_add (a + 1 + 1) 1) ?_
                          refine k_mpi (v := nI (a + 1 + 1 + 1)) (ty := .int) C G 16 (by decide) mr_16 fl_X11_179 rfl rfl rfl rfl rfl dX11_take_76 (fun H locs (G : wd Z A s (mdW Z h ad (upd (upd (upd (upd (upd (upd iv 18 1) 16 (nI (a + 1))) 18 1) 16 (nI (a + 1 + 1))) 18 1) 16 (nI (a + 1 + 1 + 1))) av) H locs) => ?_)
                          refine lv_iinc (v := 3) (lv' := [(4, .int 3), (2, .long ((((((0 <<< ((8 : Int32).toInt64 &&& 63)) ||| ((((av 3) a).toInt64) &&& 255)) <<< ((8 : Int32).toInt64 &&& 63)) ||| ((((av 3) (a + 1)).toInt64) &&& 255)) <<< ((8 : Int32).toInt64 &&& 63)) ||| ((((av 3) (a + 1 + 1)).toInt64) &&& 255))), (0, .ref h), (1, .int 8)]) hx hb dX11_take_79 hl (k := 1) rfl (by decide) (by decide) rfl (fun ls hl => ?_)
                          refine lv_goto (tgt := 5) hx hb dX11_take_82 (by decide) ?_
                          refine lv_iload hx hb dX11_take_5 (lv_at hl 0 rfl) ?_
                          refine lv_iload_n hx hb dX11_take_7 rfl (lv_at hl 3 rfl) ?_
                          refine lv_icmp_ge (tgt := 85) hx hb dX11_take_8 (by decide) (fun c_8_3 => ?_) (fun c_8_3 => ?_)
                          · exact absurd c_8_3 (by decide)
                          · have n_8_3 := nb_nle (a := 8) (b := 3) c_8_3 (by omega) (by omega)
                            refine lv_aload_n hx hb dX11_take_11 rfl (lv_at hl 2 rfl) ?_
                            refine lv_aload_n hx hb dX11_take_12 rfl (lv_at hl 2 rfl) ?_
                            refine k_mgi (v := 1) C G 18 (by decide) mr_18 rfl fl_X11_175 rfl dX11_take_13 ?_
                            refine lv_if_eq (tgt := 34) hx hb dX11_take_16 (by decide) (fun c_16_3 => ?_) (fun c_16_3 => ?_)
                            · exact absurd c_16_3 (by decide)
                            · have n_16_3 := nb_ne (a := 1) (b := 0) c_16_3 (by omega) (by omega)
                              refine lv_aload_n hx hb dX11_take_19 rfl (lv_at hl 2 rfl) ?_
                              refine k_mgi (v := nI (a + 1 + 1 + 1)) C G 16 (by decide) mr_16 rfl fl_X11_179 rfl dX11_take_20 ?_
                              refine lv_aload_n hx hb dX11_take_23 rfl (lv_at hl 2 rfl) ?_
                              refine k_mgi (v := nI en) C G 17 (by decide) mr_17 hen fl_X11_182 rfl dX11_take_24 ?_
                              refine lv_icmp_ge (tgt := 34) hx hb dX11_take_27 (by decide) (fun c_27_3 => ?_) (fun c_27_3 => ?_)
                              · have n_27_3 := nb_le (a := en) (b := a + 1 + 1 + 1) c_27_3 (by omega) (by omega)
                                refine lv_iconst (v := 0) hx hb dX11_take_34 (by decide) ?_
                                refine k_mpi (v := 0) (ty := .boolean) C G 18 (by decide) mr_18 fl_X11_175 rfl rfl rfl rfl rfl dX11_take_35 (fun H locs (G : wd Z A s (mdW Z h ad (upd (upd (upd (upd (upd (upd (upd iv 18 1) 16 (nI (a + 1))) 18 1) 16 (nI (a + 1 + 1))) 18 1) 16 (nI (a + 1 + 1 + 1))) 18 0) av) H locs) => ?_)
                                refine lv_lload_n hx hb dX11_take_38 rfl (lv_at hl 1 rfl) ?_
                                refine lv_bipush (v := 8) hx hb dX11_take_39 (by decide) ?_
                                refine lv_lshl (v := ((((((0 <<< ((8 : Int32).toInt64 &&& 63)) ||| ((((av 3) a).toInt64) &&& 255)) <<< ((8 : Int32).toInt64 &&& 63)) ||| ((((av 3) (a + 1)).toInt64) &&& 255)) <<< ((8 : Int32).toInt64 &&& 63)) ||| ((((av 3) (a + 1 + 1)).toInt64) &&& 255)) <<< ((8 : Int32).toInt64 &&& 63)) hx hb dX11_take_41 rfl ?_
                                refine lv_aload_n hx hb dX11_take_42 rfl (lv_at hl 2 rfl) ?_
                                refine k_mgi (v := 0) C G 18 (by decide) mr_18 rfl fl_X11_175 rfl dX11_take_43 ?_
                                refine lv_if_eq (tgt := 66) hx hb dX11_take_46 (by decide) (fun c_46_3 => ?_) (fun c_46_3 => ?_)
                                · have n_46_3 := nb_eq (a := 0) (b := 0) c_46_3 (by omega) (by omega)
                                  refine lv_lconst (v := 0) hx hb dX11_take_66 (by decide) ?_
                                  refine lv_lor hx hb dX11_take_67 ?_
                                  refine lv_lstore_n (lv' := [(2, .long ((((((((0 <<< ((8 : Int32).toInt64 &&& 63)) ||| ((((av 3) a).toInt64) &&& 255)) <<< ((8 : Int32).toInt64 &&& 63)) ||| ((((av 3) (a + 1)).toInt64) &&& 255)) <<< ((8 : Int32).toInt64 &&& 63)) ||| ((((av 3) (a + 1 + 1)).toInt64) &&& 255)) <<< ((8 : Int32).toInt64 &&& 63)) ||| 0)), (4, .int 3), (0, .ref h), (1, .int 8)]) hx hb dX11_take_68 rfl hl (by decide) rfl (fun ls hl => ?_)
                                  refine lv_aload_n hx hb dX11_take_69 rfl (lv_at hl 2 rfl) ?_
                                  refine lv_dup hx hb dX11_take_70 rfl ?_
                                  refine k_mgi (v := nI (a + 1 + 1 + 1)) C G 16 (by decide) mr_16 rfl fl_X11_179 rfl dX11_take_71 ?_
                                  refine lv_iconst (v := 1) hx hb dX11_take_74 (by decide) ?_
                                  refine lv_iadd hx hb dX11_take_75 ?_
                                  refine k_topi (y := nI (a + 1 + 1 + 1 + 1)) (nI_add (a + 1 + 1 + 1) 1) ?_
                                  refine k_mpi (v := nI (a + 1 + 1 + 1 + 1)) (ty := .int) C G 16 (by decide) mr_16 fl_X11_179 rfl rfl rfl rfl rfl dX11_take_76 (fun H locs (G : wd Z A s (mdW Z h ad (upd (upd (upd (upd (upd (upd (upd (upd iv 18 1) 16 (nI (a + 1))) 18 1) 16 (nI (a + 1 + 1))) 18 1) 16 (nI (a + 1 + 1 + 1))) 18 0) 16 (nI (a + 1 + 1 + 1 + 1))) av) H locs) => ?_)
                                  refine lv_iinc (v := 4) (lv' := [(4, .int 4), (2, .long ((((((((0 <<< ((8 : Int32).toInt64 &&& 63)) ||| ((((av 3) a).toInt64) &&& 255)) <<< ((8 : Int32).toInt64 &&& 63)) ||| ((((av 3) (a + 1)).toInt64) &&& 255)) <<< ((8 : Int32).toInt64 &&& 63)) ||| ((((av 3) (a + 1 + 1)).toInt64) &&& 255)) <<< ((8 : Int32).toInt64 &&& 63)) ||| 0)), (0, .ref h), (1, .int 8)]) hx hb dX11_take_79 hl (k := 1) rfl (by decide) (by decide) rfl (fun ls hl => ?_)
                                  refine lv_goto (tgt := 5) hx hb dX11_take_82 (by decide) ?_
                                  refine lv_iload hx hb dX11_take_5 (lv_at hl 0 rfl) ?_
                                  refine lv_iload_n hx hb dX11_take_7 rfl (lv_at hl 3 rfl) ?_
                                  refine lv_icmp_ge (tgt := 85) hx hb dX11_take_8 (by decide) (fun c_8_4 => ?_) (fun c_8_4 => ?_)
                                  · exact absurd c_8_4 (by decide)
                                  · have n_8_4 := nb_nle (a := 8) (b := 4) c_8_4 (by omega) (by omega)
                                    refine lv_aload_n hx hb dX11_take_11 rfl (lv_at hl 2 rfl) ?_
                                    refine lv_aload_n hx hb dX11_take_12 rfl (lv_at hl 2 rfl) ?_
                                    refine k_mgi (v := 0) C G 18 (by decide) mr_18 rfl fl_X11_175 rfl dX11_take_13 ?_
                                    refine lv_if_eq (tgt := 34) hx hb dX11_take_16 (by decide) (fun c_16_4 => ?_) (fun c_16_4 => ?_)
                                    · have n_16_4 := nb_eq (a := 0) (b := 0) c_16_4 (by omega) (by omega)
                                      refine lv_iconst (v := 0) hx hb dX11_take_34 (by decide) ?_
                                      refine k_mpi (v := 0) (ty := .boolean) C G 18 (by decide) mr_18 fl_X11_175 rfl rfl rfl rfl rfl dX11_take_35 (fun H locs (G : wd Z A s (mdW Z h ad (upd (upd (upd (upd (upd (upd (upd (upd (upd iv 18 1) 16 (nI (a + 1))) 18 1) 16 (nI (a + 1 + 1))) 18 1) 16 (nI (a + 1 + 1 + 1))) 18 0) 16 (nI (a + 1 + 1 + 1 + 1))) 18 0) av) H locs) => ?_)
                                      refine lv_lload_n hx hb dX11_take_38 rfl (lv_at hl 1 rfl) ?_
                                      refine lv_bipush (v := 8) hx hb dX11_take_39 (by decide) ?_
                                      refine lv_lshl (v := ((((((((0 <<< ((8 : Int32).toInt64 &&& 63)) ||| ((((av 3) a).toInt64) &&& 255)) <<< ((8 : Int32).toInt64 &&& 63)) ||| ((((av 3) (a + 1)).toInt64) &&& 255)) <<< ((8 : Int32).toInt64 &&& 63)) ||| ((((av 3) (a + 1 + 1)).toInt64) &&& 255)) <<< ((8 : Int32).toInt64 &&& 63)) ||| 0) <<< ((8 : Int32).toInt64 &&& 63)) hx hb dX11_take_41 rfl ?_
                                      refine lv_aload_n hx hb dX11_take_42 rfl (lv_at hl 2 rfl) ?_
                                      refine k_mgi (v := 0) C G 18 (by decide) mr_18 rfl fl_X11_175 rfl dX11_take_43 ?_
                                      refine lv_if_eq (tgt := 66) hx hb dX11_take_46 (by decide) (fun c_46_4 => ?_) (fun c_46_4 => ?_)
                                      · have n_46_4 := nb_eq (a := 0) (b := 0) c_46_4 (by omega) (by omega)
                                        refine lv_lconst (v := 0) hx hb dX11_take_66 (by decide) ?_
                                        refine lv_lor hx hb dX11_take_67 ?_
                                        refine lv_lstore_n (lv' := [(2, .long ((((((((((0 <<< ((8 : Int32).toInt64 &&& 63)) ||| ((((av 3) a).toInt64) &&& 255)) <<< ((8 : Int32).toInt64 &&& 63)) ||| ((((av 3) (a + 1)).toInt64) &&& 255)) <<< ((8 : Int32).toInt64 &&& 63)) ||| ((((av 3) (a + 1 + 1)).toInt64) &&& 255)) <<< ((8 : Int32).toInt64 &&& 63)) ||| 0) <<< ((8 : Int32).toInt64 &&& 63)) ||| 0)), (4, .int 4), (0, .ref h), (1, .int 8)]) hx hb dX11_take_68 rfl hl (by decide) rfl (fun ls hl => ?_)
                                        refine lv_aload_n hx hb dX11_take_69 rfl (lv_at hl 2 rfl) ?_
                                        refine lv_dup hx hb dX11_take_70 rfl ?_
                                        refine k_mgi (v := nI (a + 1 + 1 + 1 + 1)) C G 16 (by decide) mr_16 rfl fl_X11_179 rfl dX11_take_71 ?_
                                        refine lv_iconst (v := 1) hx hb dX11_take_74 (by decide) ?_
                                        refine lv_iadd hx hb dX11_take_75 ?_
                                        refine k_topi (y := nI (a + 1 + 1 + 1 + 1 + 1)) (nI_add (a + 1 + 1 + 1 + 1) 1) ?_
                                        refine k_mpi (v := nI (a + 1 + 1 + 1 + 1 + 1)) (ty := .int) C G 16 (by decide) mr_16 fl_X11_179 rfl rfl rfl rfl rfl dX11_take_76 (fun H locs (G : wd Z A s (mdW Z h ad (upd (upd (upd (upd (upd (upd (upd (upd (upd (upd iv 18 1) 16 (nI (a + 1))) 18 1) 16 (nI (a + 1 + 1))) 18 1) 16 (nI (a + 1 + 1 + 1))) 18 0) 16 (nI (a + 1 + 1 + 1 + 1))) 18 0) 16 (nI (a + 1 + 1 + 1 + 1 + 1))) av) H locs) => ?_)
                                        refine lv_iinc (v := 5) (lv' := [(4, .int 5), (2, .long ((((((((((0 <<< ((8 : Int32).toInt64 &&& 63)) ||| ((((av 3) a).toInt64) &&& 255)) <<< ((8 : Int32).toInt64 &&& 63)) ||| ((((av 3) (a + 1)).toInt64) &&& 255)) <<< ((8 : Int32).toInt64 &&& 63)) ||| ((((av 3) (a + 1 + 1)).toInt64) &&& 255)) <<< ((8 : Int32).toInt64 &&& 63)) ||| 0) <<< ((8 : Int32).toInt64 &&& 63)) ||| 0)), (0, .ref h), (1, .int 8)]) hx hb dX11_take_79 hl (k := 1) rfl (by decide) (by decide) rfl (fun ls hl => ?_)
                                        refine lv_goto (tgt := 5) hx hb dX11_take_82 (by decide) ?_
                                        refine lv_iload hx hb dX11_take_5 (lv_at hl 0 rfl) ?_
                                        refine lv_iload_n hx hb dX11_take_7 rfl (lv_at hl 3 rfl) ?_
                                        refine lv_icmp_ge (tgt := 85) hx hb dX11_take_8 (by decide) (fun c_8_5 => ?_) (fun c_8_5 => ?_)
                                        · exact absurd c_8_5 (by decide)
                                        · have n_8_5 := nb_nle (a := 8) (b := 5) c_8_5 (by omega) (by omega)
                                          refine lv_aload_n hx hb dX11_take_11 rfl (lv_at hl 2 rfl) ?_
                                          refine lv_aload_n hx hb dX11_take_12 rfl (lv_at hl 2 rfl) ?_
                                          refine k_mgi (v := 0) C G 18 (by decide) mr_18 rfl fl_X11_175 rfl dX11_take_13 ?_
                                          refine lv_if_eq (tgt := 34) hx hb dX11_take_16 (by decide) (fun c_16_5 => ?_) (fun c_16_5 => ?_)
                                          · have n_16_5 := nb_eq (a := 0) (b := 0) c_16_5 (by omega) (by omega)
                                            refine lv_iconst (v := 0) hx hb dX11_take_34 (by decide) ?_
                                            refine k_mpi (v := 0) (ty := .boolean) C G 18 (by decide) mr_18 fl_X11_175 rfl rfl rfl rfl rfl dX11_take_35 (fun H locs (G : wd Z A s (mdW Z h ad (upd (upd (upd (upd (upd (upd (upd (upd (upd (upd (upd iv 18 1) 16 (nI (a + 1))) 18 1) 16 (nI (a + 1 + 1))) 18 1) 16 (nI (a + 1 + 1 + 1))) 18 0) 16 (nI (a + 1 + 1 + 1 + 1))) 18 0) 16 (nI (a + 1 + 1 + 1 + 1 + 1))) 18 0) av) H locs) => ?_)
                                            refine lv_lload_n hx hb dX11_take_38 rfl (lv_at hl 1 rfl) ?_
                                            refine lv_bipush (v := 8) hx hb dX11_take_39 (by decide) ?_
                                            refine lv_lshl (v := ((((((((((0 <<< ((8 : Int32).toInt64 &&& 63)) ||| ((((av 3) a).toInt64) &&& 255)) <<< ((8 : Int32).toInt64 &&& 63)) ||| ((((av 3) (a + 1)).toInt64) &&& 255)) <<< ((8 : Int32).toInt64 &&& 63)) ||| ((((av 3) (a + 1 + 1)).toInt64) &&& 255)) <<< ((8 : Int32).toInt64 &&& 63)) ||| 0) <<< ((8 : Int32).toInt64 &&& 63)) ||| 0) <<< ((8 : Int32).toInt64 &&& 63)) hx hb dX11_take_41 rfl ?_
                                            refine lv_aload_n hx hb dX11_take_42 rfl (lv_at hl 2 rfl) ?_
                                            refine k_mgi (v := 0) C G 18 (by decide) mr_18 rfl fl_X11_175 rfl dX11_take_43 ?_
                                            refine lv_if_eq (tgt := 66) hx hb dX11_take_46 (by decide) (fun c_46_5 => ?_) (fun c_46_5 => ?_)
                                            · have n_46_5 := nb_eq (a := 0) (b := 0) c_46_5 (by omega) (by omega)
                                              refine lv_lconst (v := 0) hx hb dX11_take_66 (by decide) ?_
                                              refine lv_lor hx hb dX11_take_67 ?_
                                              refine lv_lstore_n (lv' := [(2, .long ((((((((((((0 <<< ((8 : Int32).toInt64 &&& 63)) ||| ((((av 3) a).toInt64) &&& 255)) <<< ((8 : Int32).toInt64 &&& 63)) ||| ((((av 3) (a + 1)).toInt64) &&& 255)) <<< ((8 : Int32).toInt64 &&& 63)) ||| ((((av 3) (a + 1 + 1)).toInt64) &&& 255)) <<< ((8 : Int32).toInt64 &&& 63)) ||| 0) <<< ((8 : Int32).toInt64 &&& 63)) ||| 0) <<< ((8 : Int32).toInt64 &&& 63)) ||| 0)), (4, .int 5), (0, .ref h), (1, .int 8)]) hx hb dX11_take_68 rfl hl (by decide) rfl (fun ls hl => ?_)
                                              refine lv_aload_n hx hb dX11_take_69 rfl (lv_at hl 2 rfl) ?_
                                              refine lv_dup hx hb dX11_take_70 rfl ?_
                                              refine k_mgi (v := nI (a + 1 + 1 + 1 + 1 + 1)) C G 16 (by decide) mr_16 rfl fl_X11_179 rfl dX11_take_71 ?_
                                              refine lv_iconst (v := 1) hx hb dX11_take_74 (by decide) ?_
                                              refine lv_iadd hx hb dX11_take_75 ?_
                                              refine k_topi (y := nI (a + 1 + 1 + 1 + 1 + 1 + 1)) (nI_add (a + 1 + 1 + 1 + 1 + 1) 1) ?_
                                              refine k_mpi (v := nI (a + 1 + 1 + 1 + 1 + 1 + 1)) (ty := .int) C G 16 (by decide) mr_16 fl_X11_179 rfl rfl rfl rfl rfl dX11_take_76 (fun H locs (G : wd Z A s (mdW Z h ad (upd (upd (upd (upd (upd (upd (upd (upd (upd (upd (upd (upd iv 18 1) 16 (nI (a + 1))) 18 1) 16 (nI (a + 1 + 1))) 18 1) 16 (nI (a + 1 + 1 + 1))) 18 0) 16 (nI (a + 1 + 1 + 1 + 1))) 18 0) 16 (nI (a + 1 + 1 + 1 + 1 + 1))) 18 0) 16 (nI (a + 1 + 1 + 1 + 1 + 1 + 1))) av) H locs) => ?_)
                                              refine lv_iinc (v := 6) (lv' := [(4, .int 6), (2, .long ((((((((((((0 <<< ((8 : Int32).toInt64 &&& 63)) ||| ((((av 3) a).toInt64) &&& 255)) <<< ((8 : Int32).toInt64 &&& 63)) ||| ((((av 3) (a + 1)).toInt64) &&& 255)) <<< ((8 : Int32).toInt64 &&& 63)) ||| ((((av 3) (a + 1 + 1)).toInt64) &&& 255)) <<< ((8 : Int32).toInt64 &&& 63)) ||| 0) <<< ((8 : Int32).toInt64 &&& 63)) ||| 0) <<< ((8 : Int32).toInt64 &&& 63)) ||| 0)), (0, .ref h), (1, .int 8)]) hx hb dX11_take_79 hl (k := 1) rfl (by decide) (by decide) rfl (fun ls hl => ?_)
                                              refine lv_goto (tgt := 5) hx hb dX11_take_82 (by decide) ?_
                                              refine lv_iload hx hb dX11_take_5 (lv_at hl 0 rfl) ?_
                                              refine lv_iload_n hx hb dX11_take_7 rfl (lv_at hl 3 rfl) ?_
                                              refine lv_icmp_ge (tgt := 85) hx hb dX11_take_8 (by decide) (fun c_8_6 => ?_) (fun c_8_6 => ?_)
                                              · exact absurd c_8_6 (by decide)
                                              · have n_8_6 := nb_nle (a := 8) (b := 6) c_8_6 (by omega) (by omega)
                                                refine lv_aload_n hx hb dX11_take_11 rfl (lv_at hl 2 rfl) ?_
                                                refine lv_aload_n hx hb dX11_take_12 rfl (lv_at hl 2 rfl) ?_
                                                refine k_mgi (v := 0) C G 18 (by decide) mr_18 rfl fl_X11_175 rfl dX11_take_13 ?_
                                                refine lv_if_eq (tgt := 34) hx hb dX11_take_16 (by decide) (fun c_16_6 => ?_) (fun c_16_6 => ?_)
                                                · have n_16_6 := nb_eq (a := 0) (b := 0) c_16_6 (by omega) (by omega)
                                                  refine lv_iconst (v := 0) hx hb dX11_take_34 (by decide) ?_
                                                  refine k_mpi (v := 0) (ty := .boolean) C G 18 (by decide) mr_18 fl_X11_175 rfl rfl rfl rfl rfl dX11_take_35 (fun H locs (G : wd Z A s (mdW Z h ad (upd (upd (upd (upd (upd (upd (upd (upd (upd (upd (upd (upd (upd iv 18 1) 16 (nI (a + 1))) 18 1) 16 (nI (a + 1 + 1))) 18 1) 16 (nI (a + 1 + 1 + 1))) 18 0) 16 (nI (a + 1 + 1 + 1 + 1))) 18 0) 16 (nI (a + 1 + 1 + 1 + 1 + 1))) 18 0) 16 (nI (a + 1 + 1 + 1 + 1 + 1 + 1))) 18 0) av) H locs) => ?_)
                                                  refine lv_lload_n hx hb dX11_take_38 rfl (lv_at hl 1 rfl) ?_
                                                  refine lv_bipush (v := 8) hx hb dX11_take_39 (by decide) ?_
                                                  refine lv_lshl (v := ((((((((((((0 <<< ((8 : Int32).toInt64 &&& 63)) ||| ((((av 3) a).toInt64) &&& 255)) <<< ((8 : Int32).toInt64 &&& 63)) ||| ((((av 3) (a + 1)).toInt64) &&& 255)) <<< ((8 : Int32).toInt64 &&& 63)) ||| ((((av 3) (a + 1 + 1)).toInt64) &&& 255)) <<< ((8 : Int32).toInt64 &&& 63)) ||| 0) <<< ((8 : Int32).toInt64 &&& 63)) ||| 0) <<< ((8 : Int32).toInt64 &&& 63)) ||| 0) <<< ((8 : Int32).toInt64 &&& 63)) hx hb dX11_take_41 rfl ?_
                                                  refine lv_aload_n hx hb dX11_take_42 rfl (lv_at hl 2 rfl) ?_
                                                  refine k_mgi (v := 0) C G 18 (by decide) mr_18 rfl fl_X11_175 rfl dX11_take_43 ?_
                                                  refine lv_if_eq (tgt := 66) hx hb dX11_take_46 (by decide) (fun c_46_6 => ?_) (fun c_46_6 => ?_)
                                                  · have n_46_6 := nb_eq (a := 0) (b := 0) c_46_6 (by omega) (by omega)
                                                    refine lv_lconst (v := 0) hx hb dX11_take_66 (by decide) ?_
                                                    refine lv_lor hx hb dX11_take_67 ?_
                                                    refine lv_lstore_n (lv' := [(2, .long ((((((((((((((0 <<< ((8 : Int32).toInt64 &&& 63)) ||| ((((av 3) a).toInt64) &&& 255)) <<< ((8 : Int32).toInt64 &&& 63)) ||| ((((av 3) (a + 1)).toInt64) &&& 255)) <<< ((8 : Int32).toInt64 &&& 63)) ||| ((((av 3) (a + 1 + 1)).toInt64) &&& 255)) <<< ((8 : Int32).toInt64 &&& 63)) ||| 0) <<< ((8 : Int32).toInt64 &&& 63)) ||| 0) <<< ((8 : Int32).toInt64 &&& 63)) ||| 0) <<< ((8 : Int32).toInt64 &&& 63)) ||| 0)), (4, .int 6), (0, .ref h), (1, .int 8)]) hx hb dX11_take_68 rfl hl (by decide) rfl (fun ls hl => ?_)
                                                    refine lv_aload_n hx hb dX11_take_69 rfl (lv_at hl 2 rfl) ?_
                                                    refine lv_dup hx hb dX11_take_70 rfl ?_
                                                    refine k_mgi (v := nI (a + 1 + 1 + 1 + 1 + 1 + 1)) C G 16 (by decide) mr_16 rfl fl_X11_179 rfl dX11_take_71 ?_
                                                    refine lv_iconst (v := 1) hx hb dX11_take_74 (by decide) ?_
                                                    refine lv_iadd hx hb dX11_take_75 ?_
                                                    refine k_topi (y := nI (a + 1 + 1 + 1 + 1 + 1 + 1 + 1)) (nI_add (a + 1 + 1 + 1 + 1 + 1 + 1) 1) ?_
                                                    refine k_mpi (v := nI (a + 1 + 1 + 1 + 1 + 1 + 1 + 1)) (ty := .int) C G 16 (by decide) mr_16 fl_X11_179 rfl rfl rfl rfl rfl dX11_take_76 (fun H locs (G : wd Z A s (mdW Z h ad (upd (upd (upd (upd (upd (upd (upd (upd (upd (upd (upd (upd (upd (upd iv 18 1) 16 (nI (a + 1))) 18 1) 16 (nI (a + 1 + 1))) 18 1) 16 (nI (a + 1 + 1 + 1))) 18 0) 16 (nI (a + 1 + 1 + 1 + 1))) 18 0) 16 (nI (a + 1 + 1 + 1 + 1 + 1))) 18 0) 16 (nI (a + 1 + 1 + 1 + 1 + 1 + 1))) 18 0) 16 (nI (a + 1 + 1 + 1 + 1 + 1 + 1 + 1))) av) H locs) => ?_)
                                                    refine lv_iinc (v := 7) (lv' := [(4, .int 7), (2, .long ((((((((((((((0 <<< ((8 : Int32).toInt64 &&& 63)) ||| ((((av 3) a).toInt64) &&& 255)) <<< ((8 : Int32).toInt64 &&& 63)) ||| ((((av 3) (a + 1)).toInt64) &&& 255)) <<< ((8 : Int32).toInt64 &&& 63)) ||| ((((av 3) (a + 1 + 1)).toInt64) &&& 255)) <<< ((8 : Int32).toInt64 &&& 63)) ||| 0) <<< ((8 : Int32).toInt64 &&& 63)) ||| 0) <<< ((8 : Int32).toInt64 &&& 63)) ||| 0) <<< ((8 : Int32).toInt64 &&& 63)) ||| 0)), (0, .ref h), (1, .int 8)]) hx hb dX11_take_79 hl (k := 1) rfl (by decide) (by decide) rfl (fun ls hl => ?_)
                                                    refine lv_goto (tgt := 5) hx hb dX11_take_82 (by decide) ?_
                                                    refine lv_iload hx hb dX11_take_5 (lv_at hl 0 rfl) ?_
                                                    refine lv_iload_n hx hb dX11_take_7 rfl (lv_at hl 3 rfl) ?_
                                                    refine lv_icmp_ge (tgt := 85) hx hb dX11_take_8 (by decide) (fun c_8_7 => ?_) (fun c_8_7 => ?_)
                                                    · exact absurd c_8_7 (by decide)
                                                    · have n_8_7 := nb_nle (a := 8) (b := 7) c_8_7 (by omega) (by omega)
                                                      refine lv_aload_n hx hb dX11_take_11 rfl (lv_at hl 2 rfl) ?_
                                                      refine lv_aload_n hx hb dX11_take_12 rfl (lv_at hl 2 rfl) ?_
                                                      refine k_mgi (v := 0) C G 18 (by decide) mr_18 rfl fl_X11_175 rfl dX11_take_13 ?_
                                                      refine lv_if_eq (tgt := 34) hx hb dX11_take_16 (by decide) (fun c_16_7 => ?_) (fun c_16_7 => ?_)
                                                      · have n_16_7 := nb_eq (a := 0) (b := 0) c_16_7 (by omega) (by omega)
                                                        refine lv_iconst (v := 0) hx hb dX11_take_34 (by decide) ?_
                                                        refine k_mpi (v := 0) (ty := .boolean) C G 18 (by decide) mr_18 fl_X11_175 rfl rfl rfl rfl rfl dX11_take_35 (fun H locs (G : wd Z A s (mdW Z h ad (upd (upd (upd (upd (upd (upd (upd (upd (upd (upd (upd (upd (upd (upd (upd iv 18 1) 16 (nI (a + 1))) 18 1) 16 (nI (a + 1 + 1))) 18 1) 16 (nI (a + 1 + 1 + 1))) 18 0) 16 (nI (a + 1 + 1 + 1 + 1))) 18 0) 16 (nI (a + 1 + 1 + 1 + 1 + 1))) 18 0) 16 (nI (a + 1 + 1 + 1 + 1 + 1 + 1))) 18 0) 16 (nI (a + 1 + 1 + 1 + 1 + 1 + 1 + 1))) 18 0) av) H locs) => ?_)
                                                        refine lv_lload_n hx hb dX11_take_38 rfl (lv_at hl 1 rfl) ?_
                                                        refine lv_bipush (v := 8) hx hb dX11_take_39 (by decide) ?_
                                                        refine lv_lshl (v := ((((((((((((((0 <<< ((8 : Int32).toInt64 &&& 63)) ||| ((((av 3) a).toInt64) &&& 255)) <<< ((8 : Int32).toInt64 &&& 63)) ||| ((((av 3) (a + 1)).toInt64) &&& 255)) <<< ((8 : Int32).toInt64 &&& 63)) ||| ((((av 3) (a + 1 + 1)).toInt64) &&& 255)) <<< ((8 : Int32).toInt64 &&& 63)) ||| 0) <<< ((8 : Int32).toInt64 &&& 63)) ||| 0) <<< ((8 : Int32).toInt64 &&& 63)) ||| 0) <<< ((8 : Int32).toInt64 &&& 63)) ||| 0) <<< ((8 : Int32).toInt64 &&& 63)) hx hb dX11_take_41 rfl ?_
                                                        refine lv_aload_n hx hb dX11_take_42 rfl (lv_at hl 2 rfl) ?_
                                                        refine k_mgi (v := 0) C G 18 (by decide) mr_18 rfl fl_X11_175 rfl dX11_take_43 ?_
                                                        refine lv_if_eq (tgt := 66) hx hb dX11_take_46 (by decide) (fun c_46_7 => ?_) (fun c_46_7 => ?_)
                                                        · have n_46_7 := nb_eq (a := 0) (b := 0) c_46_7 (by omega) (by omega)
                                                          refine lv_lconst (v := 0) hx hb dX11_take_66 (by decide) ?_
                                                          refine lv_lor hx hb dX11_take_67 ?_
                                                          refine lv_lstore_n (lv' := [(2, .long ((((((((((((((((0 <<< ((8 : Int32).toInt64 &&& 63)) ||| ((((av 3) a).toInt64) &&& 255)) <<< ((8 : Int32).toInt64 &&& 63)) ||| ((((av 3) (a + 1)).toInt64) &&& 255)) <<< ((8 : Int32).toInt64 &&& 63)) ||| ((((av 3) (a + 1 + 1)).toInt64) &&& 255)) <<< ((8 : Int32).toInt64 &&& 63)) ||| 0) <<< ((8 : Int32).toInt64 &&& 63)) ||| 0) <<< ((8 : Int32).toInt64 &&& 63)) ||| 0) <<< ((8 : Int32).toInt64 &&& 63)) ||| 0) <<< ((8 : Int32).toInt64 &&& 63)) ||| 0)), (4, .int 7), (0, .ref h), (1, .int 8)]) hx hb dX11_take_68 rfl hl (by decide) rfl (fun ls hl => ?_)
                                                          refine lv_aload_n hx hb dX11_take_69 rfl (lv_at hl 2 rfl) ?_
                                                          refine lv_dup hx hb dX11_take_70 rfl ?_
                                                          refine k_mgi (v := nI (a + 1 + 1 + 1 + 1 + 1 + 1 + 1)) C G 16 (by decide) mr_16 rfl fl_X11_179 rfl dX11_take_71 ?_
                                                          refine lv_iconst (v := 1) hx hb dX11_take_74 (by decide) ?_
                                                          refine lv_iadd hx hb dX11_take_75 ?_
                                                          refine k_topi (y := nI (a + 1 + 1 + 1 + 1 + 1 + 1 + 1 + 1)) (nI_add (a + 1 + 1 + 1 + 1 + 1 + 1 + 1) 1) ?_
                                                          refine k_mpi (v := nI (a + 1 + 1 + 1 + 1 + 1 + 1 + 1 + 1)) (ty := .int) C G 16 (by decide) mr_16 fl_X11_179 rfl rfl rfl rfl rfl dX11_take_76 (fun H locs (G : wd Z A s (mdW Z h ad (upd (upd (upd (upd (upd (upd (upd (upd (upd (upd (upd (upd (upd (upd (upd (upd iv 18 1) 16 (nI (a + 1))) 18 1) 16 (nI (a + 1 + 1))) 18 1) 16 (nI (a + 1 + 1 + 1))) 18 0) 16 (nI (a + 1 + 1 + 1 + 1))) 18 0) 16 (nI (a + 1 + 1 + 1 + 1 + 1))) 18 0) 16 (nI (a + 1 + 1 + 1 + 1 + 1 + 1))) 18 0) 16 (nI (a + 1 + 1 + 1 + 1 + 1 + 1 + 1))) 18 0) 16 (nI (a + 1 + 1 + 1 + 1 + 1 + 1 + 1 + 1))) av) H locs) => ?_)
                                                          refine lv_iinc (v := 8) (lv' := [(4, .int 8), (2, .long ((((((((((((((((0 <<< ((8 : Int32).toInt64 &&& 63)) ||| ((((av 3) a).toInt64) &&& 255)) <<< ((8 : Int32).toInt64 &&& 63)) ||| ((((av 3) (a + 1)).toInt64) &&& 255)) <<< ((8 : Int32).toInt64 &&& 63)) ||| ((((av 3) (a + 1 + 1)).toInt64) &&& 255)) <<< ((8 : Int32).toInt64 &&& 63)) ||| 0) <<< ((8 : Int32).toInt64 &&& 63)) ||| 0) <<< ((8 : Int32).toInt64 &&& 63)) ||| 0) <<< ((8 : Int32).toInt64 &&& 63)) ||| 0) <<< ((8 : Int32).toInt64 &&& 63)) ||| 0)), (0, .ref h), (1, .int 8)]) hx hb dX11_take_79 hl (k := 1) rfl (by decide) (by decide) rfl (fun ls hl => ?_)
                                                          refine lv_goto (tgt := 5) hx hb dX11_take_82 (by decide) ?_
                                                          refine lv_iload hx hb dX11_take_5 (lv_at hl 0 rfl) ?_
                                                          refine lv_iload_n hx hb dX11_take_7 rfl (lv_at hl 3 rfl) ?_
                                                          refine lv_icmp_ge (tgt := 85) hx hb dX11_take_8 (by decide) (fun c_8_8 => ?_) (fun c_8_8 => ?_)
                                                          · have n_8_8 := nb_le (a := 8) (b := 8) c_8_8 (by omega) (by omega)
                                                            refine lv_lload_n hx hb dX11_take_85 rfl (lv_at hl 1 rfl) ?_
                                                            exact kr_l C G ⟨_, rfl, ((((((((((((((((sI.rf.up (by decide) _).up (by decide) _).up (by decide) _).up (by decide) _).up (by decide) _).up (by decide) _).up (by decide) _).up (by decide) _).up (by decide) _).up (by decide) _).up (by decide) _).up (by decide) _).up (by decide) _).up (by decide) _).up (by decide) _).up (by decide) _), rfl, Or.inr ⟨fun z => absurd z.2 (by omega), rfl⟩⟩ (Nat.le_of_ble_eq_true rfl) (Nat.le_of_ble_eq_true rfl) dX11_take_86
                                                          · exact absurd c_8_8 (by decide)
                                                        · exact absurd c_46_7 (by decide)
                                                      · exact absurd c_16_7 (by decide)
                                                  · exact absurd c_46_6 (by decide)
                                                · exact absurd c_16_6 (by decide)
                                            · exact absurd c_46_5 (by decide)
                                          · exact absurd c_16_5 (by decide)
                                      · exact absurd c_46_4 (by decide)
                                    · exact absurd c_16_4 (by decide)
                                · exact absurd c_46_3 (by decide)
                              · have n_27_3 := nb_nle (a := en) (b := a + 1 + 1 + 1) c_27_3 (by omega) (by omega)
                                refine lv_iconst (v := 1) hx hb dX11_take_30 (by decide) ?_
                                refine lv_goto (tgt := 35) hx hb dX11_take_31 (by decide) ?_
                                refine k_mpi (v := 1) (ty := .boolean) C G 18 (by decide) mr_18 fl_X11_175 rfl rfl rfl rfl rfl dX11_take_35 (fun H locs (G : wd Z A s (mdW Z h ad (upd (upd (upd (upd (upd (upd (upd iv 18 1) 16 (nI (a + 1))) 18 1) 16 (nI (a + 1 + 1))) 18 1) 16 (nI (a + 1 + 1 + 1))) 18 1) av) H locs) => ?_)
                                refine lv_lload_n hx hb dX11_take_38 rfl (lv_at hl 1 rfl) ?_
                                refine lv_bipush (v := 8) hx hb dX11_take_39 (by decide) ?_
                                refine lv_lshl (v := ((((((0 <<< ((8 : Int32).toInt64 &&& 63)) ||| ((((av 3) a).toInt64) &&& 255)) <<< ((8 : Int32).toInt64 &&& 63)) ||| ((((av 3) (a + 1)).toInt64) &&& 255)) <<< ((8 : Int32).toInt64 &&& 63)) ||| ((((av 3) (a + 1 + 1)).toInt64) &&& 255)) <<< ((8 : Int32).toInt64 &&& 63)) hx hb dX11_take_41 rfl ?_
                                refine lv_aload_n hx hb dX11_take_42 rfl (lv_at hl 2 rfl) ?_
                                refine k_mgi (v := 1) C G 18 (by decide) mr_18 rfl fl_X11_175 rfl dX11_take_43 ?_
                                refine lv_if_eq (tgt := 66) hx hb dX11_take_46 (by decide) (fun c_46_3 => ?_) (fun c_46_3 => ?_)
                                · exact absurd c_46_3 (by decide)
                                · have n_46_3 := nb_ne (a := 1) (b := 0) c_46_3 (by omega) (by omega)
                                  refine lv_aload_n hx hb dX11_take_49 rfl (lv_at hl 2 rfl) ?_
                                  refine k_mga C G 3 (by decide) mr_3 fl_X11_20 rfl dX11_take_50 ?_
                                  refine lv_aload_n hx hb dX11_take_53 rfl (lv_at hl 2 rfl) ?_
                                  refine k_mgi (v := nI (a + 1 + 1 + 1)) C G 16 (by decide) mr_16 rfl fl_X11_179 rfl dX11_take_54 ?_
                                  refine k_mbl (v := (av 3) (a + 1 + 1 + 1)) (i := a + 1 + 1 + 1) C G 3 (k := 3) (n := 140000) mp_3 (by decide) (by omega) rfl dX11_take_57 ?_
                                  refine lv_i2l (v := ((av 3) (a + 1 + 1 + 1)).toInt64) hx hb dX11_take_58 rfl ?_
                                  refine lv_ldc2 (v := 255) hx hb hown (hts _ kl_X11_185) dX11_take_59 ?_
                                  refine lv_land hx hb dX11_take_62 ?_
                                  refine lv_goto (tgt := 67) hx hb dX11_take_63 (by decide) ?_
                                  refine lv_lor hx hb dX11_take_67 ?_
                                  refine lv_lstore_n (lv' := [(2, .long ((((((((0 <<< ((8 : Int32).toInt64 &&& 63)) ||| ((((av 3) a).toInt64) &&& 255)) <<< ((8 : Int32).toInt64 &&& 63)) ||| ((((av 3) (a + 1)).toInt64) &&& 255)) <<< ((8 : Int32).toInt64 &&& 63)) ||| ((((av 3) (a + 1 + 1)).toInt64) &&& 255)) <<< ((8 : Int32).toInt64 &&& 63)) ||| ((((av 3) (a + 1 + 1 + 1)).toInt64) &&& 255))), (4, .int 3), (0, .ref h), (1, .int 8)]) hx hb dX11_take_68 rfl hl (by decide) rfl (fun ls hl => ?_)
                                  refine lv_aload_n hx hb dX11_take_69 rfl (lv_at hl 2 rfl) ?_
                                  refine lv_dup hx hb dX11_take_70 rfl ?_
                                  refine k_mgi (v := nI (a + 1 + 1 + 1)) C G 16 (by decide) mr_16 rfl fl_X11_179 rfl dX11_take_71 ?_
                                  refine lv_iconst (v := 1) hx hb dX11_take_74 (by decide) ?_
                                  refine lv_iadd hx hb dX11_take_75 ?_
                                  refine k_topi (y := nI (a + 1 + 1 + 1 + 1)) (nI_add (a + 1 + 1 + 1) 1) ?_
                                  refine k_mpi (v := nI (a + 1 + 1 + 1 + 1)) (ty := .int) C G 16 (by decide) mr_16 fl_X11_179 rfl rfl rfl rfl rfl dX11_take_76 (fun H locs (G : wd Z A s (mdW Z h ad (upd (upd (upd (upd (upd (upd (upd (upd iv 18 1) 16 (nI (a + 1))) 18 1) 16 (nI (a + 1 + 1))) 18 1) 16 (nI (a + 1 + 1 + 1))) 18 1) 16 (nI (a + 1 + 1 + 1 + 1))) av) H locs) => ?_)
                                  refine lv_iinc (v := 4) (lv' := [(4, .int 4), (2, .long ((((((((0 <<< ((8 : Int32).toInt64 &&& 63)) ||| ((((av 3) a).toInt64) &&& 255)) <<< ((8 : Int32).toInt64 &&& 63)) ||| ((((av 3) (a + 1)).toInt64) &&& 255)) <<< ((8 : Int32).toInt64 &&& 63)) ||| ((((av 3) (a + 1 + 1)).toInt64) &&& 255)) <<< ((8 : Int32).toInt64 &&& 63)) ||| ((((av 3) (a + 1 + 1 + 1)).toInt64) &&& 255))), (0, .ref h), (1, .int 8)]) hx hb dX11_take_79 hl (k := 1) rfl (by decide) (by decide) rfl (fun ls hl => ?_)
                                  refine lv_goto (tgt := 5) hx hb dX11_take_82 (by decide) ?_
                                  refine lv_iload hx hb dX11_take_5 (lv_at hl 0 rfl) ?_
                                  refine lv_iload_n hx hb dX11_take_7 rfl (lv_at hl 3 rfl) ?_
                                  refine lv_icmp_ge (tgt := 85) hx hb dX11_take_8 (by decide) (fun c_8_4 => ?_) (fun c_8_4 => ?_)
                                  · exact absurd c_8_4 (by decide)
                                  · have n_8_4 := nb_nle (a := 8) (b := 4) c_8_4 (by omega) (by omega)
                                    refine lv_aload_n hx hb dX11_take_11 rfl (lv_at hl 2 rfl) ?_
                                    refine lv_aload_n hx hb dX11_take_12 rfl (lv_at hl 2 rfl) ?_
                                    refine k_mgi (v := 1) C G 18 (by decide) mr_18 rfl fl_X11_175 rfl dX11_take_13 ?_
                                    refine lv_if_eq (tgt := 34) hx hb dX11_take_16 (by decide) (fun c_16_4 => ?_) (fun c_16_4 => ?_)
                                    · exact absurd c_16_4 (by decide)
                                    · have n_16_4 := nb_ne (a := 1) (b := 0) c_16_4 (by omega) (by omega)
                                      refine lv_aload_n hx hb dX11_take_19 rfl (lv_at hl 2 rfl) ?_
                                      refine k_mgi (v := nI (a + 1 + 1 + 1 + 1)) C G 16 (by decide) mr_16 rfl fl_X11_179 rfl dX11_take_20 ?_
                                      refine lv_aload_n hx hb dX11_take_23 rfl (lv_at hl 2 rfl) ?_
                                      refine k_mgi (v := nI en) C G 17 (by decide) mr_17 hen fl_X11_182 rfl dX11_take_24 ?_
                                      refine lv_icmp_ge (tgt := 34) hx hb dX11_take_27 (by decide) (fun c_27_4 => ?_) (fun c_27_4 => ?_)
                                      · have n_27_4 := nb_le (a := en) (b := a + 1 + 1 + 1 + 1) c_27_4 (by omega) (by omega)
                                        refine lv_iconst (v := 0) hx hb dX11_take_34 (by decide) ?_
                                        refine k_mpi (v := 0) (ty := .boolean) C G 18 (by decide) mr_18 fl_X11_175 rfl rfl rfl rfl rfl dX11_take_35 (fun H locs (G : wd Z A s (mdW Z h ad (upd (upd (upd (upd (upd (upd (upd (upd (upd iv 18 1) 16 (nI (a + 1))) 18 1) 16 (nI (a + 1 + 1))) 18 1) 16 (nI (a + 1 + 1 + 1))) 18 1) 16 (nI (a + 1 + 1 + 1 + 1))) 18 0) av) H locs) => ?_)
                                        refine lv_lload_n hx hb dX11_take_38 rfl (lv_at hl 1 rfl) ?_
                                        refine lv_bipush (v := 8) hx hb dX11_take_39 (by decide) ?_
                                        refine lv_lshl (v := ((((((((0 <<< ((8 : Int32).toInt64 &&& 63)) ||| ((((av 3) a).toInt64) &&& 255)) <<< ((8 : Int32).toInt64 &&& 63)) ||| ((((av 3) (a + 1)).toInt64) &&& 255)) <<< ((8 : Int32).toInt64 &&& 63)) ||| ((((av 3) (a + 1 + 1)).toInt64) &&& 255)) <<< ((8 : Int32).toInt64 &&& 63)) ||| ((((av 3) (a + 1 + 1 + 1)).toInt64) &&& 255)) <<< ((8 : Int32).toInt64 &&& 63)) hx hb dX11_take_41 rfl ?_
                                        refine lv_aload_n hx hb dX11_take_42 rfl (lv_at hl 2 rfl) ?_
                                        refine k_mgi (v := 0) C G 18 (by decide) mr_18 rfl fl_X11_175 rfl dX11_take_43 ?_
                                        refine lv_if_eq (tgt := 66) hx hb dX11_take_46 (by decide) (fun c_46_4 => ?_) (fun c_46_4 => ?_)
                                        · have n_46_4 := nb_eq (a := 0) (b := 0) c_46_4 (by omega) (by omega)
                                          refine lv_lconst (v := 0) hx hb dX11_take_66 (by decide) ?_
                                          refine lv_lor hx hb dX11_take_67 ?_
                                          refine lv_lstore_n (lv' := [(2, .long ((((((((((0 <<< ((8 : Int32).toInt64 &&& 63)) ||| ((((av 3) a).toInt64) &&& 255)) <<< ((8 : Int32).toInt64 &&& 63)) ||| ((((av 3) (a + 1)).toInt64) &&& 255)) <<< ((8 : Int32).toInt64 &&& 63)) ||| ((((av 3) (a + 1 + 1)).toInt64) &&& 255)) <<< ((8 : Int32).toInt64 &&& 63)) ||| ((((av 3) (a + 1 + 1 + 1)).toInt64) &&& 255)) <<< ((8 : Int32).toInt64 &&& 63)) ||| 0)), (4, .int 4), (0, .ref h), (1, .int 8)]) hx hb dX11_take_68 rfl hl (by decide) rfl (fun ls hl => ?_)
                                          refine lv_aload_n hx hb dX11_take_69 rfl (lv_at hl 2 rfl) ?_
                                          refine lv_dup hx hb dX11_take_70 rfl ?_
                                          refine k_mgi (v := nI (a + 1 + 1 + 1 + 1)) C G 16 (by decide) mr_16 rfl fl_X11_179 rfl dX11_take_71 ?_
                                          refine lv_iconst (v := 1) hx hb dX11_take_74 (by decide) ?_
                                          refine lv_iadd hx hb dX11_take_75 ?_
                                          refine k_topi (y := nI (a + 1 + 1 + 1 + 1 + 1)) (nI_add (a + 1 + 1 + 1 + 1) 1) ?_
                                          refine k_mpi (v := nI (a + 1 + 1 + 1 + 1 + 1)) (ty := .int) C G 16 (by decide) mr_16 fl_X11_179 rfl rfl rfl rfl rfl dX11_take_76 (fun H locs (G : wd Z A s (mdW Z h ad (upd (upd (upd (upd (upd (upd (upd (upd (upd (upd iv 18 1) 16 (nI (a + 1))) 18 1) 16 (nI (a + 1 + 1))) 18 1) 16 (nI (a + 1 + 1 + 1))) 18 1) 16 (nI (a + 1 + 1 + 1 + 1))) 18 0) 16 (nI (a + 1 + 1 + 1 + 1 + 1))) av) H locs) => ?_)
                                          refine lv_iinc (v := 5) (lv' := [(4, .int 5), (2, .long ((((((((((0 <<< ((8 : Int32).toInt64 &&& 63)) ||| ((((av 3) a).toInt64) &&& 255)) <<< ((8 : Int32).toInt64 &&& 63)) ||| ((((av 3) (a + 1)).toInt64) &&& 255)) <<< ((8 : Int32).toInt64 &&& 63)) ||| ((((av 3) (a + 1 + 1)).toInt64) &&& 255)) <<< ((8 : Int32).toInt64 &&& 63)) ||| ((((av 3) (a + 1 + 1 + 1)).toInt64) &&& 255)) <<< ((8 : Int32).toInt64 &&& 63)) ||| 0)), (0, .ref h), (1, .int 8)]) hx hb dX11_take_79 hl (k := 1) rfl (by decide) (by decide) rfl (fun ls hl => ?_)
                                          refine lv_goto (tgt := 5) hx hb dX11_take_82 (by decide) ?_
                                          refine lv_iload hx hb dX11_take_5 (lv_at hl 0 rfl) ?_
                                          refine lv_iload_n hx hb dX11_take_7 rfl (lv_at hl 3 rfl) ?_
                                          refine lv_icmp_ge (tgt := 85) hx hb dX11_take_8 (by decide) (fun c_8_5 => ?_) (fun c_8_5 => ?_)
                                          · exact absurd c_8_5 (by decide)
                                          · have n_8_5 := nb_nle (a := 8) (b := 5) c_8_5 (by omega) (by omega)
                                            refine lv_aload_n hx hb dX11_take_11 rfl (lv_at hl 2 rfl) ?_
                                            refine lv_aload_n hx hb dX11_take_12 rfl (lv_at hl 2 rfl) ?_
                                            refine k_mgi (v := 0) C G 18 (by decide) mr_18 rfl fl_X11_175 rfl dX11_take_13 ?_
                                            refine lv_if_eq (tgt := 34) hx hb dX11_take_16 (by decide) (fun c_16_5 => ?_) (fun c_16_5 => ?_)
                                            · have n_16_5 := nb_eq (a := 0) (b := 0) c_16_5 (by omega) (by omega)
                                              refine lv_iconst (v := 0) hx hb dX11_take_34 (by decide) ?_
                                              refine k_mpi (v := 0) (ty := .boolean) C G 18 (by decide) mr_18 fl_X11_175 rfl rfl rfl rfl rfl dX11_take_35 (fun H locs (G : wd Z A s (mdW Z h ad (upd (upd (upd (upd (upd (upd (upd (upd (upd (upd (upd iv 18 1) 16 (nI (a + 1))) 18 1) 16 (nI (a + 1 + 1))) 18 1) 16 (nI (a + 1 + 1 + 1))) 18 1) 16 (nI (a + 1 + 1 + 1 + 1))) 18 0) 16 (nI (a + 1 + 1 + 1 + 1 + 1))) 18 0) av) H locs) => ?_)
                                              refine lv_lload_n hx hb dX11_take_38 rfl (lv_at hl 1 rfl) ?_
                                              refine lv_bipush (v := 8) hx hb dX11_take_39 (by decide) ?_
                                              refine lv_lshl (v := ((((((((((0 <<< ((8 : Int32).toInt64 &&& 63)) ||| ((((av 3) a).toInt64) &&& 255)) <<< ((8 : Int32).toInt64 &&& 63)) ||| ((((av 3) (a + 1)).toInt64) &&& 255)) <<< ((8 : Int32).toInt64 &&& 63)) ||| ((((av 3) (a + 1 + 1)).toInt64) &&& 255)) <<< ((8 : Int32).toInt64 &&& 63)) ||| ((((av 3) (a + 1 + 1 + 1)).toInt64) &&& 255)) <<< ((8 : Int32).toInt64 &&& 63)) ||| 0) <<< ((8 : Int32).toInt64 &&& 63)) hx hb dX11_take_41 rfl ?_
                                              refine lv_aload_n hx hb dX11_take_42 rfl (lv_at hl 2 rfl) ?_
                                              refine k_mgi (v := 0) C G 18 (by decide) mr_18 rfl fl_X11_175 rfl dX11_take_43 ?_
                                              refine lv_if_eq (tgt := 66) hx hb dX11_take_46 (by decide) (fun c_46_5 => ?_) (fun c_46_5 => ?_)
                                              · have n_46_5 := nb_eq (a := 0) (b := 0) c_46_5 (by omega) (by omega)
                                                refine lv_lconst (v := 0) hx hb dX11_take_66 (by decide) ?_
                                                refine lv_lor hx hb dX11_take_67 ?_
                                                refine lv_lstore_n (lv' := [(2, .long ((((((((((((0 <<< ((8 : Int32).toInt64 &&& 63)) ||| ((((av 3) a).toInt64) &&& 255)) <<< ((8 : Int32).toInt64 &&& 63)) ||| ((((av 3) (a + 1)).toInt64) &&& 255)) <<< ((8 : Int32).toInt64 &&& 63)) ||| ((((av 3) (a + 1 + 1)).toInt64) &&& 255)) <<< ((8 : Int32).toInt64 &&& 63)) ||| ((((av 3) (a + 1 + 1 + 1)).toInt64) &&& 255)) <<< ((8 : Int32).toInt64 &&& 63)) ||| 0) <<< ((8 : Int32).toInt64 &&& 63)) ||| 0)), (4, .int 5), (0, .ref h), (1, .int 8)]) hx hb dX11_take_68 rfl hl (by decide) rfl (fun ls hl => ?_)
                                                refine lv_aload_n hx hb dX11_take_69 rfl (lv_at hl 2 rfl) ?_
                                                refine lv_dup hx hb dX11_take_70 rfl ?_
                                                refine k_mgi (v := nI (a + 1 + 1 + 1 + 1 + 1)) C G 16 (by decide) mr_16 rfl fl_X11_179 rfl dX11_take_71 ?_
                                                refine lv_iconst (v := 1) hx hb dX11_take_74 (by decide) ?_
                                                refine lv_iadd hx hb dX11_take_75 ?_
                                                refine k_topi (y := nI (a + 1 + 1 + 1 + 1 + 1 + 1)) (nI_add (a + 1 + 1 + 1 + 1 + 1) 1) ?_
                                                refine k_mpi (v := nI (a + 1 + 1 + 1 + 1 + 1 + 1)) (ty := .int) C G 16 (by decide) mr_16 fl_X11_179 rfl rfl rfl rfl rfl dX11_take_76 (fun H locs (G : wd Z A s (mdW Z h ad (upd (upd (upd (upd (upd (upd (upd (upd (upd (upd (upd (upd iv 18 1) 16 (nI (a + 1))) 18 1) 16 (nI (a + 1 + 1))) 18 1) 16 (nI (a + 1 + 1 + 1))) 18 1) 16 (nI (a + 1 + 1 + 1 + 1))) 18 0) 16 (nI (a + 1 + 1 + 1 + 1 + 1))) 18 0) 16 (nI (a + 1 + 1 + 1 + 1 + 1 + 1))) av) H locs) => ?_)
                                                refine lv_iinc (v := 6) (lv' := [(4, .int 6), (2, .long ((((((((((((0 <<< ((8 : Int32).toInt64 &&& 63)) ||| ((((av 3) a).toInt64) &&& 255)) <<< ((8 : Int32).toInt64 &&& 63)) ||| ((((av 3) (a + 1)).toInt64) &&& 255)) <<< ((8 : Int32).toInt64 &&& 63)) ||| ((((av 3) (a + 1 + 1)).toInt64) &&& 255)) <<< ((8 : Int32).toInt64 &&& 63)) ||| ((((av 3) (a + 1 + 1 + 1)).toInt64) &&& 255)) <<< ((8 : Int32).toInt64 &&& 63)) ||| 0) <<< ((8 : Int32).toInt64 &&& 63)) ||| 0)), (0, .ref h), (1, .int 8)]) hx hb dX11_take_79 hl (k := 1) rfl (by decide) (by decide) rfl (fun ls hl => ?_)
                                                refine lv_goto (tgt := 5) hx hb dX11_take_82 (by decide) ?_
                                                refine lv_iload hx hb dX11_take_5 (lv_at hl 0 rfl) ?_
                                                refine lv_iload_n hx hb dX11_take_7 rfl (lv_at hl 3 rfl) ?_
                                                refine lv_icmp_ge (tgt := 85) hx hb dX11_take_8 (by decide) (fun c_8_6 => ?_) (fun c_8_6 => ?_)
                                                · exact absurd c_8_6 (by decide)
                                                · have n_8_6 := nb_nle (a := 8) (b := 6) c_8_6 (by omega) (by omega)
                                                  refine lv_aload_n hx hb dX11_take_11 rfl (lv_at hl 2 rfl) ?_
                                                  refine lv_aload_n hx hb dX11_take_12 rfl (lv_at hl 2 rfl) ?_
                                                  refine k_mgi (v := 0) C G 18 (by decide) mr_18 rfl fl_X11_175 rfl dX11_take_13 ?_
                                                  refine lv_if_eq (tgt := 34) hx hb dX11_take_16 (by decide) (fun c_16_6 => ?_) (fun c_16_6 => ?_)
                                                  · have n_16_6 := nb_eq (a := 0) (b := 0) c_16_6 (by omega) (by omega)
                                                    refine lv_iconst (v := 0) hx hb dX11_take_34 (by decide) ?_
                                                    refine k_mpi (v := 0) (ty := .boolean) C G 18 (by decide) mr_18 fl_X11_175 rfl rfl rfl rfl rfl dX11_take_35 (fun H locs (G : wd Z A s (mdW Z h ad (upd (upd (upd (upd (upd (upd (upd (upd (upd (upd (upd (upd (upd iv 18 1) 16 (nI (a + 1))) 18 1) 16 (nI (a + 1 + 1))) 18 1) 16 (nI (a + 1 + 1 + 1))) 18 1) 16 (nI (a + 1 + 1 + 1 + 1))) 18 0) 16 (nI (a + 1 + 1 + 1 + 1 + 1))) 18 0) 16 (nI (a + 1 + 1 + 1 + 1 + 1 + 1))) 18 0) av) H locs) => ?_)
                                                    refine lv_lload_n hx hb dX11_take_38 rfl (lv_at hl 1 rfl) ?_
                                                    refine lv_bipush (v := 8) hx hb dX11_take_39 (by decide) ?_
                                                    refine lv_lshl (v := ((((((((((((0 <<< ((8 : Int32).toInt64 &&& 63)) ||| ((((av 3) a).toInt64) &&& 255)) <<< ((8 : Int32).toInt64 &&& 63)) ||| ((((av 3) (a + 1)).toInt64) &&& 255)) <<< ((8 : Int32).toInt64 &&& 63)) ||| ((((av 3) (a + 1 + 1)).toInt64) &&& 255)) <<< ((8 : Int32).toInt64 &&& 63)) ||| ((((av 3) (a + 1 + 1 + 1)).toInt64) &&& 255)) <<< ((8 : Int32).toInt64 &&& 63)) ||| 0) <<< ((8 : Int32).toInt64 &&& 63)) ||| 0) <<< ((8 : Int32).toInt64 &&& 63)) hx hb dX11_take_41 rfl ?_
                                                    refine lv_aload_n hx hb dX11_take_42 rfl (lv_at hl 2 rfl) ?_
                                                    refine k_mgi (v := 0) C G 18 (by decide) mr_18 rfl fl_X11_175 rfl dX11_take_43 ?_
                                                    refine lv_if_eq (tgt := 66) hx hb dX11_take_46 (by decide) (fun c_46_6 => ?_) (fun c_46_6 => ?_)
                                                    · have n_46_6 := nb_eq (a := 0) (b := 0) c_46_6 (by omega) (by omega)
                                                      refine lv_lconst (v := 0) hx hb dX11_take_66 (by decide) ?_
                                                      refine lv_lor hx hb dX11_take_67 ?_
                                                      refine lv_lstore_n (lv' := [(2, .long ((((((((((((((0 <<< ((8 : Int32).toInt64 &&& 63)) ||| ((((av 3) a).toInt64) &&& 255)) <<< ((8 : Int32).toInt64 &&& 63)) ||| ((((av 3) (a + 1)).toInt64) &&& 255)) <<< ((8 : Int32).toInt64 &&& 63)) ||| ((((av 3) (a + 1 + 1)).toInt64) &&& 255)) <<< ((8 : Int32).toInt64 &&& 63)) ||| ((((av 3) (a + 1 + 1 + 1)).toInt64) &&& 255)) <<< ((8 : Int32).toInt64 &&& 63)) ||| 0) <<< ((8 : Int32).toInt64 &&& 63)) ||| 0) <<< ((8 : Int32).toInt64 &&& 63)) ||| 0)), (4, .int 6), (0, .ref h), (1, .int 8)]) hx hb dX11_take_68 rfl hl (by decide) rfl (fun ls hl => ?_)
                                                      refine lv_aload_n hx hb dX11_take_69 rfl (lv_at hl 2 rfl) ?_
                                                      refine lv_dup hx hb dX11_take_70 rfl ?_
                                                      refine k_mgi (v := nI (a + 1 + 1 + 1 + 1 + 1 + 1)) C G 16 (by decide) mr_16 rfl fl_X11_179 rfl dX11_take_71 ?_
                                                      refine lv_iconst (v := 1) hx hb dX11_take_74 (by decide) ?_
                                                      refine lv_iadd hx hb dX11_take_75 ?_
                                                      refine k_topi (y := nI (a + 1 + 1 + 1 + 1 + 1 + 1 + 1)) (nI_add (a + 1 + 1 + 1 + 1 + 1 + 1) 1) ?_
                                                      refine k_mpi (v := nI (a + 1 + 1 + 1 + 1 + 1 + 1 + 1)) (ty := .int) C G 16 (by decide) mr_16 fl_X11_179 rfl rfl rfl rfl rfl dX11_take_76 (fun H locs (G : wd Z A s (mdW Z h ad (upd (upd (upd (upd (upd (upd (upd (upd (upd (upd (upd (upd (upd (upd iv 18 1) 16 (nI (a + 1))) 18 1) 16 (nI (a + 1 + 1))) 18 1) 16 (nI (a + 1 + 1 + 1))) 18 1) 16 (nI (a + 1 + 1 + 1 + 1))) 18 0) 16 (nI (a + 1 + 1 + 1 + 1 + 1))) 18 0) 16 (nI (a + 1 + 1 + 1 + 1 + 1 + 1))) 18 0) 16 (nI (a + 1 + 1 + 1 + 1 + 1 + 1 + 1))) av) H locs) => ?_)
                                                      refine lv_iinc (v := 7) (lv' := [(4, .int 7), (2, .long ((((((((((((((0 <<< ((8 : Int32).toInt64 &&& 63)) ||| ((((av 3) a).toInt64) &&& 255)) <<< ((8 : Int32).toInt64 &&& 63)) ||| ((((av 3) (a + 1)).toInt64) &&& 255)) <<< ((8 : Int32).toInt64 &&& 63)) ||| ((((av 3) (a + 1 + 1)).toInt64) &&& 255)) <<< ((8 : Int32).toInt64 &&& 63)) ||| ((((av 3) (a + 1 + 1 + 1)).toInt64) &&& 255)) <<< ((8 : Int32).toInt64 &&& 63)) ||| 0) <<< ((8 : Int32).toInt64 &&& 63)) ||| 0) <<< ((8 : Int32).toInt64 &&& 63)) ||| 0)), (0, .ref h), (1, .int 8)]) hx hb dX11_take_79 hl (k := 1) rfl (by decide) (by decide) rfl (fun ls hl => ?_)
                                                      refine lv_goto (tgt := 5) hx hb dX11_take_82 (by decide) ?_
                                                      refine lv_iload hx hb dX11_take_5 (lv_at hl 0 rfl) ?_
                                                      refine lv_iload_n hx hb dX11_take_7 rfl (lv_at hl 3 rfl) ?_
                                                      refine lv_icmp_ge (tgt := 85) hx hb dX11_take_8 (by decide) (fun c_8_7 => ?_) (fun c_8_7 => ?_)
                                                      · exact absurd c_8_7 (by decide)
                                                      · have n_8_7 := nb_nle (a := 8) (b := 7) c_8_7 (by omega) (by omega)
                                                        refine lv_aload_n hx hb dX11_take_11 rfl (lv_at hl 2 rfl) ?_
                                                        refine lv_aload_n hx hb dX11_take_12 rfl (lv_at hl 2 rfl) ?_
                                                        refine k_mgi (v := 0) C G 18 (by decide) mr_18 rfl fl_X11_175 rfl dX11_take_13 ?_
                                                        refine lv_if_eq (tgt := 34) hx hb dX11_take_16 (by decide) (fun c_16_7 => ?_) (fun c_16_7 => ?_)
                                                        · have n_16_7 := nb_eq (a := 0) (b := 0) c_16_7 (by omega) (by omega)
                                                          refine lv_iconst (v := 0) hx hb dX11_take_34 (by decide) ?_
                                                          refine k_mpi (v := 0) (ty := .boolean) C G 18 (by decide) mr_18 fl_X11_175 rfl rfl rfl rfl rfl dX11_take_35 (fun H locs (G : wd Z A s (mdW Z h ad (upd (upd (upd (upd (upd (upd (upd (upd (upd (upd (upd (upd (upd (upd (upd iv 18 1) 16 (nI (a + 1))) 18 1) 16 (nI (a + 1 + 1))) 18 1) 16 (nI (a + 1 + 1 + 1))) 18 1) 16 (nI (a + 1 + 1 + 1 + 1))) 18 0) 16 (nI (a + 1 + 1 + 1 + 1 + 1))) 18 0) 16 (nI (a + 1 + 1 + 1 + 1 + 1 + 1))) 18 0) 16 (nI (a + 1 + 1 + 1 + 1 + 1 + 1 + 1))) 18 0) av) H locs) => ?_)
                                                          refine lv_lload_n hx hb dX11_take_38 rfl (lv_at hl 1 rfl) ?_
                                                          refine lv_bipush (v := 8) hx hb dX11_take_39 (by decide) ?_
                                                          refine lv_lshl (v := ((((((((((((((0 <<< ((8 : Int32).toInt64 &&& 63)) ||| ((((av 3) a).toInt64) &&& 255)) <<< ((8 : Int32).toInt64 &&& 63)) ||| ((((av 3) (a + 1)).toInt64) &&& 255)) <<< ((8 : Int32).toInt64 &&& 63)) ||| ((((av 3) (a + 1 + 1)).toInt64) &&& 255)) <<< ((8 : Int32).toInt64 &&& 63)) ||| ((((av 3) (a + 1 + 1 + 1)).toInt64) &&& 255)) <<< ((8 : Int32).toInt64 &&& 63)) ||| 0) <<< ((8 : Int32).toInt64 &&& 63)) ||| 0) <<< ((8 : Int32).toInt64 &&& 63)) ||| 0) <<< ((8 : Int32).toInt64 &&& 63)) hx hb dX11_take_41 rfl ?_
                                                          refine lv_aload_n hx hb dX11_take_42 rfl (lv_at hl 2 rfl) ?_
                                                          refine k_mgi (v := 0) C G 18 (by decide) mr_18 rfl fl_X11_175 rfl dX11_take_43 ?_
                                                          refine lv_if_eq (tgt := 66) hx hb dX11_take_46 (by decide) (fun c_46_7 => ?_) (fun c_46_7 => ?_)
                                                          · have n_46_7 := nb_eq (a := 0) (b := 0) c_46_7 (by omega) (by omega)
                                                            refine lv_lconst (v := 0) hx hb dX11_take_66 (by decide) ?_
                                                            refine lv_lor hx hb dX11_take_67 ?_
                                                            refine lv_lstore_n (lv' := [(2, .long ((((((((((((((((0 <<< ((8 : Int32).toInt64 &&& 63)) ||| ((((av 3) a).toInt64) &&& 255)) <<< ((8 : Int32).toInt64 &&& 63)) ||| ((((av 3) (a + 1)).toInt64) &&& 255)) <<< ((8 : Int32).toInt64 &&& 63)) ||| ((((av 3) (a + 1 + 1)).toInt64) &&& 255)) <<< ((8 : Int32).toInt64 &&& 63)) ||| ((((av 3) (a + 1 + 1 + 1)).toInt64) &&& 255)) <<< ((8 : Int32).toInt64 &&& 63)) ||| 0) <<< ((8 : Int32).toInt64 &&& 63)) ||| 0) <<< ((8 : Int32).toInt64 &&& 63)) ||| 0) <<< ((8 : Int32).toInt64 &&& 63)) ||| 0)), (4, .int 7), (0, .ref h), (1, .int 8)]) hx hb dX11_take_68 rfl hl (by decide) rfl (fun ls hl => ?_)
                                                            refine lv_aload_n hx hb dX11_take_69 rfl (lv_at hl 2 rfl) ?_
                                                            refine lv_dup hx hb dX11_take_70 rfl ?_
                                                            refine k_mgi (v := nI (a + 1 + 1 + 1 + 1 + 1 + 1 + 1)) C G 16 (by decide) mr_16 rfl fl_X11_179 rfl dX11_take_71 ?_
                                                            refine lv_iconst (v := 1) hx hb dX11_take_74 (by decide) ?_
                                                            refine lv_iadd hx hb dX11_take_75 ?_
                                                            refine k_topi (y := nI (a + 1 + 1 + 1 + 1 + 1 + 1 + 1 + 1)) (nI_add (a + 1 + 1 + 1 + 1 + 1 + 1 + 1) 1) ?_
                                                            refine k_mpi (v := nI (a + 1 + 1 + 1 + 1 + 1 + 1 + 1 + 1)) (ty := .int) C G 16 (by decide) mr_16 fl_X11_179 rfl rfl rfl rfl rfl dX11_take_76 (fun H locs (G : wd Z A s (mdW Z h ad (upd (upd (upd (upd (upd (upd (upd (upd (upd (upd (upd (upd (upd (upd (upd (upd iv 18 1) 16 (nI (a + 1))) 18 1) 16 (nI (a + 1 + 1))) 18 1) 16 (nI (a + 1 + 1 + 1))) 18 1) 16 (nI (a + 1 + 1 + 1 + 1))) 18 0) 16 (nI (a + 1 + 1 + 1 + 1 + 1))) 18 0) 16 (nI (a + 1 + 1 + 1 + 1 + 1 + 1))) 18 0) 16 (nI (a + 1 + 1 + 1 + 1 + 1 + 1 + 1))) 18 0) 16 (nI (a + 1 + 1 + 1 + 1 + 1 + 1 + 1 + 1))) av) H locs) => ?_)
                                                            refine lv_iinc (v := 8) (lv' := [(4, .int 8), (2, .long ((((((((((((((((0 <<< ((8 : Int32).toInt64 &&& 63)) ||| ((((av 3) a).toInt64) &&& 255)) <<< ((8 : Int32).toInt64 &&& 63)) ||| ((((av 3) (a + 1)).toInt64) &&& 255)) <<< ((8 : Int32).toInt64 &&& 63)) ||| ((((av 3) (a + 1 + 1)).toInt64) &&& 255)) <<< ((8 : Int32).toInt64 &&& 63)) ||| ((((av 3) (a + 1 + 1 + 1)).toInt64) &&& 255)) <<< ((8 : Int32).toInt64 &&& 63)) ||| 0) <<< ((8 : Int32).toInt64 &&& 63)) ||| 0) <<< ((8 : Int32).toInt64 &&& 63)) ||| 0) <<< ((8 : Int32).toInt64 &&& 63)) ||| 0)), (0, .ref h), (1, .int 8)]) hx hb dX11_take_79 hl (k := 1) rfl (by decide) (by decide) rfl (fun ls hl => ?_)
                                                            refine lv_goto (tgt := 5) hx hb dX11_take_82 (by decide) ?_
                                                            refine lv_iload hx hb dX11_take_5 (lv_at hl 0 rfl) ?_
                                                            refine lv_iload_n hx hb dX11_take_7 rfl (lv_at hl 3 rfl) ?_
                                                            refine lv_icmp_ge (tgt := 85) hx hb dX11_take_8 (by decide) (fun c_8_8 => ?_) (fun c_8_8 => ?_)
                                                            · have n_8_8 := nb_le (a := 8) (b := 8) c_8_8 (by omega) (by omega)
                                                              refine lv_lload_n hx hb dX11_take_85 rfl (lv_at hl 1 rfl) ?_
                                                              exact kr_l C G ⟨_, rfl, ((((((((((((((((sI.rf.up (by decide) _).up (by decide) _).up (by decide) _).up (by decide) _).up (by decide) _).up (by decide) _).up (by decide) _).up (by decide) _).up (by decide) _).up (by decide) _).up (by decide) _).up (by decide) _).up (by decide) _).up (by decide) _).up (by decide) _).up (by decide) _), rfl, Or.inr ⟨fun z => absurd z.2 (by omega), rfl⟩⟩ (Nat.le_of_ble_eq_true rfl) (Nat.le_of_ble_eq_true rfl) dX11_take_86
                                                            · exact absurd c_8_8 (by decide)
                                                          · exact absurd c_46_7 (by decide)
                                                        · exact absurd c_16_7 (by decide)
                                                    · exact absurd c_46_6 (by decide)
                                                  · exact absurd c_16_6 (by decide)
                                              · exact absurd c_46_5 (by decide)
                                            · exact absurd c_16_5 (by decide)
                                        · exact absurd c_46_4 (by decide)
                                      · have n_27_4 := nb_nle (a := en) (b := a + 1 + 1 + 1 + 1) c_27_4 (by omega) (by omega)
                                        refine lv_iconst (v := 1) hx hb dX11_take_30 (by decide) ?_
                                        refine lv_goto (tgt := 35) hx hb dX11_take_31 (by decide) ?_
                                        refine k_mpi (v := 1) (ty := .boolean) C G 18 (by decide) mr_18 fl_X11_175 rfl rfl rfl rfl rfl dX11_take_35 (fun H locs (G : wd Z A s (mdW Z h ad (upd (upd (upd (upd (upd (upd (upd (upd (upd iv 18 1) 16 (nI (a + 1))) 18 1) 16 (nI (a + 1 + 1))) 18 1) 16 (nI (a + 1 + 1 + 1))) 18 1) 16 (nI (a + 1 + 1 + 1 + 1))) 18 1) av) H locs) => ?_)
                                        refine lv_lload_n hx hb dX11_take_38 rfl (lv_at hl 1 rfl) ?_
                                        refine lv_bipush (v := 8) hx hb dX11_take_39 (by decide) ?_
                                        refine lv_lshl (v := ((((((((0 <<< ((8 : Int32).toInt64 &&& 63)) ||| ((((av 3) a).toInt64) &&& 255)) <<< ((8 : Int32).toInt64 &&& 63)) ||| ((((av 3) (a + 1)).toInt64) &&& 255)) <<< ((8 : Int32).toInt64 &&& 63)) ||| ((((av 3) (a + 1 + 1)).toInt64) &&& 255)) <<< ((8 : Int32).toInt64 &&& 63)) ||| ((((av 3) (a + 1 + 1 + 1)).toInt64) &&& 255)) <<< ((8 : Int32).toInt64 &&& 63)) hx hb dX11_take_41 rfl ?_
                                        refine lv_aload_n hx hb dX11_take_42 rfl (lv_at hl 2 rfl) ?_
                                        refine k_mgi (v := 1) C G 18 (by decide) mr_18 rfl fl_X11_175 rfl dX11_take_43 ?_
                                        refine lv_if_eq (tgt := 66) hx hb dX11_take_46 (by decide) (fun c_46_4 => ?_) (fun c_46_4 => ?_)
                                        · exact absurd c_46_4 (by decide)
                                        · have n_46_4 := nb_ne (a := 1) (b := 0) c_46_4 (by omega) (by omega)
                                          refine lv_aload_n hx hb dX11_take_49 rfl (lv_at hl 2 rfl) ?_
                                          refine k_mga C G 3 (by decide) mr_3 fl_X11_20 rfl dX11_take_50 ?_
                                          refine lv_aload_n hx hb dX11_take_53 rfl (lv_at hl 2 rfl) ?_
                                          refine k_mgi (v := nI (a + 1 + 1 + 1 + 1)) C G 16 (by decide) mr_16 rfl fl_X11_179 rfl dX11_take_54 ?_
                                          refine k_mbl (v := (av 3) (a + 1 + 1 + 1 + 1)) (i := a + 1 + 1 + 1 + 1) C G 3 (k := 3) (n := 140000) mp_3 (by decide) (by omega) rfl dX11_take_57 ?_
                                          refine lv_i2l (v := ((av 3) (a + 1 + 1 + 1 + 1)).toInt64) hx hb dX11_take_58 rfl ?_
                                          refine lv_ldc2 (v := 255) hx hb hown (hts _ kl_X11_185) dX11_take_59 ?_
                                          refine lv_land hx hb dX11_take_62 ?_
                                          refine lv_goto (tgt := 67) hx hb dX11_take_63 (by decide) ?_
                                          refine lv_lor hx hb dX11_take_67 ?_
                                          refine lv_lstore_n (lv' := [(2, .long ((((((((((0 <<< ((8 : Int32).toInt64 &&& 63)) ||| ((((av 3) a).toInt64) &&& 255)) <<< ((8 : Int32).toInt64 &&& 63)) ||| ((((av 3) (a + 1)).toInt64) &&& 255)) <<< ((8 : Int32).toInt64 &&& 63)) ||| ((((av 3) (a + 1 + 1)).toInt64) &&& 255)) <<< ((8 : Int32).toInt64 &&& 63)) ||| ((((av 3) (a + 1 + 1 + 1)).toInt64) &&& 255)) <<< ((8 : Int32).toInt64 &&& 63)) ||| ((((av 3) (a + 1 + 1 + 1 + 1)).toInt64) &&& 255))), (4, .int 4), (0, .ref h), (1, .int 8)]) hx hb dX11_take_68 rfl hl (by decide) rfl (fun ls hl => ?_)
                                          refine lv_aload_n hx hb dX11_take_69 rfl (lv_at hl 2 rfl) ?_
                                          refine lv_dup hx hb dX11_take_70 rfl ?_
                                          refine k_mgi (v := nI (a + 1 + 1 + 1 + 1)) C G 16 (by decide) mr_16 rfl fl_X11_179 rfl dX11_take_71 ?_
                                          refine lv_iconst (v := 1) hx hb dX11_take_74 (by decide) ?_
                                          refine lv_iadd hx hb dX11_take_75 ?_
                                          refine k_topi (y := nI (a + 1 + 1 + 1 + 1 + 1)) (nI_add (a + 1 + 1 + 1 + 1) 1) ?_
                                          refine k_mpi (v := nI (a + 1 + 1 + 1 + 1 + 1)) (ty := .int) C G 16 (by decide) mr_16 fl_X11_179 rfl rfl rfl rfl rfl dX11_take_76 (fun H locs (G : wd Z A s (mdW Z h ad (upd (upd (upd (upd (upd (upd (upd (upd (upd (upd iv 18 1) 16 (nI (a + 1))) 18 1) 16 (nI (a + 1 + 1))) 18 1) 16 (nI (a + 1 + 1 + 1))) 18 1) 16 (nI (a + 1 + 1 + 1 + 1))) 18 1) 16 (nI (a + 1 + 1 + 1 + 1 + 1))) av) H locs) => ?_)
                                          refine lv_iinc (v := 5) (lv' := [(4, .int 5), (2, .long ((((((((((0 <<< ((8 : Int32).toInt64 &&& 63)) ||| ((((av 3) a).toInt64) &&& 255)) <<< ((8 : Int32).toInt64 &&& 63)) ||| ((((av 3) (a + 1)).toInt64) &&& 255)) <<< ((8 : Int32).toInt64 &&& 63)) ||| ((((av 3) (a + 1 + 1)).toInt64) &&& 255)) <<< ((8 : Int32).toInt64 &&& 63)) ||| ((((av 3) (a + 1 + 1 + 1)).toInt64) &&& 255)) <<< ((8 : Int32).toInt64 &&& 63)) ||| ((((av 3) (a + 1 + 1 + 1 + 1)).toInt64) &&& 255))), (0, .ref h), (1, .int 8)]) hx hb dX11_take_79 hl (k := 1) rfl (by decide) (by decide) rfl (fun ls hl => ?_)
                                          refine lv_goto (tgt := 5) hx hb dX11_take_82 (by decide) ?_
                                          refine lv_iload hx hb dX11_take_5 (lv_at hl 0 rfl) ?_
                                          refine lv_iload_n hx hb dX11_take_7 rfl (lv_at hl 3 rfl) ?_
                                          refine lv_icmp_ge (tgt := 85) hx hb dX11_take_8 (by decide) (fun c_8_5 => ?_) (fun c_8_5 => ?_)
                                          · exact absurd c_8_5 (by decide)
                                          · have n_8_5 := nb_nle (a := 8) (b := 5) c_8_5 (by omega) (by omega)
                                            refine lv_aload_n hx hb dX11_take_11 rfl (lv_at hl 2 rfl) ?_
                                            refine lv_aload_n hx hb dX11_take_12 rfl (lv_at hl 2 rfl) ?_
                                            refine k_mgi (v := 1) C G 18 (by decide) mr_18 rfl fl_X11_175 rfl dX11_take_13 ?_
                                            refine lv_if_eq (tgt := 34) hx hb dX11_take_16 (by decide) (fun c_16_5 => ?_) (fun c_16_5 => ?_)
                                            · exact absurd c_16_5 (by decide)
                                            · have n_16_5 := nb_ne (a := 1) (b := 0) c_16_5 (by omega) (by omega)
                                              refine lv_aload_n hx hb dX11_take_19 rfl (lv_at hl 2 rfl) ?_
                                              refine k_mgi (v := nI (a + 1 + 1 + 1 + 1 + 1)) C G 16 (by decide) mr_16 rfl fl_X11_179 rfl dX11_take_20 ?_
                                              refine lv_aload_n hx hb dX11_take_23 rfl (lv_at hl 2 rfl) ?_
                                              refine k_mgi (v := nI en) C G 17 (by decide) mr_17 hen fl_X11_182 rfl dX11_take_24 ?_
                                              refine lv_icmp_ge (tgt := 34) hx hb dX11_take_27 (by decide) (fun c_27_5 => ?_) (fun c_27_5 => ?_)
                                              · have n_27_5 := nb_le (a := en) (b := a + 1 + 1 + 1 + 1 + 1) c_27_5 (by omega) (by omega)
                                                refine lv_iconst (v := 0) hx hb dX11_take_34 (by decide) ?_
                                                refine k_mpi (v := 0) (ty := .boolean) C G 18 (by decide) mr_18 fl_X11_175 rfl rfl rfl rfl rfl dX11_take_35 (fun H locs (G : wd Z A s (mdW Z h ad (upd (upd (upd (upd (upd (upd (upd (upd (upd (upd (upd iv 18 1) 16 (nI (a + 1))) 18 1) 16 (nI (a + 1 + 1))) 18 1) 16 (nI (a + 1 + 1 + 1))) 18 1) 16 (nI (a + 1 + 1 + 1 + 1))) 18 1) 16 (nI (a + 1 + 1 + 1 + 1 + 1))) 18 0) av) H locs) => ?_)
                                                refine lv_lload_n hx hb dX11_take_38 rfl (lv_at hl 1 rfl) ?_
                                                refine lv_bipush (v := 8) hx hb dX11_take_39 (by decide) ?_
                                                refine lv_lshl (v := ((((((((((0 <<< ((8 : Int32).toInt64 &&& 63)) ||| ((((av 3) a).toInt64) &&& 255)) <<< ((8 : Int32).toInt64 &&& 63)) ||| ((((av 3) (a + 1)).toInt64) &&& 255)) <<< ((8 : Int32).toInt64 &&& 63)) ||| ((((av 3) (a + 1 + 1)).toInt64) &&& 255)) <<< ((8 : Int32).toInt64 &&& 63)) ||| ((((av 3) (a + 1 + 1 + 1)).toInt64) &&& 255)) <<< ((8 : Int32).toInt64 &&& 63)) ||| ((((av 3) (a + 1 + 1 + 1 + 1)).toInt64) &&& 255)) <<< ((8 : Int32).toInt64 &&& 63)) hx hb dX11_take_41 rfl ?_
                                                refine lv_aload_n hx hb dX11_take_42 rfl (lv_at hl 2 rfl) ?_
                                                refine k_mgi (v := 0) C G 18 (by decide) mr_18 rfl fl_X11_175 rfl dX11_take_43 ?_
                                                refine lv_if_eq (tgt := 66) hx hb dX11_take_46 (by decide) (fun c_46_5 => ?_) (fun c_46_5 => ?_)
                                                · have n_46_5 := nb_eq (a := 0) (b := 0) c_46_5 (by omega) (by omega)
                                                  refine lv_lconst (v := 0) hx hb dX11_take_66 (by decide) ?_
                                                  refine lv_lor hx hb dX11_take_67 ?_
                                                  refine lv_lstore_n (lv' := [(2, .long ((((((((((((0 <<< ((8 : Int32).toInt64 &&& 63)) ||| ((((av 3) a).toInt64) &&& 255)) <<< ((8 : Int32).toInt64 &&& 63)) ||| ((((av 3) (a + 1)).toInt64) &&& 255)) <<< ((8 : Int32).toInt64 &&& 63)) ||| ((((av 3) (a + 1 + 1)).toInt64) &&& 255)) <<< ((8 : Int32).toInt64 &&& 63)) ||| ((((av 3) (a + 1 + 1 + 1)).toInt64) &&& 255)) <<< ((8 : Int32).toInt64 &&& 63)) ||| ((((av 3) (a + 1 + 1 + 1 + 1)).toInt64) &&& 255)) <<< ((8 : Int32).toInt64 &&& 63)) ||| 0)), (4, .int 5), (0, .ref h), (1, .int 8)]) hx hb dX11_take_68 rfl hl (by decide) rfl (fun ls hl => ?_)
                                                  refine lv_aload_n hx hb dX11_take_69 rfl (lv_at hl 2 rfl) ?_
                                                  refine lv_dup hx hb dX11_take_70 rfl ?_
                                                  refine k_mgi (v := nI (a + 1 + 1 + 1 + 1 + 1)) C G 16 (by decide) mr_16 rfl fl_X11_179 rfl dX11_take_71 ?_
                                                  refine lv_iconst (v := 1) hx hb dX11_take_74 (by decide) ?_
                                                  refine lv_iadd hx hb dX11_take_75 ?_
                                                  refine k_topi (y := nI (a + 1 + 1 + 1 + 1 + 1 + 1)) (nI_add (a + 1 + 1 + 1 + 1 + 1) 1) ?_
                                                  refine k_mpi (v := nI (a + 1 + 1 + 1 + 1 + 1 + 1)) (ty := .int) C G 16 (by decide) mr_16 fl_X11_179 rfl rfl rfl rfl rfl dX11_take_76 (fun H locs (G : wd Z A s (mdW Z h ad (upd (upd (upd (upd (upd (upd (upd (upd (upd (upd (upd (upd iv 18 1) 16 (nI (a + 1))) 18 1) 16 (nI (a + 1 + 1))) 18 1) 16 (nI (a + 1 + 1 + 1))) 18 1) 16 (nI (a + 1 + 1 + 1 + 1))) 18 1) 16 (nI (a + 1 + 1 + 1 + 1 + 1))) 18 0) 16 (nI (a + 1 + 1 + 1 + 1 + 1 + 1))) av) H locs) => ?_)
                                                  refine lv_iinc (v := 6) (lv' := [(4, .int 6), (2, .long ((((((((((((0 <<< ((8 : Int32).toInt64 &&& 63)) ||| ((((av 3) a).toInt64) &&& 255)) <<< ((8 : Int32).toInt64 &&& 63)) ||| ((((av 3) (a + 1)).toInt64) &&& 255)) <<< ((8 : Int32).toInt64 &&& 63)) ||| ((((av 3) (a + 1 + 1)).toInt64) &&& 255)) <<< ((8 : Int32).toInt64 &&& 63)) ||| ((((av 3) (a + 1 + 1 + 1)).toInt64) &&& 255)) <<< ((8 : Int32).toInt64 &&& 63)) ||| ((((av 3) (a + 1 + 1 + 1 + 1)).toInt64) &&& 255)) <<< ((8 : Int32).toInt64 &&& 63)) ||| 0)), (0, .ref h), (1, .int 8)]) hx hb dX11_take_79 hl (k := 1) rfl (by decide) (by decide) rfl (fun ls hl => ?_)
                                                  refine lv_goto (tgt := 5) hx hb dX11_take_82 (by decide) ?_
                                                  refine lv_iload hx hb dX11_take_5 (lv_at hl 0 rfl) ?_
                                                  refine lv_iload_n hx hb dX11_take_7 rfl (lv_at hl 3 rfl) ?_
                                                  refine lv_icmp_ge (tgt := 85) hx hb dX11_take_8 (by decide) (fun c_8_6 => ?_) (fun c_8_6 => ?_)
                                                  · exact absurd c_8_6 (by decide)
                                                  · have n_8_6 := nb_nle (a := 8) (b := 6) c_8_6 (by omega) (by omega)
                                                    refine lv_aload_n hx hb dX11_take_11 rfl (lv_at hl 2 rfl) ?_
                                                    refine lv_aload_n hx hb dX11_take_12 rfl (lv_at hl 2 rfl) ?_
                                                    refine k_mgi (v := 0) C G 18 (by decide) mr_18 rfl fl_X11_175 rfl dX11_take_13 ?_
                                                    refine lv_if_eq (tgt := 34) hx hb dX11_take_16 (by decide) (fun c_16_6 => ?_) (fun c_16_6 => ?_)
                                                    · have n_16_6 := nb_eq (a := 0) (b := 0) c_16_6 (by omega) (by omega)
                                                      refine lv_iconst (v := 0) hx hb dX11_take_34 (by decide) ?_
                                                      refine k_mpi (v := 0) (ty := .boolean) C G 18 (by decide) mr_18 fl_X11_175 rfl rfl rfl rfl rfl dX11_take_35 (fun H locs (G : wd Z A s (mdW Z h ad (upd (upd (upd (upd (upd (upd (upd (upd (upd (upd (upd (upd (upd iv 18 1) 16 (nI (a + 1))) 18 1) 16 (nI (a + 1 + 1))) 18 1) 16 (nI (a + 1 + 1 + 1))) 18 1) 16 (nI (a + 1 + 1 + 1 + 1))) 18 1) 16 (nI (a + 1 + 1 + 1 + 1 + 1))) 18 0) 16 (nI (a + 1 + 1 + 1 + 1 + 1 + 1))) 18 0) av) H locs) => ?_)
                                                      refine lv_lload_n hx hb dX11_take_38 rfl (lv_at hl 1 rfl) ?_
                                                      refine lv_bipush (v := 8) hx hb dX11_take_39 (by decide) ?_
                                                      refine lv_lshl (v := ((((((((((((0 <<< ((8 : Int32).toInt64 &&& 63)) ||| ((((av 3) a).toInt64) &&& 255)) <<< ((8 : Int32).toInt64 &&& 63)) ||| ((((av 3) (a + 1)).toInt64) &&& 255)) <<< ((8 : Int32).toInt64 &&& 63)) ||| ((((av 3) (a + 1 + 1)).toInt64) &&& 255)) <<< ((8 : Int32).toInt64 &&& 63)) ||| ((((av 3) (a + 1 + 1 + 1)).toInt64) &&& 255)) <<< ((8 : Int32).toInt64 &&& 63)) ||| ((((av 3) (a + 1 + 1 + 1 + 1)).toInt64) &&& 255)) <<< ((8 : Int32).toInt64 &&& 63)) ||| 0) <<< ((8 : Int32).toInt64 &&& 63)) hx hb dX11_take_41 rfl ?_
                                                      refine lv_aload_n hx hb dX11_take_42 rfl (lv_at hl 2 rfl) ?_
                                                      refine k_mgi (v := 0) C G 18 (by decide) mr_18 rfl fl_X11_175 rfl dX11_take_43 ?_
                                                      refine lv_if_eq (tgt := 66) hx hb dX11_take_46 (by decide) (fun c_46_6 => ?_) (fun c_46_6 => ?_)
                                                      · have n_46_6 := nb_eq (a := 0) (b := 0) c_46_6 (by omega) (by omega)
                                                        refine lv_lconst (v := 0) hx hb dX11_take_66 (by decide) ?_
                                                        refine lv_lor hx hb dX11_take_67 ?_
                                                        refine lv_lstore_n (lv' := [(2, .long ((((((((((((((0 <<< ((8 : Int32).toInt64 &&& 63)) ||| ((((av 3) a).toInt64) &&& 255)) <<< ((8 : Int32).toInt64 &&& 63)) ||| ((((av 3) (a + 1)).toInt64) &&& 255)) <<< ((8 : Int32).toInt64 &&& 63)) ||| ((((av 3) (a + 1 + 1)).toInt64) &&& 255)) <<< ((8 : Int32).toInt64 &&& 63)) ||| ((((av 3) (a + 1 + 1 + 1)).toInt64) &&& 255)) <<< ((8 : Int32).toInt64 &&& 63)) ||| ((((av 3) (a + 1 + 1 + 1 + 1)).toInt64) &&& 255)) <<< ((8 : Int32).toInt64 &&& 63)) ||| 0) <<< ((8 : Int32).toInt64 &&& 63)) ||| 0)), (4, .int 6), (0, .ref h), (1, .int 8)]) hx hb dX11_take_68 rfl hl (by decide) rfl (fun ls hl => ?_)
                                                        refine lv_aload_n hx hb dX11_take_69 rfl (lv_at hl 2 rfl) ?_
                                                        refine lv_dup hx hb dX11_take_70 rfl ?_
                                                        refine k_mgi (v := nI (a + 1 + 1 + 1 + 1 + 1 + 1)) C G 16 (by decide) mr_16 rfl fl_X11_179 rfl dX11_take_71 ?_
                                                        refine lv_iconst (v := 1) hx hb dX11_take_74 (by decide) ?_
                                                        refine lv_iadd hx hb dX11_take_75 ?_
                                                        refine k_topi (y := nI (a + 1 + 1 + 1 + 1 + 1 + 1 + 1)) (nI_add (a + 1 + 1 + 1 + 1 + 1 + 1) 1) ?_
                                                        refine k_mpi (v := nI (a + 1 + 1 + 1 + 1 + 1 + 1 + 1)) (ty := .int) C G 16 (by decide) mr_16 fl_X11_179 rfl rfl rfl rfl rfl dX11_take_76 (fun H locs (G : wd Z A s (mdW Z h ad (upd (upd (upd (upd (upd (upd (upd (upd (upd (upd (upd (upd (upd (upd iv 18 1) 16 (nI (a + 1))) 18 1) 16 (nI (a + 1 + 1))) 18 1) 16 (nI (a + 1 + 1 + 1))) 18 1) 16 (nI (a + 1 + 1 + 1 + 1))) 18 1) 16 (nI (a + 1 + 1 + 1 + 1 + 1))) 18 0) 16 (nI (a + 1 + 1 + 1 + 1 + 1 + 1))) 18 0) 16 (nI (a + 1 + 1 + 1 + 1 + 1 + 1 + 1))) av) H locs) => ?_)
                                                        refine lv_iinc (v := 7) (lv' := [(4, .int 7), (2, .long ((((((((((((((0 <<< ((8 : Int32).toInt64 &&& 63)) ||| ((((av 3) a).toInt64) &&& 255)) <<< ((8 : Int32).toInt64 &&& 63)) ||| ((((av 3) (a + 1)).toInt64) &&& 255)) <<< ((8 : Int32).toInt64 &&& 63)) ||| ((((av 3) (a + 1 + 1)).toInt64) &&& 255)) <<< ((8 : Int32).toInt64 &&& 63)) ||| ((((av 3) (a + 1 + 1 + 1)).toInt64) &&& 255)) <<< ((8 : Int32).toInt64 &&& 63)) ||| ((((av 3) (a + 1 + 1 + 1 + 1)).toInt64) &&& 255)) <<< ((8 : Int32).toInt64 &&& 63)) ||| 0) <<< ((8 : Int32).toInt64 &&& 63)) ||| 0)), (0, .ref h), (1, .int 8)]) hx hb dX11_take_79 hl (k := 1) rfl (by decide) (by decide) rfl (fun ls hl => ?_)
                                                        refine lv_goto (tgt := 5) hx hb dX11_take_82 (by decide) ?_
                                                        refine lv_iload hx hb dX11_take_5 (lv_at hl 0 rfl) ?_
                                                        refine lv_iload_n hx hb dX11_take_7 rfl (lv_at hl 3 rfl) ?_
                                                        refine lv_icmp_ge (tgt := 85) hx hb dX11_take_8 (by decide) (fun c_8_7 => ?_) (fun c_8_7 => ?_)
                                                        · exact absurd c_8_7 (by decide)
                                                        · have n_8_7 := nb_nle (a := 8) (b := 7) c_8_7 (by omega) (by omega)
                                                          refine lv_aload_n hx hb dX11_take_11 rfl (lv_at hl 2 rfl) ?_
                                                          refine lv_aload_n hx hb dX11_take_12 rfl (lv_at hl 2 rfl) ?_
                                                          refine k_mgi (v := 0) C G 18 (by decide) mr_18 rfl fl_X11_175 rfl dX11_take_13 ?_
                                                          refine lv_if_eq (tgt := 34) hx hb dX11_take_16 (by decide) (fun c_16_7 => ?_) (fun c_16_7 => ?_)
                                                          · have n_16_7 := nb_eq (a := 0) (b := 0) c_16_7 (by omega) (by omega)
                                                            refine lv_iconst (v := 0) hx hb dX11_take_34 (by decide) ?_
                                                            refine k_mpi (v := 0) (ty := .boolean) C G 18 (by decide) mr_18 fl_X11_175 rfl rfl rfl rfl rfl dX11_take_35 (fun H locs (G : wd Z A s (mdW Z h ad (upd (upd (upd (upd (upd (upd (upd (upd (upd (upd (upd (upd (upd (upd (upd iv 18 1) 16 (nI (a + 1))) 18 1) 16 (nI (a + 1 + 1))) 18 1) 16 (nI (a + 1 + 1 + 1))) 18 1) 16 (nI (a + 1 + 1 + 1 + 1))) 18 1) 16 (nI (a + 1 + 1 + 1 + 1 + 1))) 18 0) 16 (nI (a + 1 + 1 + 1 + 1 + 1 + 1))) 18 0) 16 (nI (a + 1 + 1 + 1 + 1 + 1 + 1 + 1))) 18 0) av) H locs) => ?_)
                                                            refine lv_lload_n hx hb dX11_take_38 rfl (lv_at hl 1 rfl) ?_
                                                            refine lv_bipush (v := 8) hx hb dX11_take_39 (by decide) ?_
                                                            refine lv_lshl (v := ((((((((((((((0 <<< ((8 : Int32).toInt64 &&& 63)) ||| ((((av 3) a).toInt64) &&& 255)) <<< ((8 : Int32).toInt64 &&& 63)) ||| ((((av 3) (a + 1)).toInt64) &&& 255)) <<< ((8 : Int32).toInt64 &&& 63)) ||| ((((av 3) (a + 1 + 1)).toInt64) &&& 255)) <<< ((8 : Int32).toInt64 &&& 63)) ||| ((((av 3) (a + 1 + 1 + 1)).toInt64) &&& 255)) <<< ((8 : Int32).toInt64 &&& 63)) ||| ((((av 3) (a + 1 + 1 + 1 + 1)).toInt64) &&& 255)) <<< ((8 : Int32).toInt64 &&& 63)) ||| 0) <<< ((8 : Int32).toInt64 &&& 63)) ||| 0) <<< ((8 : Int32).toInt64 &&& 63)) hx hb dX11_take_41 rfl ?_
                                                            refine lv_aload_n hx hb dX11_take_42 rfl (lv_at hl 2 rfl) ?_
                                                            refine k_mgi (v := 0) C G 18 (by decide) mr_18 rfl fl_X11_175 rfl dX11_take_43 ?_
                                                            refine lv_if_eq (tgt := 66) hx hb dX11_take_46 (by decide) (fun c_46_7 => ?_) (fun c_46_7 => ?_)
                                                            · have n_46_7 := nb_eq (a := 0) (b := 0) c_46_7 (by omega) (by omega)
                                                              refine lv_lconst (v := 0) hx hb dX11_take_66 (by decide) ?_
                                                              refine lv_lor hx hb dX11_take_67 ?_
                                                              refine lv_lstore_n (lv' := [(2, .long ((((((((((((((((0 <<< ((8 : Int32).toInt64 &&& 63)) ||| ((((av 3) a).toInt64) &&& 255)) <<< ((8 : Int32).toInt64 &&& 63)) ||| ((((av 3) (a + 1)).toInt64) &&& 255)) <<< ((8 : Int32).toInt64 &&& 63)) ||| ((((av 3) (a + 1 + 1)).toInt64) &&& 255)) <<< ((8 : Int32).toInt64 &&& 63)) ||| ((((av 3) (a + 1 + 1 + 1)).toInt64) &&& 255)) <<< ((8 : Int32).toInt64 &&& 63)) ||| ((((av 3) (a + 1 + 1 + 1 + 1)).toInt64) &&& 255)) <<< ((8 : Int32).toInt64 &&& 63)) ||| 0) <<< ((8 : Int32).toInt64 &&& 63)) ||| 0) <<< ((8 : Int32).toInt64 &&& 63)) ||| 0)), (4, .int 7), (0, .ref h), (1, .int 8)]) hx hb dX11_take_68 rfl hl (by decide) rfl (fun ls hl => ?_)
                                                              refine lv_aload_n hx hb dX11_take_69 rfl (lv_at hl 2 rfl) ?_
                                                              refine lv_dup hx hb dX11_take_70 rfl ?_
                                                              refine k_mgi (v := nI (a + 1 + 1 + 1 + 1 + 1 + 1 + 1)) C G 16 (by decide) mr_16 rfl fl_X11_179 rfl dX11_take_71 ?_
                                                              refine lv_iconst (v := 1) hx hb dX11_take_74 (by decide) ?_
                                                              refine lv_iadd hx hb dX11_take_75 ?_
                                                              refine k_topi (y := nI (a + 1 + 1 + 1 + 1 + 1 + 1 + 1 + 1)) (nI_add (a + 1 + 1 + 1 + 1 + 1 + 1 + 1) 1) ?_
                                                              refine k_mpi (v := nI (a + 1 + 1 + 1 + 1 + 1 + 1 + 1 + 1)) (ty := .int) C G 16 (by decide) mr_16 fl_X11_179 rfl rfl rfl rfl rfl dX11_take_76 (fun H locs (G : wd Z A s (mdW Z h ad (upd (upd (upd (upd (upd (upd (upd (upd (upd (upd (upd (upd (upd (upd (upd (upd iv 18 1) 16 (nI (a + 1))) 18 1) 16 (nI (a + 1 + 1))) 18 1) 16 (nI (a + 1 + 1 + 1))) 18 1) 16 (nI (a + 1 + 1 + 1 + 1))) 18 1) 16 (nI (a + 1 + 1 + 1 + 1 + 1))) 18 0) 16 (nI (a + 1 + 1 + 1 + 1 + 1 + 1))) 18 0) 16 (nI (a + 1 + 1 + 1 + 1 + 1 + 1 + 1))) 18 0) 16 (nI (a + 1 + 1 + 1 + 1 + 1 + 1 + 1 + 1))) av) H locs) => ?_)
                                                              refine lv_iinc (v := 8) (lv' := [(4, .int 8), (2, .long ((((((((((((((((0 <<< ((8 : Int32).toInt64 &&& 63)) ||| ((((av 3) a).toInt64) &&& 255)) <<< ((8 : Int32).toInt64 &&& 63)) ||| ((((av 3) (a + 1)).toInt64) &&& 255)) <<< ((8 : Int32).toInt64 &&& 63)) ||| ((((av 3) (a + 1 + 1)).toInt64) &&& 255)) <<< ((8 : Int32).toInt64 &&& 63)) ||| ((((av 3) (a + 1 + 1 + 1)).toInt64) &&& 255)) <<< ((8 : Int32).toInt64 &&& 63)) ||| ((((av 3) (a + 1 + 1 + 1 + 1)).toInt64) &&& 255)) <<< ((8 : Int32).toInt64 &&& 63)) ||| 0) <<< ((8 : Int32).toInt64 &&& 63)) ||| 0) <<< ((8 : Int32).toInt64 &&& 63)) ||| 0)), (0, .ref h), (1, .int 8)]) hx hb dX11_take_79 hl (k := 1) rfl (by decide) (by decide) rfl (fun ls hl => ?_)
                                                              refine lv_goto (tgt := 5) hx hb dX11_take_82 (by decide) ?_
                                                              refine lv_iload hx hb dX11_take_5 (lv_at hl 0 rfl) ?_
                                                              refine lv_iload_n hx hb dX11_take_7 rfl (lv_at hl 3 rfl) ?_
                                                              refine lv_icmp_ge (tgt := 85) hx hb dX11_take_8 (by decide) (fun c_8_8 => ?_) (fun c_8_8 => ?_)
                                                              · have n_8_8 := nb_le (a := 8) (b := 8) c_8_8 (by omega) (by omega)
                                                                refine lv_lload_n hx hb dX11_take_85 rfl (lv_at hl 1 rfl) ?_
                                                                exact kr_l C G ⟨_, rfl, ((((((((((((((((sI.rf.up (by decide) _).up (by decide) _).up (by decide) _).up (by decide) _).up (by decide) _).up (by decide) _).up (by decide) _).up (by decide) _).up (by decide) _).up (by decide) _).up (by decide) _).up (by decide) _).up (by decide) _).up (by decide) _).up (by decide) _).up (by decide) _), rfl, Or.inr ⟨fun z => absurd z.2 (by omega), rfl⟩⟩ (Nat.le_of_ble_eq_true rfl) (Nat.le_of_ble_eq_true rfl) dX11_take_86
                                                              · exact absurd c_8_8 (by decide)
                                                            · exact absurd c_46_7 (by decide)
                                                          · exact absurd c_16_7 (by decide)
                                                      · exact absurd c_46_6 (by decide)
                                                    · exact absurd c_16_6 (by decide)
                                                · exact absurd c_46_5 (by decide)
                                              · have n_27_5 := nb_nle (a := en) (b := a + 1 + 1 + 1 + 1 + 1) c_27_5 (by omega) (by omega)
                                                refine lv_iconst (v := 1) hx hb dX11_take_30 (by decide) ?_
                                                refine lv_goto (tgt := 35) hx hb dX11_take_31 (by decide) ?_
                                                refine k_mpi (v := 1) (ty := .boolean) C G 18 (by decide) mr_18 fl_X11_175 rfl rfl rfl rfl rfl dX11_take_35 (fun H locs (G : wd Z A s (mdW Z h ad (upd (upd (upd (upd (upd (upd (upd (upd (upd (upd (upd iv 18 1) 16 (nI (a + 1))) 18 1) 16 (nI (a + 1 + 1))) 18 1) 16 (nI (a + 1 + 1 + 1))) 18 1) 16 (nI (a + 1 + 1 + 1 + 1))) 18 1) 16 (nI (a + 1 + 1 + 1 + 1 + 1))) 18 1) av) H locs) => ?_)
                                                refine lv_lload_n hx hb dX11_take_38 rfl (lv_at hl 1 rfl) ?_
                                                refine lv_bipush (v := 8) hx hb dX11_take_39 (by decide) ?_
                                                refine lv_lshl (v := ((((((((((0 <<< ((8 : Int32).toInt64 &&& 63)) ||| ((((av 3) a).toInt64) &&& 255)) <<< ((8 : Int32).toInt64 &&& 63)) ||| ((((av 3) (a + 1)).toInt64) &&& 255)) <<< ((8 : Int32).toInt64 &&& 63)) ||| ((((av 3) (a + 1 + 1)).toInt64) &&& 255)) <<< ((8 : Int32).toInt64 &&& 63)) ||| ((((av 3) (a + 1 + 1 + 1)).toInt64) &&& 255)) <<< ((8 : Int32).toInt64 &&& 63)) ||| ((((av 3) (a + 1 + 1 + 1 + 1)).toInt64) &&& 255)) <<< ((8 : Int32).toInt64 &&& 63)) hx hb dX11_take_41 rfl ?_
                                                refine lv_aload_n hx hb dX11_take_42 rfl (lv_at hl 2 rfl) ?_
                                                refine k_mgi (v := 1) C G 18 (by decide) mr_18 rfl fl_X11_175 rfl dX11_take_43 ?_
                                                refine lv_if_eq (tgt := 66) hx hb dX11_take_46 (by decide) (fun c_46_5 => ?_) (fun c_46_5 => ?_)
                                                · exact absurd c_46_5 (by decide)
                                                · have n_46_5 := nb_ne (a := 1) (b := 0) c_46_5 (by omega) (by omega)
                                                  refine lv_aload_n hx hb dX11_take_49 rfl (lv_at hl 2 rfl) ?_
                                                  refine k_mga C G 3 (by decide) mr_3 fl_X11_20 rfl dX11_take_50 ?_
                                                  refine lv_aload_n hx hb dX11_take_53 rfl (lv_at hl 2 rfl) ?_
                                                  refine k_mgi (v := nI (a + 1 + 1 + 1 + 1 + 1)) C G 16 (by decide) mr_16 rfl fl_X11_179 rfl dX11_take_54 ?_
                                                  refine k_mbl (v := (av 3) (a + 1 + 1 + 1 + 1 + 1)) (i := a + 1 + 1 + 1 + 1 + 1) C G 3 (k := 3) (n := 140000) mp_3 (by decide) (by omega) rfl dX11_take_57 ?_
                                                  refine lv_i2l (v := ((av 3) (a + 1 + 1 + 1 + 1 + 1)).toInt64) hx hb dX11_take_58 rfl ?_
                                                  refine lv_ldc2 (v := 255) hx hb hown (hts _ kl_X11_185) dX11_take_59 ?_
                                                  refine lv_land hx hb dX11_take_62 ?_
                                                  refine lv_goto (tgt := 67) hx hb dX11_take_63 (by decide) ?_
                                                  refine lv_lor hx hb dX11_take_67 ?_
                                                  refine lv_lstore_n (lv' := [(2, .long ((((((((((((0 <<< ((8 : Int32).toInt64 &&& 63)) ||| ((((av 3) a).toInt64) &&& 255)) <<< ((8 : Int32).toInt64 &&& 63)) ||| ((((av 3) (a + 1)).toInt64) &&& 255)) <<< ((8 : Int32).toInt64 &&& 63)) ||| ((((av 3) (a + 1 + 1)).toInt64) &&& 255)) <<< ((8 : Int32).toInt64 &&& 63)) ||| ((((av 3) (a + 1 + 1 + 1)).toInt64) &&& 255)) <<< ((8 : Int32).toInt64 &&& 63)) ||| ((((av 3) (a + 1 + 1 + 1 + 1)).toInt64) &&& 255)) <<< ((8 : Int32).toInt64 &&& 63)) ||| ((((av 3) (a + 1 + 1 + 1 + 1 + 1)).toInt64) &&& 255))), (4, .int 5), (0, .ref h), (1, .int 8)]) hx hb dX11_take_68 rfl hl (by decide) rfl (fun ls hl => ?_)
                                                  refine lv_aload_n hx hb dX11_take_69 rfl (lv_at hl 2 rfl) ?_
                                                  refine lv_dup hx hb dX11_take_70 rfl ?_
                                                  refine k_mgi (v := nI (a + 1 + 1 + 1 + 1 + 1)) C G 16 (by decide) mr_16 rfl fl_X11_179 rfl dX11_take_71 ?_
                                                  refine lv_iconst (v := 1) hx hb dX11_take_74 (by decide) ?_
                                                  refine lv_iadd hx hb dX11_take_75 ?_
                                                  refine k_topi (y := nI (a + 1 + 1 + 1 + 1 + 1 + 1)) (nI_add (a + 1 + 1 + 1 + 1 + 1) 1) ?_
                                                  refine k_mpi (v := nI (a + 1 + 1 + 1 + 1 + 1 + 1)) (ty := .int) C G 16 (by decide) mr_16 fl_X11_179 rfl rfl rfl rfl rfl dX11_take_76 (fun H locs (G : wd Z A s (mdW Z h ad (upd (upd (upd (upd (upd (upd (upd (upd (upd (upd (upd (upd iv 18 1) 16 (nI (a + 1))) 18 1) 16 (nI (a + 1 + 1))) 18 1) 16 (nI (a + 1 + 1 + 1))) 18 1) 16 (nI (a + 1 + 1 + 1 + 1))) 18 1) 16 (nI (a + 1 + 1 + 1 + 1 + 1))) 18 1) 16 (nI (a + 1 + 1 + 1 + 1 + 1 + 1))) av) H locs) => ?_)
                                                  refine lv_iinc (v := 6) (lv' := [(4, .int 6), (2, .long ((((((((((((0 <<< ((8 : Int32).toInt64 &&& 63)) ||| ((((av 3) a).toInt64) &&& 255)) <<< ((8 : Int32).toInt64 &&& 63)) ||| ((((av 3) (a + 1)).toInt64) &&& 255)) <<< ((8 : Int32).toInt64 &&& 63)) ||| ((((av 3) (a + 1 + 1)).toInt64) &&& 255)) <<< ((8 : Int32).toInt64 &&& 63)) ||| ((((av 3) (a + 1 + 1 + 1)).toInt64) &&& 255)) <<< ((8 : Int32).toInt64 &&& 63)) ||| ((((av 3) (a + 1 + 1 + 1 + 1)).toInt64) &&& 255)) <<< ((8 : Int32).toInt64 &&& 63)) ||| ((((av 3) (a + 1 + 1 + 1 + 1 + 1)).toInt64) &&& 255))), (0, .ref h), (1, .int 8)]) hx hb dX11_take_79 hl (k := 1) rfl (by decide) (by decide) rfl (fun ls hl => ?_)
                                                  refine lv_goto (tgt := 5) hx hb dX11_take_82 (by decide) ?_
                                                  refine lv_iload hx hb dX11_take_5 (lv_at hl 0 rfl) ?_
                                                  refine lv_iload_n hx hb dX11_take_7 rfl (lv_at hl 3 rfl) ?_
                                                  refine lv_icmp_ge (tgt := 85) hx hb dX11_take_8 (by decide) (fun c_8_6 => ?_) (fun c_8_6 => ?_)
                                                  · exact absurd c_8_6 (by decide)
                                                  · have n_8_6 := nb_nle (a := 8) (b := 6) c_8_6 (by omega) (by omega)
                                                    refine lv_aload_n hx hb dX11_take_11 rfl (lv_at hl 2 rfl) ?_
                                                    refine lv_aload_n hx hb dX11_take_12 rfl (lv_at hl 2 rfl) ?_
                                                    refine k_mgi (v := 1) C G 18 (by decide) mr_18 rfl fl_X11_175 rfl dX11_take_13 ?_
                                                    refine lv_if_eq (tgt := 34) hx hb dX11_take_16 (by decide) (fun c_16_6 => ?_) (fun c_16_6 => ?_)
                                                    · exact absurd c_16_6 (by decide)
                                                    · have n_16_6 := nb_ne (a := 1) (b := 0) c_16_6 (by omega) (by omega)
                                                      refine lv_aload_n hx hb dX11_take_19 rfl (lv_at hl 2 rfl) ?_
                                                      refine k_mgi (v := nI (a + 1 + 1 + 1 + 1 + 1 + 1)) C G 16 (by decide) mr_16 rfl fl_X11_179 rfl dX11_take_20 ?_
                                                      refine lv_aload_n hx hb dX11_take_23 rfl (lv_at hl 2 rfl) ?_
                                                      refine k_mgi (v := nI en) C G 17 (by decide) mr_17 hen fl_X11_182 rfl dX11_take_24 ?_
                                                      refine lv_icmp_ge (tgt := 34) hx hb dX11_take_27 (by decide) (fun c_27_6 => ?_) (fun c_27_6 => ?_)
                                                      · have n_27_6 := nb_le (a := en) (b := a + 1 + 1 + 1 + 1 + 1 + 1) c_27_6 (by omega) (by omega)
                                                        refine lv_iconst (v := 0) hx hb dX11_take_34 (by decide) ?_
                                                        refine k_mpi (v := 0) (ty := .boolean) C G 18 (by decide) mr_18 fl_X11_175 rfl rfl rfl rfl rfl dX11_take_35 (fun H locs (G : wd Z A s (mdW Z h ad (upd (upd (upd (upd (upd (upd (upd (upd (upd (upd (upd (upd (upd iv 18 1) 16 (nI (a + 1))) 18 1) 16 (nI (a + 1 + 1))) 18 1) 16 (nI (a + 1 + 1 + 1))) 18 1) 16 (nI (a + 1 + 1 + 1 + 1))) 18 1) 16 (nI (a + 1 + 1 + 1 + 1 + 1))) 18 1) 16 (nI (a + 1 + 1 + 1 + 1 + 1 + 1))) 18 0) av) H locs) => ?_)
                                                        refine lv_lload_n hx hb dX11_take_38 rfl (lv_at hl 1 rfl) ?_
                                                        refine lv_bipush (v := 8) hx hb dX11_take_39 (by decide) ?_
                                                        refine lv_lshl (v := ((((((((((((0 <<< ((8 : Int32).toInt64 &&& 63)) ||| ((((av 3) a).toInt64) &&& 255)) <<< ((8 : Int32).toInt64 &&& 63)) ||| ((((av 3) (a + 1)).toInt64) &&& 255)) <<< ((8 : Int32).toInt64 &&& 63)) ||| ((((av 3) (a + 1 + 1)).toInt64) &&& 255)) <<< ((8 : Int32).toInt64 &&& 63)) ||| ((((av 3) (a + 1 + 1 + 1)).toInt64) &&& 255)) <<< ((8 : Int32).toInt64 &&& 63)) ||| ((((av 3) (a + 1 + 1 + 1 + 1)).toInt64) &&& 255)) <<< ((8 : Int32).toInt64 &&& 63)) ||| ((((av 3) (a + 1 + 1 + 1 + 1 + 1)).toInt64) &&& 255)) <<< ((8 : Int32).toInt64 &&& 63)) hx hb dX11_take_41 rfl ?_
                                                        refine lv_aload_n hx hb dX11_take_42 rfl (lv_at hl 2 rfl) ?_
                                                        refine k_mgi (v := 0) C G 18 (by decide) mr_18 rfl fl_X11_175 rfl dX11_take_43 ?_
                                                        refine lv_if_eq (tgt := 66) hx hb dX11_take_46 (by decide) (fun c_46_6 => ?_) (fun c_46_6 => ?_)
                                                        · have n_46_6 := nb_eq (a := 0) (b := 0) c_46_6 (by omega) (by omega)
                                                          refine lv_lconst (v := 0) hx hb dX11_take_66 (by decide) ?_
                                                          refine lv_lor hx hb dX11_take_67 ?_
                                                          refine lv_lstore_n (lv' := [(2, .long ((((((((((((((0 <<< ((8 : Int32).toInt64 &&& 63)) ||| ((((av 3) a).toInt64) &&& 255)) <<< ((8 : Int32).toInt64 &&& 63)) ||| ((((av 3) (a + 1)).toInt64) &&& 255)) <<< ((8 : Int32).toInt64 &&& 63)) ||| ((((av 3) (a + 1 + 1)).toInt64) &&& 255)) <<< ((8 : Int32).toInt64 &&& 63)) ||| ((((av 3) (a + 1 + 1 + 1)).toInt64) &&& 255)) <<< ((8 : Int32).toInt64 &&& 63)) ||| ((((av 3) (a + 1 + 1 + 1 + 1)).toInt64) &&& 255)) <<< ((8 : Int32).toInt64 &&& 63)) ||| ((((av 3) (a + 1 + 1 + 1 + 1 + 1)).toInt64) &&& 255)) <<< ((8 : Int32).toInt64 &&& 63)) ||| 0)), (4, .int 6), (0, .ref h), (1, .int 8)]) hx hb dX11_take_68 rfl hl (by decide) rfl (fun ls hl => ?_)
                                                          refine lv_aload_n hx hb dX11_take_69 rfl (lv_at hl 2 rfl) ?_
                                                          refine lv_dup hx hb dX11_take_70 rfl ?_
                                                          refine k_mgi (v := nI (a + 1 + 1 + 1 + 1 + 1 + 1)) C G 16 (by decide) mr_16 rfl fl_X11_179 rfl dX11_take_71 ?_
                                                          refine lv_iconst (v := 1) hx hb dX11_take_74 (by decide) ?_
                                                          refine lv_iadd hx hb dX11_take_75 ?_
                                                          refine k_topi (y := nI (a + 1 + 1 + 1 + 1 + 1 + 1 + 1)) (nI_add (a + 1 + 1 + 1 + 1 + 1 + 1) 1) ?_
                                                          refine k_mpi (v := nI (a + 1 + 1 + 1 + 1 + 1 + 1 + 1)) (ty := .int) C G 16 (by decide) mr_16 fl_X11_179 rfl rfl rfl rfl rfl dX11_take_76 (fun H locs (G : wd Z A s (mdW Z h ad (upd (upd (upd (upd (upd (upd (upd (upd (upd (upd (upd (upd (upd (upd iv 18 1) 16 (nI (a + 1))) 18 1) 16 (nI (a + 1 + 1))) 18 1) 16 (nI (a + 1 + 1 + 1))) 18 1) 16 (nI (a + 1 + 1 + 1 + 1))) 18 1) 16 (nI (a + 1 + 1 + 1 + 1 + 1))) 18 1) 16 (nI (a + 1 + 1 + 1 + 1 + 1 + 1))) 18 0) 16 (nI (a + 1 + 1 + 1 + 1 + 1 + 1 + 1))) av) H locs) => ?_)
                                                          refine lv_iinc (v := 7) (lv' := [(4, .int 7), (2, .long ((((((((((((((0 <<< ((8 : Int32).toInt64 &&& 63)) ||| ((((av 3) a).toInt64) &&& 255)) <<< ((8 : Int32).toInt64 &&& 63)) ||| ((((av 3) (a + 1)).toInt64) &&& 255)) <<< ((8 : Int32).toInt64 &&& 63)) ||| ((((av 3) (a + 1 + 1)).toInt64) &&& 255)) <<< ((8 : Int32).toInt64 &&& 63)) ||| ((((av 3) (a + 1 + 1 + 1)).toInt64) &&& 255)) <<< ((8 : Int32).toInt64 &&& 63)) ||| ((((av 3) (a + 1 + 1 + 1 + 1)).toInt64) &&& 255)) <<< ((8 : Int32).toInt64 &&& 63)) ||| ((((av 3) (a + 1 + 1 + 1 + 1 + 1)).toInt64) &&& 255)) <<< ((8 : Int32).toInt64 &&& 63)) ||| 0)), (0, .ref h), (1, .int 8)]) hx hb dX11_take_79 hl (k := 1) rfl (by decide) (by decide) rfl (fun ls hl => ?_)
                                                          refine lv_goto (tgt := 5) hx hb dX11_take_82 (by decide) ?_
                                                          refine lv_iload hx hb dX11_take_5 (lv_at hl 0 rfl) ?_
                                                          refine lv_iload_n hx hb dX11_take_7 rfl (lv_at hl 3 rfl) ?_
                                                          refine lv_icmp_ge (tgt := 85) hx hb dX11_take_8 (by decide) (fun c_8_7 => ?_) (fun c_8_7 => ?_)
                                                          · exact absurd c_8_7 (by decide)
                                                          · have n_8_7 := nb_nle (a := 8) (b := 7) c_8_7 (by omega) (by omega)
                                                            refine lv_aload_n hx hb dX11_take_11 rfl (lv_at hl 2 rfl) ?_
                                                            refine lv_aload_n hx hb dX11_take_12 rfl (lv_at hl 2 rfl) ?_
                                                            refine k_mgi (v := 0) C G 18 (by decide) mr_18 rfl fl_X11_175 rfl dX11_take_13 ?_
                                                            refine lv_if_eq (tgt := 34) hx hb dX11_take_16 (by decide) (fun c_16_7 => ?_) (fun c_16_7 => ?_)
                                                            · have n_16_7 := nb_eq (a := 0) (b := 0) c_16_7 (by omega) (by omega)
                                                              refine lv_iconst (v := 0) hx hb dX11_take_34 (by decide) ?_
                                                              refine k_mpi (v := 0) (ty := .boolean) C G 18 (by decide) mr_18 fl_X11_175 rfl rfl rfl rfl rfl dX11_take_35 (fun H locs (G : wd Z A s (mdW Z h ad (upd (upd (upd (upd (upd (upd (upd (upd (upd (upd (upd (upd (upd (upd (upd iv 18 1) 16 (nI (a + 1))) 18 1) 16 (nI (a + 1 + 1))) 18 1) 16 (nI (a + 1 + 1 + 1))) 18 1) 16 (nI (a + 1 + 1 + 1 + 1))) 18 1) 16 (nI (a + 1 + 1 + 1 + 1 + 1))) 18 1) 16 (nI (a + 1 + 1 + 1 + 1 + 1 + 1))) 18 0) 16 (nI (a + 1 + 1 + 1 + 1 + 1 + 1 + 1))) 18 0) av) H locs) => ?_)
                                                              refine lv_lload_n hx hb dX11_take_38 rfl (lv_at hl 1 rfl) ?_
                                                              refine lv_bipush (v := 8) hx hb dX11_take_39 (by decide) ?_
                                                              refine lv_lshl (v := ((((((((((((((0 <<< ((8 : Int32).toInt64 &&& 63)) ||| ((((av 3) a).toInt64) &&& 255)) <<< ((8 : Int32).toInt64 &&& 63)) ||| ((((av 3) (a + 1)).toInt64) &&& 255)) <<< ((8 : Int32).toInt64 &&& 63)) ||| ((((av 3) (a + 1 + 1)).toInt64) &&& 255)) <<< ((8 : Int32).toInt64 &&& 63)) ||| ((((av 3) (a + 1 + 1 + 1)).toInt64) &&& 255)) <<< ((8 : Int32).toInt64 &&& 63)) ||| ((((av 3) (a + 1 + 1 + 1 + 1)).toInt64) &&& 255)) <<< ((8 : Int32).toInt64 &&& 63)) ||| ((((av 3) (a + 1 + 1 + 1 + 1 + 1)).toInt64) &&& 255)) <<< ((8 : Int32).toInt64 &&& 63)) ||| 0) <<< ((8 : Int32).toInt64 &&& 63)) hx hb dX11_take_41 rfl ?_
                                                              refine lv_aload_n hx hb dX11_take_42 rfl (lv_at hl 2 rfl) ?_
                                                              refine k_mgi (v := 0) C G 18 (by decide) mr_18 rfl fl_X11_175 rfl dX11_take_43 ?_
                                                              refine lv_if_eq (tgt := 66) hx hb dX11_take_46 (by decide) (fun c_46_7 => ?_) (fun c_46_7 => ?_)
                                                              · have n_46_7 := nb_eq (a := 0) (b := 0) c_46_7 (by omega) (by omega)
                                                                refine lv_lconst (v := 0) hx hb dX11_take_66 (by decide) ?_
                                                                refine lv_lor hx hb dX11_take_67 ?_
                                                                refine lv_lstore_n (lv' := [(2, .long ((((((((((((((((0 <<< ((8 : Int32).toInt64 &&& 63)) ||| ((((av 3) a).toInt64) &&& 255)) <<< ((8 : Int32).toInt64 &&& 63)) ||| ((((av 3) (a + 1)).toInt64) &&& 255)) <<< ((8 : Int32).toInt64 &&& 63)) ||| ((((av 3) (a + 1 + 1)).toInt64) &&& 255)) <<< ((8 : Int32).toInt64 &&& 63)) ||| ((((av 3) (a + 1 + 1 + 1)).toInt64) &&& 255)) <<< ((8 : Int32).toInt64 &&& 63)) ||| ((((av 3) (a + 1 + 1 + 1 + 1)).toInt64) &&& 255)) <<< ((8 : Int32).toInt64 &&& 63)) ||| ((((av 3) (a + 1 + 1 + 1 + 1 + 1)).toInt64) &&& 255)) <<< ((8 : Int32).toInt64 &&& 63)) ||| 0) <<< ((8 : Int32).toInt64 &&& 63)) ||| 0)), (4, .int 7), (0, .ref h), (1, .int 8)]) hx hb dX11_take_68 rfl hl (by decide) rfl (fun ls hl => ?_)
                                                                refine lv_aload_n hx hb dX11_take_69 rfl (lv_at hl 2 rfl) ?_
                                                                refine lv_dup hx hb dX11_take_70 rfl ?_
                                                                refine k_mgi (v := nI (a + 1 + 1 + 1 + 1 + 1 + 1 + 1)) C G 16 (by decide) mr_16 rfl fl_X11_179 rfl dX11_take_71 ?_
                                                                refine lv_iconst (v := 1) hx hb dX11_take_74 (by decide) ?_
                                                                refine lv_iadd hx hb dX11_take_75 ?_
                                                                refine k_topi (y := nI (a + 1 + 1 + 1 + 1 + 1 + 1 + 1 + 1)) (nI_add (a + 1 + 1 + 1 + 1 + 1 + 1 + 1) 1) ?_
                                                                refine k_mpi (v := nI (a + 1 + 1 + 1 + 1 + 1 + 1 + 1 + 1)) (ty := .int) C G 16 (by decide) mr_16 fl_X11_179 rfl rfl rfl rfl rfl dX11_take_76 (fun H locs (G : wd Z A s (mdW Z h ad (upd (upd (upd (upd (upd (upd (upd (upd (upd (upd (upd (upd (upd (upd (upd (upd iv 18 1) 16 (nI (a + 1))) 18 1) 16 (nI (a + 1 + 1))) 18 1) 16 (nI (a + 1 + 1 + 1))) 18 1) 16 (nI (a + 1 + 1 + 1 + 1))) 18 1) 16 (nI (a + 1 + 1 + 1 + 1 + 1))) 18 1) 16 (nI (a + 1 + 1 + 1 + 1 + 1 + 1))) 18 0) 16 (nI (a + 1 + 1 + 1 + 1 + 1 + 1 + 1))) 18 0) 16 (nI (a + 1 + 1 + 1 + 1 + 1 + 1 + 1 + 1))) av) H locs) => ?_)
                                                                refine lv_iinc (v := 8) (lv' := [(4, .int 8), (2, .long ((((((((((((((((0 <<< ((8 : Int32).toInt64 &&& 63)) ||| ((((av 3) a).toInt64) &&& 255)) <<< ((8 : Int32).toInt64 &&& 63)) ||| ((((av 3) (a + 1)).toInt64) &&& 255)) <<< ((8 : Int32).toInt64 &&& 63)) ||| ((((av 3) (a + 1 + 1)).toInt64) &&& 255)) <<< ((8 : Int32).toInt64 &&& 63)) ||| ((((av 3) (a + 1 + 1 + 1)).toInt64) &&& 255)) <<< ((8 : Int32).toInt64 &&& 63)) ||| ((((av 3) (a + 1 + 1 + 1 + 1)).toInt64) &&& 255)) <<< ((8 : Int32).toInt64 &&& 63)) ||| ((((av 3) (a + 1 + 1 + 1 + 1 + 1)).toInt64) &&& 255)) <<< ((8 : Int32).toInt64 &&& 63)) ||| 0) <<< ((8 : Int32).toInt64 &&& 63)) ||| 0)), (0, .ref h), (1, .int 8)]) hx hb dX11_take_79 hl (k := 1) rfl (by decide) (by decide) rfl (fun ls hl => ?_)
                                                                refine lv_goto (tgt := 5) hx hb dX11_take_82 (by decide) ?_
                                                                refine lv_iload hx hb dX11_take_5 (lv_at hl 0 rfl) ?_
                                                                refine lv_iload_n hx hb dX11_take_7 rfl (lv_at hl 3 rfl) ?_
                                                                refine lv_icmp_ge (tgt := 85) hx hb dX11_take_8 (by decide) (fun c_8_8 => ?_) (fun c_8_8 => ?_)
                                                                · have n_8_8 := nb_le (a := 8) (b := 8) c_8_8 (by omega) (by omega)
                                                                  refine lv_lload_n hx hb dX11_take_85 rfl (lv_at hl 1 rfl) ?_
                                                                  exact kr_l C G ⟨_, rfl, ((((((((((((((((sI.rf.up (by decide) _).up (by decide) _).up (by decide) _).up (by decide) _).up (by decide) _).up (by decide) _).up (by decide) _).up (by decide) _).up (by decide) _).up (by decide) _).up (by decide) _).up (by decide) _).up (by decide) _).up (by decide) _).up (by decide) _).up (by decide) _), rfl, Or.inr ⟨fun z => absurd z.2 (by omega), rfl⟩⟩ (Nat.le_of_ble_eq_true rfl) (Nat.le_of_ble_eq_true rfl) dX11_take_86
                                                                · exact absurd c_8_8 (by decide)
                                                              · exact absurd c_46_7 (by decide)
                                                            · exact absurd c_16_7 (by decide)
                                                        · exact absurd c_46_6 (by decide)
                                                      · have n_27_6 := nb_nle (a := en) (b := a + 1 + 1 + 1 + 1 + 1 + 1) c_27_6 (by omega) (by omega)
                                                        refine lv_iconst (v := 1) hx hb dX11_take_30 (by decide) ?_
                                                        refine lv_goto (tgt := 35) hx hb dX11_take_31 (by decide) ?_
                                                        refine k_mpi (v := 1) (ty := .boolean) C G 18 (by decide) mr_18 fl_X11_175 rfl rfl rfl rfl rfl dX11_take_35 (fun H locs (G : wd Z A s (mdW Z h ad (upd (upd (upd (upd (upd (upd (upd (upd (upd (upd (upd (upd (upd iv 18 1) 16 (nI (a + 1))) 18 1) 16 (nI (a + 1 + 1))) 18 1) 16 (nI (a + 1 + 1 + 1))) 18 1) 16 (nI (a + 1 + 1 + 1 + 1))) 18 1) 16 (nI (a + 1 + 1 + 1 + 1 + 1))) 18 1) 16 (nI (a + 1 + 1 + 1 + 1 + 1 + 1))) 18 1) av) H locs) => ?_)
                                                        refine lv_lload_n hx hb dX11_take_38 rfl (lv_at hl 1 rfl) ?_
                                                        refine lv_bipush (v := 8) hx hb dX11_take_39 (by decide) ?_
                                                        refine lv_lshl (v := ((((((((((((0 <<< ((8 : Int32).toInt64 &&& 63)) ||| ((((av 3) a).toInt64) &&& 255)) <<< ((8 : Int32).toInt64 &&& 63)) ||| ((((av 3) (a + 1)).toInt64) &&& 255)) <<< ((8 : Int32).toInt64 &&& 63)) ||| ((((av 3) (a + 1 + 1)).toInt64) &&& 255)) <<< ((8 : Int32).toInt64 &&& 63)) ||| ((((av 3) (a + 1 + 1 + 1)).toInt64) &&& 255)) <<< ((8 : Int32).toInt64 &&& 63)) ||| ((((av 3) (a + 1 + 1 + 1 + 1)).toInt64) &&& 255)) <<< ((8 : Int32).toInt64 &&& 63)) ||| ((((av 3) (a + 1 + 1 + 1 + 1 + 1)).toInt64) &&& 255)) <<< ((8 : Int32).toInt64 &&& 63)) hx hb dX11_take_41 rfl ?_
                                                        refine lv_aload_n hx hb dX11_take_42 rfl (lv_at hl 2 rfl) ?_
                                                        refine k_mgi (v := 1) C G 18 (by decide) mr_18 rfl fl_X11_175 rfl dX11_take_43 ?_
                                                        refine lv_if_eq (tgt := 66) hx hb dX11_take_46 (by decide) (fun c_46_6 => ?_) (fun c_46_6 => ?_)
                                                        · exact absurd c_46_6 (by decide)
                                                        · have n_46_6 := nb_ne (a := 1) (b := 0) c_46_6 (by omega) (by omega)
                                                          refine lv_aload_n hx hb dX11_take_49 rfl (lv_at hl 2 rfl) ?_
                                                          refine k_mga C G 3 (by decide) mr_3 fl_X11_20 rfl dX11_take_50 ?_
                                                          refine lv_aload_n hx hb dX11_take_53 rfl (lv_at hl 2 rfl) ?_
                                                          refine k_mgi (v := nI (a + 1 + 1 + 1 + 1 + 1 + 1)) C G 16 (by decide) mr_16 rfl fl_X11_179 rfl dX11_take_54 ?_
                                                          refine k_mbl (v := (av 3) (a + 1 + 1 + 1 + 1 + 1 + 1)) (i := a + 1 + 1 + 1 + 1 + 1 + 1) C G 3 (k := 3) (n := 140000) mp_3 (by decide) (by omega) rfl dX11_take_57 ?_
                                                          refine lv_i2l (v := ((av 3) (a + 1 + 1 + 1 + 1 + 1 + 1)).toInt64) hx hb dX11_take_58 rfl ?_
                                                          refine lv_ldc2 (v := 255) hx hb hown (hts _ kl_X11_185) dX11_take_59 ?_
                                                          refine lv_land hx hb dX11_take_62 ?_
                                                          refine lv_goto (tgt := 67) hx hb dX11_take_63 (by decide) ?_
                                                          refine lv_lor hx hb dX11_take_67 ?_
                                                          refine lv_lstore_n (lv' := [(2, .long ((((((((((((((0 <<< ((8 : Int32).toInt64 &&& 63)) ||| ((((av 3) a).toInt64) &&& 255)) <<< ((8 : Int32).toInt64 &&& 63)) ||| ((((av 3) (a + 1)).toInt64) &&& 255)) <<< ((8 : Int32).toInt64 &&& 63)) ||| ((((av 3) (a + 1 + 1)).toInt64) &&& 255)) <<< ((8 : Int32).toInt64 &&& 63)) ||| ((((av 3) (a + 1 + 1 + 1)).toInt64) &&& 255)) <<< ((8 : Int32).toInt64 &&& 63)) ||| ((((av 3) (a + 1 + 1 + 1 + 1)).toInt64) &&& 255)) <<< ((8 : Int32).toInt64 &&& 63)) ||| ((((av 3) (a + 1 + 1 + 1 + 1 + 1)).toInt64) &&& 255)) <<< ((8 : Int32).toInt64 &&& 63)) ||| ((((av 3) (a + 1 + 1 + 1 + 1 + 1 + 1)).toInt64) &&& 255))), (4, .int 6), (0, .ref h), (1, .int 8)]) hx hb dX11_take_68 rfl hl (by decide) rfl (fun ls hl => ?_)
                                                          refine lv_aload_n hx hb dX11_take_69 rfl (lv_at hl 2 rfl) ?_
                                                          refine lv_dup hx hb dX11_take_70 rfl ?_
                                                          refine k_mgi (v := nI (a + 1 + 1 + 1 + 1 + 1 + 1)) C G 16 (by decide) mr_16 rfl fl_X11_179 rfl dX11_take_71 ?_
                                                          refine lv_iconst (v := 1) hx hb dX11_take_74 (by decide) ?_
                                                          refine lv_iadd hx hb dX11_take_75 ?_
                                                          refine k_topi (y := nI (a + 1 + 1 + 1 + 1 + 1 + 1 + 1)) (nI_add (a + 1 + 1 + 1 + 1 + 1 + 1) 1) ?_
                                                          refine k_mpi (v := nI (a + 1 + 1 + 1 + 1 + 1 + 1 + 1)) (ty := .int) C G 16 (by decide) mr_16 fl_X11_179 rfl rfl rfl rfl rfl dX11_take_76 (fun H locs (G : wd Z A s (mdW Z h ad (upd (upd (upd (upd (upd (upd (upd (upd (upd (upd (upd (upd (upd (upd iv 18 1) 16 (nI (a + 1))) 18 1) 16 (nI (a + 1 + 1))) 18 1) 16 (nI (a + 1 + 1 + 1))) 18 1) 16 (nI (a + 1 + 1 + 1 + 1))) 18 1) 16 (nI (a + 1 + 1 + 1 + 1 + 1))) 18 1) 16 (nI (a + 1 + 1 + 1 + 1 + 1 + 1))) 18 1) 16 (nI (a + 1 + 1 + 1 + 1 + 1 + 1 + 1))) av) H locs) => ?_)
                                                          refine lv_iinc (v := 7) (lv' := [(4, .int 7), (2, .long ((((((((((((((0 <<< ((8 : Int32).toInt64 &&& 63)) ||| ((((av 3) a).toInt64) &&& 255)) <<< ((8 : Int32).toInt64 &&& 63)) ||| ((((av 3) (a + 1)).toInt64) &&& 255)) <<< ((8 : Int32).toInt64 &&& 63)) ||| ((((av 3) (a + 1 + 1)).toInt64) &&& 255)) <<< ((8 : Int32).toInt64 &&& 63)) ||| ((((av 3) (a + 1 + 1 + 1)).toInt64) &&& 255)) <<< ((8 : Int32).toInt64 &&& 63)) ||| ((((av 3) (a + 1 + 1 + 1 + 1)).toInt64) &&& 255)) <<< ((8 : Int32).toInt64 &&& 63)) ||| ((((av 3) (a + 1 + 1 + 1 + 1 + 1)).toInt64) &&& 255)) <<< ((8 : Int32).toInt64 &&& 63)) ||| ((((av 3) (a + 1 + 1 + 1 + 1 + 1 + 1)).toInt64) &&& 255))), (0, .ref h), (1, .int 8)]) hx hb dX11_take_79 hl (k := 1) rfl (by decide) (by decide) rfl (fun ls hl => ?_)
                                                          refine lv_goto (tgt := 5) hx hb dX11_take_82 (by decide) ?_
                                                          refine lv_iload hx hb dX11_take_5 (lv_at hl 0 rfl) ?_
                                                          refine lv_iload_n hx hb dX11_take_7 rfl (lv_at hl 3 rfl) ?_
                                                          refine lv_icmp_ge (tgt := 85) hx hb dX11_take_8 (by decide) (fun c_8_7 => ?_) (fun c_8_7 => ?_)
                                                          · exact absurd c_8_7 (by decide)
                                                          · have n_8_7 := nb_nle (a := 8) (b := 7) c_8_7 (by omega) (by omega)
                                                            refine lv_aload_n hx hb dX11_take_11 rfl (lv_at hl 2 rfl) ?_
                                                            refine lv_aload_n hx hb dX11_take_12 rfl (lv_at hl 2 rfl) ?_
                                                            refine k_mgi (v := 1) C G 18 (by decide) mr_18 rfl fl_X11_175 rfl dX11_take_13 ?_
                                                            refine lv_if_eq (tgt := 34) hx hb dX11_take_16 (by decide) (fun c_16_7 => ?_) (fun c_16_7 => ?_)
                                                            · exact absurd c_16_7 (by decide)
                                                            · have n_16_7 := nb_ne (a := 1) (b := 0) c_16_7 (by omega) (by omega)
                                                              refine lv_aload_n hx hb dX11_take_19 rfl (lv_at hl 2 rfl) ?_
                                                              refine k_mgi (v := nI (a + 1 + 1 + 1 + 1 + 1 + 1 + 1)) C G 16 (by decide) mr_16 rfl fl_X11_179 rfl dX11_take_20 ?_
                                                              refine lv_aload_n hx hb dX11_take_23 rfl (lv_at hl 2 rfl) ?_
                                                              refine k_mgi (v := nI en) C G 17 (by decide) mr_17 hen fl_X11_182 rfl dX11_take_24 ?_
                                                              refine lv_icmp_ge (tgt := 34) hx hb dX11_take_27 (by decide) (fun c_27_7 => ?_) (fun c_27_7 => ?_)
                                                              · have n_27_7 := nb_le (a := en) (b := a + 1 + 1 + 1 + 1 + 1 + 1 + 1) c_27_7 (by omega) (by omega)
                                                                refine lv_iconst (v := 0) hx hb dX11_take_34 (by decide) ?_
                                                                refine k_mpi (v := 0) (ty := .boolean) C G 18 (by decide) mr_18 fl_X11_175 rfl rfl rfl rfl rfl dX11_take_35 (fun H locs (G : wd Z A s (mdW Z h ad (upd (upd (upd (upd (upd (upd (upd (upd (upd (upd (upd (upd (upd (upd (upd iv 18 1) 16 (nI (a + 1))) 18 1) 16 (nI (a + 1 + 1))) 18 1) 16 (nI (a + 1 + 1 + 1))) 18 1) 16 (nI (a + 1 + 1 + 1 + 1))) 18 1) 16 (nI (a + 1 + 1 + 1 + 1 + 1))) 18 1) 16 (nI (a + 1 + 1 + 1 + 1 + 1 + 1))) 18 1) 16 (nI (a + 1 + 1 + 1 + 1 + 1 + 1 + 1))) 18 0) av) H locs) => ?_)
                                                                refine lv_lload_n hx hb dX11_take_38 rfl (lv_at hl 1 rfl) ?_
                                                                refine lv_bipush (v := 8) hx hb dX11_take_39 (by decide) ?_
                                                                refine lv_lshl (v := ((((((((((((((0 <<< ((8 : Int32).toInt64 &&& 63)) ||| ((((av 3) a).toInt64) &&& 255)) <<< ((8 : Int32).toInt64 &&& 63)) ||| ((((av 3) (a + 1)).toInt64) &&& 255)) <<< ((8 : Int32).toInt64 &&& 63)) ||| ((((av 3) (a + 1 + 1)).toInt64) &&& 255)) <<< ((8 : Int32).toInt64 &&& 63)) ||| ((((av 3) (a + 1 + 1 + 1)).toInt64) &&& 255)) <<< ((8 : Int32).toInt64 &&& 63)) ||| ((((av 3) (a + 1 + 1 + 1 + 1)).toInt64) &&& 255)) <<< ((8 : Int32).toInt64 &&& 63)) ||| ((((av 3) (a + 1 + 1 + 1 + 1 + 1)).toInt64) &&& 255)) <<< ((8 : Int32).toInt64 &&& 63)) ||| ((((av 3) (a + 1 + 1 + 1 + 1 + 1 + 1)).toInt64) &&& 255)) <<< ((8 : Int32).toInt64 &&& 63)) hx hb dX11_take_41 rfl ?_
                                                                refine lv_aload_n hx hb dX11_take_42 rfl (lv_at hl 2 rfl) ?_
                                                                refine k_mgi (v := 0) C G 18 (by decide) mr_18 rfl fl_X11_175 rfl dX11_take_43 ?_
                                                                refine lv_if_eq (tgt := 66) hx hb dX11_take_46 (by decide) (fun c_46_7 => ?_) (fun c_46_7 => ?_)
                                                                · have n_46_7 := nb_eq (a := 0) (b := 0) c_46_7 (by omega) (by omega)
                                                                  refine lv_lconst (v := 0) hx hb dX11_take_66 (by decide) ?_
                                                                  refine lv_lor hx hb dX11_take_67 ?_
                                                                  refine lv_lstore_n (lv' := [(2, .long ((((((((((((((((0 <<< ((8 : Int32).toInt64 &&& 63)) ||| ((((av 3) a).toInt64) &&& 255)) <<< ((8 : Int32).toInt64 &&& 63)) ||| ((((av 3) (a + 1)).toInt64) &&& 255)) <<< ((8 : Int32).toInt64 &&& 63)) ||| ((((av 3) (a + 1 + 1)).toInt64) &&& 255)) <<< ((8 : Int32).toInt64 &&& 63)) ||| ((((av 3) (a + 1 + 1 + 1)).toInt64) &&& 255)) <<< ((8 : Int32).toInt64 &&& 63)) ||| ((((av 3) (a + 1 + 1 + 1 + 1)).toInt64) &&& 255)) <<< ((8 : Int32).toInt64 &&& 63)) ||| ((((av 3) (a + 1 + 1 + 1 + 1 + 1)).toInt64) &&& 255)) <<< ((8 : Int32).toInt64 &&& 63)) ||| ((((av 3) (a + 1 + 1 + 1 + 1 + 1 + 1)).toInt64) &&& 255)) <<< ((8 : Int32).toInt64 &&& 63)) ||| 0)), (4, .int 7), (0, .ref h), (1, .int 8)]) hx hb dX11_take_68 rfl hl (by decide) rfl (fun ls hl => ?_)
                                                                  refine lv_aload_n hx hb dX11_take_69 rfl (lv_at hl 2 rfl) ?_
                                                                  refine lv_dup hx hb dX11_take_70 rfl ?_
                                                                  refine k_mgi (v := nI (a + 1 + 1 + 1 + 1 + 1 + 1 + 1)) C G 16 (by decide) mr_16 rfl fl_X11_179 rfl dX11_take_71 ?_
                                                                  refine lv_iconst (v := 1) hx hb dX11_take_74 (by decide) ?_
                                                                  refine lv_iadd hx hb dX11_take_75 ?_
                                                                  refine k_topi (y := nI (a + 1 + 1 + 1 + 1 + 1 + 1 + 1 + 1)) (nI_add (a + 1 + 1 + 1 + 1 + 1 + 1 + 1) 1) ?_
                                                                  refine k_mpi (v := nI (a + 1 + 1 + 1 + 1 + 1 + 1 + 1 + 1)) (ty := .int) C G 16 (by decide) mr_16 fl_X11_179 rfl rfl rfl rfl rfl dX11_take_76 (fun H locs (G : wd Z A s (mdW Z h ad (upd (upd (upd (upd (upd (upd (upd (upd (upd (upd (upd (upd (upd (upd (upd (upd iv 18 1) 16 (nI (a + 1))) 18 1) 16 (nI (a + 1 + 1))) 18 1) 16 (nI (a + 1 + 1 + 1))) 18 1) 16 (nI (a + 1 + 1 + 1 + 1))) 18 1) 16 (nI (a + 1 + 1 + 1 + 1 + 1))) 18 1) 16 (nI (a + 1 + 1 + 1 + 1 + 1 + 1))) 18 1) 16 (nI (a + 1 + 1 + 1 + 1 + 1 + 1 + 1))) 18 0) 16 (nI (a + 1 + 1 + 1 + 1 + 1 + 1 + 1 + 1))) av) H locs) => ?_)
                                                                  refine lv_iinc (v := 8) (lv' := [(4, .int 8), (2, .long ((((((((((((((((0 <<< ((8 : Int32).toInt64 &&& 63)) ||| ((((av 3) a).toInt64) &&& 255)) <<< ((8 : Int32).toInt64 &&& 63)) ||| ((((av 3) (a + 1)).toInt64) &&& 255)) <<< ((8 : Int32).toInt64 &&& 63)) ||| ((((av 3) (a + 1 + 1)).toInt64) &&& 255)) <<< ((8 : Int32).toInt64 &&& 63)) ||| ((((av 3) (a + 1 + 1 + 1)).toInt64) &&& 255)) <<< ((8 : Int32).toInt64 &&& 63)) ||| ((((av 3) (a + 1 + 1 + 1 + 1)).toInt64) &&& 255)) <<< ((8 : Int32).toInt64 &&& 63)) ||| ((((av 3) (a + 1 + 1 + 1 + 1 + 1)).toInt64) &&& 255)) <<< ((8 : Int32).toInt64 &&& 63)) ||| ((((av 3) (a + 1 + 1 + 1 + 1 + 1 + 1)).toInt64) &&& 255)) <<< ((8 : Int32).toInt64 &&& 63)) ||| 0)), (0, .ref h), (1, .int 8)]) hx hb dX11_take_79 hl (k := 1) rfl (by decide) (by decide) rfl (fun ls hl => ?_)
                                                                  refine lv_goto (tgt := 5) hx hb dX11_take_82 (by decide) ?_
                                                                  refine lv_iload hx hb dX11_take_5 (lv_at hl 0 rfl) ?_
                                                                  refine lv_iload_n hx hb dX11_take_7 rfl (lv_at hl 3 rfl) ?_
                                                                  refine lv_icmp_ge (tgt := 85) hx hb dX11_take_8 (by decide) (fun c_8_8 => ?_) (fun c_8_8 => ?_)
                                                                  · have n_8_8 := nb_le (a := 8) (b := 8) c_8_8 (by omega) (by omega)
                                                                    refine lv_lload_n hx hb dX11_take_85 rfl (lv_at hl 1 rfl) ?_
                                                                    exact kr_l C G ⟨_, rfl, ((((((((((((((((sI.rf.up (by decide) _).up (by decide) _).up (by decide) _).up (by decide) _).up (by decide) _).up (by decide) _).up (by decide) _).up (by decide) _).up (by decide) _).up (by decide) _).up (by decide) _).up (by decide) _).up (by decide) _).up (by decide) _).up (by decide) _).up (by decide) _), rfl, Or.inr ⟨fun z => absurd z.2 (by omega), rfl⟩⟩ (Nat.le_of_ble_eq_true rfl) (Nat.le_of_ble_eq_true rfl) dX11_take_86
                                                                  · exact absurd c_8_8 (by decide)
                                                                · exact absurd c_46_7 (by decide)
                                                              · have n_27_7 := nb_nle (a := en) (b := a + 1 + 1 + 1 + 1 + 1 + 1 + 1) c_27_7 (by omega) (by omega)
                                                                refine lv_iconst (v := 1) hx hb dX11_take_30 (by decide) ?_
                                                                refine lv_goto (tgt := 35) hx hb dX11_take_31 (by decide) ?_
                                                                refine k_mpi (v := 1) (ty := .boolean) C G 18 (by decide) mr_18 fl_X11_175 rfl rfl rfl rfl rfl dX11_take_35 (fun H locs (G : wd Z A s (mdW Z h ad (upd (upd (upd (upd (upd (upd (upd (upd (upd (upd (upd (upd (upd (upd (upd iv 18 1) 16 (nI (a + 1))) 18 1) 16 (nI (a + 1 + 1))) 18 1) 16 (nI (a + 1 + 1 + 1))) 18 1) 16 (nI (a + 1 + 1 + 1 + 1))) 18 1) 16 (nI (a + 1 + 1 + 1 + 1 + 1))) 18 1) 16 (nI (a + 1 + 1 + 1 + 1 + 1 + 1))) 18 1) 16 (nI (a + 1 + 1 + 1 + 1 + 1 + 1 + 1))) 18 1) av) H locs) => ?_)
                                                                refine lv_lload_n hx hb dX11_take_38 rfl (lv_at hl 1 rfl) ?_
                                                                refine lv_bipush (v := 8) hx hb dX11_take_39 (by decide) ?_
                                                                refine lv_lshl (v := ((((((((((((((0 <<< ((8 : Int32).toInt64 &&& 63)) ||| ((((av 3) a).toInt64) &&& 255)) <<< ((8 : Int32).toInt64 &&& 63)) ||| ((((av 3) (a + 1)).toInt64) &&& 255)) <<< ((8 : Int32).toInt64 &&& 63)) ||| ((((av 3) (a + 1 + 1)).toInt64) &&& 255)) <<< ((8 : Int32).toInt64 &&& 63)) ||| ((((av 3) (a + 1 + 1 + 1)).toInt64) &&& 255)) <<< ((8 : Int32).toInt64 &&& 63)) ||| ((((av 3) (a + 1 + 1 + 1 + 1)).toInt64) &&& 255)) <<< ((8 : Int32).toInt64 &&& 63)) ||| ((((av 3) (a + 1 + 1 + 1 + 1 + 1)).toInt64) &&& 255)) <<< ((8 : Int32).toInt64 &&& 63)) ||| ((((av 3) (a + 1 + 1 + 1 + 1 + 1 + 1)).toInt64) &&& 255)) <<< ((8 : Int32).toInt64 &&& 63)) hx hb dX11_take_41 rfl ?_
                                                                refine lv_aload_n hx hb dX11_take_42 rfl (lv_at hl 2 rfl) ?_
                                                                refine k_mgi (v := 1) C G 18 (by decide) mr_18 rfl fl_X11_175 rfl dX11_take_43 ?_
                                                                refine lv_if_eq (tgt := 66) hx hb dX11_take_46 (by decide) (fun c_46_7 => ?_) (fun c_46_7 => ?_)
                                                                · exact absurd c_46_7 (by decide)
                                                                · have n_46_7 := nb_ne (a := 1) (b := 0) c_46_7 (by omega) (by omega)
                                                                  refine lv_aload_n hx hb dX11_take_49 rfl (lv_at hl 2 rfl) ?_
                                                                  refine k_mga C G 3 (by decide) mr_3 fl_X11_20 rfl dX11_take_50 ?_
                                                                  refine lv_aload_n hx hb dX11_take_53 rfl (lv_at hl 2 rfl) ?_
                                                                  refine k_mgi (v := nI (a + 1 + 1 + 1 + 1 + 1 + 1 + 1)) C G 16 (by decide) mr_16 rfl fl_X11_179 rfl dX11_take_54 ?_
                                                                  refine k_mbl (v := (av 3) (a + 1 + 1 + 1 + 1 + 1 + 1 + 1)) (i := a + 1 + 1 + 1 + 1 + 1 + 1 + 1) C G 3 (k := 3) (n := 140000) mp_3 (by decide) (by omega) rfl dX11_take_57 ?_
                                                                  refine lv_i2l (v := ((av 3) (a + 1 + 1 + 1 + 1 + 1 + 1 + 1)).toInt64) hx hb dX11_take_58 rfl ?_
                                                                  refine lv_ldc2 (v := 255) hx hb hown (hts _ kl_X11_185) dX11_take_59 ?_
                                                                  refine lv_land hx hb dX11_take_62 ?_
                                                                  refine lv_goto (tgt := 67) hx hb dX11_take_63 (by decide) ?_
                                                                  refine lv_lor hx hb dX11_take_67 ?_
                                                                  refine lv_lstore_n (lv' := [(2, .long ((((((((((((((((0 <<< ((8 : Int32).toInt64 &&& 63)) ||| ((((av 3) a).toInt64) &&& 255)) <<< ((8 : Int32).toInt64 &&& 63)) ||| ((((av 3) (a + 1)).toInt64) &&& 255)) <<< ((8 : Int32).toInt64 &&& 63)) ||| ((((av 3) (a + 1 + 1)).toInt64) &&& 255)) <<< ((8 : Int32).toInt64 &&& 63)) ||| ((((av 3) (a + 1 + 1 + 1)).toInt64) &&& 255)) <<< ((8 : Int32).toInt64 &&& 63)) ||| ((((av 3) (a + 1 + 1 + 1 + 1)).toInt64) &&& 255)) <<< ((8 : Int32).toInt64 &&& 63)) ||| ((((av 3) (a + 1 + 1 + 1 + 1 + 1)).toInt64) &&& 255)) <<< ((8 : Int32).toInt64 &&& 63)) ||| ((((av 3) (a + 1 + 1 + 1 + 1 + 1 + 1)).toInt64) &&& 255)) <<< ((8 : Int32).toInt64 &&& 63)) ||| ((((av 3) (a + 1 + 1 + 1 + 1 + 1 + 1 + 1)).toInt64) &&& 255))), (4, .int 7), (0, .ref h), (1, .int 8)]) hx hb dX11_take_68 rfl hl (by decide) rfl (fun ls hl => ?_)
                                                                  refine lv_aload_n hx hb dX11_take_69 rfl (lv_at hl 2 rfl) ?_
                                                                  refine lv_dup hx hb dX11_take_70 rfl ?_
                                                                  refine k_mgi (v := nI (a + 1 + 1 + 1 + 1 + 1 + 1 + 1)) C G 16 (by decide) mr_16 rfl fl_X11_179 rfl dX11_take_71 ?_
                                                                  refine lv_iconst (v := 1) hx hb dX11_take_74 (by decide) ?_
                                                                  refine lv_iadd hx hb dX11_take_75 ?_
                                                                  refine k_topi (y := nI (a + 1 + 1 + 1 + 1 + 1 + 1 + 1 + 1)) (nI_add (a + 1 + 1 + 1 + 1 + 1 + 1 + 1) 1) ?_
                                                                  refine k_mpi (v := nI (a + 1 + 1 + 1 + 1 + 1 + 1 + 1 + 1)) (ty := .int) C G 16 (by decide) mr_16 fl_X11_179 rfl rfl rfl rfl rfl dX11_take_76 (fun H locs (G : wd Z A s (mdW Z h ad (upd (upd (upd (upd (upd (upd (upd (upd (upd (upd (upd (upd (upd (upd (upd (upd iv 18 1) 16 (nI (a + 1))) 18 1) 16 (nI (a + 1 + 1))) 18 1) 16 (nI (a + 1 + 1 + 1))) 18 1) 16 (nI (a + 1 + 1 + 1 + 1))) 18 1) 16 (nI (a + 1 + 1 + 1 + 1 + 1))) 18 1) 16 (nI (a + 1 + 1 + 1 + 1 + 1 + 1))) 18 1) 16 (nI (a + 1 + 1 + 1 + 1 + 1 + 1 + 1))) 18 1) 16 (nI (a + 1 + 1 + 1 + 1 + 1 + 1 + 1 + 1))) av) H locs) => ?_)
                                                                  refine lv_iinc (v := 8) (lv' := [(4, .int 8), (2, .long ((((((((((((((((0 <<< ((8 : Int32).toInt64 &&& 63)) ||| ((((av 3) a).toInt64) &&& 255)) <<< ((8 : Int32).toInt64 &&& 63)) ||| ((((av 3) (a + 1)).toInt64) &&& 255)) <<< ((8 : Int32).toInt64 &&& 63)) ||| ((((av 3) (a + 1 + 1)).toInt64) &&& 255)) <<< ((8 : Int32).toInt64 &&& 63)) ||| ((((av 3) (a + 1 + 1 + 1)).toInt64) &&& 255)) <<< ((8 : Int32).toInt64 &&& 63)) ||| ((((av 3) (a + 1 + 1 + 1 + 1)).toInt64) &&& 255)) <<< ((8 : Int32).toInt64 &&& 63)) ||| ((((av 3) (a + 1 + 1 + 1 + 1 + 1)).toInt64) &&& 255)) <<< ((8 : Int32).toInt64 &&& 63)) ||| ((((av 3) (a + 1 + 1 + 1 + 1 + 1 + 1)).toInt64) &&& 255)) <<< ((8 : Int32).toInt64 &&& 63)) ||| ((((av 3) (a + 1 + 1 + 1 + 1 + 1 + 1 + 1)).toInt64) &&& 255))), (0, .ref h), (1, .int 8)]) hx hb dX11_take_79 hl (k := 1) rfl (by decide) (by decide) rfl (fun ls hl => ?_)
                                                                  refine lv_goto (tgt := 5) hx hb dX11_take_82 (by decide) ?_
                                                                  refine lv_iload hx hb dX11_take_5 (lv_at hl 0 rfl) ?_
                                                                  refine lv_iload_n hx hb dX11_take_7 rfl (lv_at hl 3 rfl) ?_
                                                                  refine lv_icmp_ge (tgt := 85) hx hb dX11_take_8 (by decide) (fun c_8_8 => ?_) (fun c_8_8 => ?_)
                                                                  · have n_8_8 := nb_le (a := 8) (b := 8) c_8_8 (by omega) (by omega)
                                                                    refine lv_lload_n hx hb dX11_take_85 rfl (lv_at hl 1 rfl) ?_
                                                                    exact kr_l C G ⟨_, rfl, ((((((((((((((((sI.rf.up (by decide) _).up (by decide) _).up (by decide) _).up (by decide) _).up (by decide) _).up (by decide) _).up (by decide) _).up (by decide) _).up (by decide) _).up (by decide) _).up (by decide) _).up (by decide) _).up (by decide) _).up (by decide) _).up (by decide) _).up (by decide) _), rfl, Or.inl ⟨hg1 c_16, by omega, rfl⟩⟩ (Nat.le_of_ble_eq_true rfl) (Nat.le_of_ble_eq_true rfl) dX11_take_86
                                                                  · exact absurd c_8_8 (by decide)
