/-! MODEL (X11): step. -/
set_option maxRecDepth 100000 in
set_option maxHeartbeats 4000000 in
theorem c_step_start (Z : zT) (l : Launch) (h : Nat) (ad : Nat → Nat) (iv : ivT) (av : avT) (wn : Nat) (post : Int32 → va_W → Prop) (hwn : wn < 4) (aw : Int32) (h33 : av 33 wn = aw) (haw : ¬ aw = 0) (sd : Int32) (h34 : av 34 wn = sd) (hsd : sd = 0) (K : Ki Z l yX11_start cX11_start 4 (some .int) ({ frames := 7, cells := 0, slots := 0, locals := 230 }) [.ref h, .int (nI wn)] (mdW Z h ad iv av) post) : Ki Z l yX11_step cX11_step 2 (some .int) ({ frames := 8, cells := 0, slots := 0, locals := 280 }) [.ref h, .int (nI wn)] (mdW Z h ad iv av) post := by
  intro sz
  refine Met.ofK (cc := cX11_step) (maxL := 2) (ret := (some .int)) (by decide) (Nat.le_of_ble_eq_true rfl) ?_
  intro p e s m below meth c ls C G hl
  generalize va_A _ sz = A at G ⊢
  have hx := C.1
  have hb := C.2.1
  have hown := C.2.2.2.2.2.1
  have hts := C.2.2.2.2.2.2.1
  refine lv_iload_n hx hb dX11_step_0 rfl (lv_at hl 1 rfl) ?_
  refine kcM_i G (krS 1 rfl (As := [.int (nI wn)]) (rest := []) C G pmN (c_X11_isWriter Z l h ad iv av (nI wn) _) (gdS ml_X11_266 sm_X11_isWriter ii_X11 co_X11_isWriter) (by decide +kernel) ⟨Nat.le_of_ble_eq_true rfl, Nat.le_of_ble_eq_true rfl⟩ hl rfl (Nat.le_of_ble_eq_true rfl) ⟨Nat.le_of_ble_eq_true rfl, Nat.le_of_ble_eq_true rfl⟩ dX11_step_1) (fun r_1 u H locs hu G => ?_)
  obtain ⟨r_1_e, rfl⟩ := hu
  rw [isW_n hwn] at r_1_e
  subst r_1_e
  refine lv_if_eq (tgt := 16) hx hb dX11_step_4 (by decide) (fun c_4 => ?_) (fun c_4 => ?_)
  · exact absurd c_4 (by decide)
  · have n_4 := nb_ne (a := 1) (b := 0) c_4 (by omega) (by omega)
    refine lv_aload_n hx hb dX11_step_7 rfl (lv_at hl 0 rfl) ?_
    refine k_mga C G 33 (by decide) mr_33 fl_X11_65 rfl dX11_step_8 ?_
    refine lv_iload_n hx hb dX11_step_11 rfl (lv_at hl 1 rfl) ?_
    refine k_mzl (v := aw) (i := wn) C G 15 (k := 33) (n := 4) mp_33 (by decide) (by omega) h33 dX11_step_12 ?_
    refine lv_if_ne (tgt := 18) hx hb dX11_step_13 (by decide) (fun c_13 => ?_) (fun c_13 => ?_)
    · refine lv_aload_n hx hb dX11_step_18 rfl (lv_at hl 0 rfl) ?_
      refine k_mga C G 34 (by decide) mr_34 fl_X11_68 rfl dX11_step_19 ?_
      refine lv_iload_n hx hb dX11_step_22 rfl (lv_at hl 1 rfl) ?_
      refine k_mzl (v := sd) (i := wn) C G 16 (k := 34) (n := 4) mp_34 (by decide) (by omega) h34 dX11_step_23 ?_
      refine lv_if_ne (tgt := 33) hx hb dX11_step_24 (by decide) (fun c_24 => ?_) (fun c_24 => ?_)
      · exact absurd hsd c_24
      · refine lv_aload_n hx hb dX11_step_27 rfl (lv_at hl 0 rfl) ?_
        refine lv_iload_n hx hb dX11_step_28 rfl (lv_at hl 1 rfl) ?_
        refine kcM_i G (krV 1 rfl (As := [.int (nI wn)]) (rest := []) (ci := 12) (CC := RX11) (T := TX11) (N := 61) C G pmN (K _) (gdV ml_X11_321 im_X11_start se_X11_start ii_X11 co_X11_start) (by decide +kernel) ⟨Nat.le_of_ble_eq_true rfl, Nat.le_of_ble_eq_true rfl⟩ rfl 0 rfl hl rfl (Nat.le_of_ble_eq_true rfl) ⟨Nat.le_of_ble_eq_true rfl, Nat.le_of_ble_eq_true rfl⟩ dX11_step_29) (fun r_29 u H locs hu G => ?_)
        exact kr_i C G hu (Nat.le_of_ble_eq_true rfl) (Nat.le_of_ble_eq_true rfl) dX11_step_32
    · exact absurd c_13 haw
set_option maxRecDepth 100000 in
set_option maxHeartbeats 4000000 in
theorem c_step_write (Z : zT) (l : Launch) (h : Nat) (ad : Nat → Nat) (iv : ivT) (av : avT) (wn : Nat) (post : Int32 → va_W → Prop) (hwn : wn < 4) (aw : Int32) (h33 : av 33 wn = aw) (haw : ¬ aw = 0) (sd : Int32) (h34 : av 34 wn = sd) (hsd : ¬ sd = 0) (np na : Nat) (h53 : av 53 wn = nI np) (h48 : av 48 wn = nI na) (hnp : np ≤ 200) (hna : na ≤ 200) (hlt : np < na) (K : Ki Z l yX11_write cX11_write 4 (some .int) ({ frames := 4, cells := 0, slots := 0, locals := 130 }) [.ref h, .int (nI wn)] (mdW Z h ad iv av) post) : Ki Z l yX11_step cX11_step 2 (some .int) ({ frames := 8, cells := 0, slots := 0, locals := 280 }) [.ref h, .int (nI wn)] (mdW Z h ad iv av) post := by
  intro sz
  refine Met.ofK (cc := cX11_step) (maxL := 2) (ret := (some .int)) (by decide) (Nat.le_of_ble_eq_true rfl) ?_
  intro p e s m below meth c ls C G hl
  generalize va_A _ sz = A at G ⊢
  have hx := C.1
  have hb := C.2.1
  have hown := C.2.2.2.2.2.1
  have hts := C.2.2.2.2.2.2.1
  refine lv_iload_n hx hb dX11_step_0 rfl (lv_at hl 1 rfl) ?_
  refine kcM_i G (krS 1 rfl (As := [.int (nI wn)]) (rest := []) C G pmN (c_X11_isWriter Z l h ad iv av (nI wn) _) (gdS ml_X11_266 sm_X11_isWriter ii_X11 co_X11_isWriter) (by decide +kernel) ⟨Nat.le_of_ble_eq_true rfl, Nat.le_of_ble_eq_true rfl⟩ hl rfl (Nat.le_of_ble_eq_true rfl) ⟨Nat.le_of_ble_eq_true rfl, Nat.le_of_ble_eq_true rfl⟩ dX11_step_1) (fun r_1 u H locs hu G => ?_)
  obtain ⟨r_1_e, rfl⟩ := hu
  rw [isW_n hwn] at r_1_e
  subst r_1_e
  refine lv_if_eq (tgt := 16) hx hb dX11_step_4 (by decide) (fun c_4 => ?_) (fun c_4 => ?_)
  · exact absurd c_4 (by decide)
  · have n_4 := nb_ne (a := 1) (b := 0) c_4 (by omega) (by omega)
    refine lv_aload_n hx hb dX11_step_7 rfl (lv_at hl 0 rfl) ?_
    refine k_mga C G 33 (by decide) mr_33 fl_X11_65 rfl dX11_step_8 ?_
    refine lv_iload_n hx hb dX11_step_11 rfl (lv_at hl 1 rfl) ?_
    refine k_mzl (v := aw) (i := wn) C G 15 (k := 33) (n := 4) mp_33 (by decide) (by omega) h33 dX11_step_12 ?_
    refine lv_if_ne (tgt := 18) hx hb dX11_step_13 (by decide) (fun c_13 => ?_) (fun c_13 => ?_)
    · refine lv_aload_n hx hb dX11_step_18 rfl (lv_at hl 0 rfl) ?_
      refine k_mga C G 34 (by decide) mr_34 fl_X11_68 rfl dX11_step_19 ?_
      refine lv_iload_n hx hb dX11_step_22 rfl (lv_at hl 1 rfl) ?_
      refine k_mzl (v := sd) (i := wn) C G 16 (k := 34) (n := 4) mp_34 (by decide) (by omega) h34 dX11_step_23 ?_
      refine lv_if_ne (tgt := 33) hx hb dX11_step_24 (by decide) (fun c_24 => ?_) (fun c_24 => ?_)
      · refine lv_aload_n hx hb dX11_step_33 rfl (lv_at hl 0 rfl) ?_
        refine k_mga C G 53 (by decide) mr_53 fl_X11_126 rfl dX11_step_34 ?_
        refine lv_iload_n hx hb dX11_step_37 rfl (lv_at hl 1 rfl) ?_
        refine k_mil (v := nI np) (i := wn) C G 35 (k := 53) (n := 4) mp_53 (by decide) (by omega) h53 dX11_step_38 ?_
        refine lv_aload_n hx hb dX11_step_39 rfl (lv_at hl 0 rfl) ?_
        refine k_mga C G 48 (by decide) mr_48 fl_X11_111 rfl dX11_step_40 ?_
        refine lv_iload_n hx hb dX11_step_43 rfl (lv_at hl 1 rfl) ?_
        refine k_mil (v := nI na) (i := wn) C G 30 (k := 48) (n := 4) mp_48 (by decide) (by omega) h48 dX11_step_44 ?_
        refine lv_icmp_ge (tgt := 54) hx hb dX11_step_45 (by decide) (fun c_45 => ?_) (fun c_45 => ?_)
        · exact absurd (nb_le (a := na) (b := np) c_45 (by omega) (by omega)) (by omega)
        · have n_45 := nb_nle (a := na) (b := np) c_45 (by omega) (by omega)
          refine lv_aload_n hx hb dX11_step_48 rfl (lv_at hl 0 rfl) ?_
          refine lv_iload_n hx hb dX11_step_49 rfl (lv_at hl 1 rfl) ?_
          refine kcM_i G (krV 1 rfl (As := [.int (nI wn)]) (rest := []) (ci := 12) (CC := RX11) (T := TX11) (N := 61) C G pmN (K _) (gdV ml_X11_324 im_X11_write se_X11_write ii_X11 co_X11_write) (by decide +kernel) ⟨Nat.le_of_ble_eq_true rfl, Nat.le_of_ble_eq_true rfl⟩ rfl 0 rfl hl rfl (Nat.le_of_ble_eq_true rfl) ⟨Nat.le_of_ble_eq_true rfl, Nat.le_of_ble_eq_true rfl⟩ dX11_step_50) (fun r_50 u H locs hu G => ?_)
          exact kr_i C G hu (Nat.le_of_ble_eq_true rfl) (Nat.le_of_ble_eq_true rfl) dX11_step_53
      · exact absurd c_24 hsd
    · exact absurd c_13 haw
set_option maxRecDepth 100000 in
set_option maxHeartbeats 4000000 in
theorem c_step_look (Z : zT) (l : Launch) (h : Nat) (ad : Nat → Nat) (iv : ivT) (av : avT) (wn : Nat) (post : Int32 → va_W → Prop) (hwn : wn < 4) (aw : Int32) (h33 : av 33 wn = aw) (haw : ¬ aw = 0) (sd : Int32) (h34 : av 34 wn = sd) (hsd : ¬ sd = 0) (np na : Nat) (h53 : av 53 wn = nI np) (h48 : av 48 wn = nI na) (hnp : np ≤ 200) (hna : na ≤ 200) (hlt : ¬ np < na) (lo : Int32) (h40 : av 40 wn = lo) (hlo : ¬ lo = 0) (K : Ki Z l yX11_look cX11_look 3 (some .int) ({ frames := 3, cells := 0, slots := 0, locals := 100 }) [.ref h, .int (nI wn)] (mdW Z h ad iv av) post) : Ki Z l yX11_step cX11_step 2 (some .int) ({ frames := 8, cells := 0, slots := 0, locals := 280 }) [.ref h, .int (nI wn)] (mdW Z h ad iv av) post := by
  intro sz
  refine Met.ofK (cc := cX11_step) (maxL := 2) (ret := (some .int)) (by decide) (Nat.le_of_ble_eq_true rfl) ?_
  intro p e s m below meth c ls C G hl
  generalize va_A _ sz = A at G ⊢
  have hx := C.1
  have hb := C.2.1
  have hown := C.2.2.2.2.2.1
  have hts := C.2.2.2.2.2.2.1
  refine lv_iload_n hx hb dX11_step_0 rfl (lv_at hl 1 rfl) ?_
  refine kcM_i G (krS 1 rfl (As := [.int (nI wn)]) (rest := []) C G pmN (c_X11_isWriter Z l h ad iv av (nI wn) _) (gdS ml_X11_266 sm_X11_isWriter ii_X11 co_X11_isWriter) (by decide +kernel) ⟨Nat.le_of_ble_eq_true rfl, Nat.le_of_ble_eq_true rfl⟩ hl rfl (Nat.le_of_ble_eq_true rfl) ⟨Nat.le_of_ble_eq_true rfl, Nat.le_of_ble_eq_true rfl⟩ dX11_step_1) (fun r_1 u H locs hu G => ?_)
  obtain ⟨r_1_e, rfl⟩ := hu
  rw [isW_n hwn] at r_1_e
  subst r_1_e
  refine lv_if_eq (tgt := 16) hx hb dX11_step_4 (by decide) (fun c_4 => ?_) (fun c_4 => ?_)
  · exact absurd c_4 (by decide)
  · have n_4 := nb_ne (a := 1) (b := 0) c_4 (by omega) (by omega)
    refine lv_aload_n hx hb dX11_step_7 rfl (lv_at hl 0 rfl) ?_
    refine k_mga C G 33 (by decide) mr_33 fl_X11_65 rfl dX11_step_8 ?_
    refine lv_iload_n hx hb dX11_step_11 rfl (lv_at hl 1 rfl) ?_
    refine k_mzl (v := aw) (i := wn) C G 15 (k := 33) (n := 4) mp_33 (by decide) (by omega) h33 dX11_step_12 ?_
    refine lv_if_ne (tgt := 18) hx hb dX11_step_13 (by decide) (fun c_13 => ?_) (fun c_13 => ?_)
    · refine lv_aload_n hx hb dX11_step_18 rfl (lv_at hl 0 rfl) ?_
      refine k_mga C G 34 (by decide) mr_34 fl_X11_68 rfl dX11_step_19 ?_
      refine lv_iload_n hx hb dX11_step_22 rfl (lv_at hl 1 rfl) ?_
      refine k_mzl (v := sd) (i := wn) C G 16 (k := 34) (n := 4) mp_34 (by decide) (by omega) h34 dX11_step_23 ?_
      refine lv_if_ne (tgt := 33) hx hb dX11_step_24 (by decide) (fun c_24 => ?_) (fun c_24 => ?_)
      · refine lv_aload_n hx hb dX11_step_33 rfl (lv_at hl 0 rfl) ?_
        refine k_mga C G 53 (by decide) mr_53 fl_X11_126 rfl dX11_step_34 ?_
        refine lv_iload_n hx hb dX11_step_37 rfl (lv_at hl 1 rfl) ?_
        refine k_mil (v := nI np) (i := wn) C G 35 (k := 53) (n := 4) mp_53 (by decide) (by omega) h53 dX11_step_38 ?_
        refine lv_aload_n hx hb dX11_step_39 rfl (lv_at hl 0 rfl) ?_
        refine k_mga C G 48 (by decide) mr_48 fl_X11_111 rfl dX11_step_40 ?_
        refine lv_iload_n hx hb dX11_step_43 rfl (lv_at hl 1 rfl) ?_
        refine k_mil (v := nI na) (i := wn) C G 30 (k := 48) (n := 4) mp_48 (by decide) (by omega) h48 dX11_step_44 ?_
        refine lv_icmp_ge (tgt := 54) hx hb dX11_step_45 (by decide) (fun c_45 => ?_) (fun c_45 => ?_)
        · have n_45 := nb_le (a := na) (b := np) c_45 (by omega) (by omega)
          refine lv_aload_n hx hb dX11_step_54 rfl (lv_at hl 0 rfl) ?_
          refine k_mga C G 40 (by decide) mr_40 fl_X11_86 rfl dX11_step_55 ?_
          refine lv_iload_n hx hb dX11_step_58 rfl (lv_at hl 1 rfl) ?_
          refine k_mzl (v := lo) (i := wn) C G 22 (k := 40) (n := 4) mp_40 (by decide) (by omega) h40 dX11_step_59 ?_
          refine lv_if_eq (tgt := 71) hx hb dX11_step_60 (by decide) (fun c_60 => ?_) (fun c_60 => ?_)
          · exact absurd c_60 hlo
          · refine lv_aload_n hx hb dX11_step_63 rfl (lv_at hl 0 rfl) ?_
            refine lv_iload_n hx hb dX11_step_64 rfl (lv_at hl 1 rfl) ?_
            refine kcM_i G (krV 1 rfl (As := [.int (nI wn)]) (rest := []) (ci := 12) (CC := RX11) (T := TX11) (N := 61) C G pmN (K _) (gdV ml_X11_327 im_X11_look se_X11_look ii_X11 co_X11_look) (by decide +kernel) ⟨Nat.le_of_ble_eq_true rfl, Nat.le_of_ble_eq_true rfl⟩ rfl 0 rfl hl rfl (Nat.le_of_ble_eq_true rfl) ⟨Nat.le_of_ble_eq_true rfl, Nat.le_of_ble_eq_true rfl⟩ dX11_step_65) (fun r_65 u H locs hu G => ?_)
            refine lv_goto (tgt := 76) hx hb dX11_step_68 (by decide) ?_
            exact kr_i C G hu (Nat.le_of_ble_eq_true rfl) (Nat.le_of_ble_eq_true rfl) dX11_step_76
        · exact absurd (nb_nle (a := na) (b := np) c_45 (by omega) (by omega)) (by omega)
      · exact absurd c_24 hsd
    · exact absurd c_13 haw
set_option maxRecDepth 100000 in
set_option maxHeartbeats 4000000 in
theorem c_step_commit (Z : zT) (l : Launch) (h : Nat) (ad : Nat → Nat) (iv : ivT) (av : avT) (wn : Nat) (post : Int32 → va_W → Prop) (hwn : wn < 4) (aw : Int32) (h33 : av 33 wn = aw) (haw : ¬ aw = 0) (sd : Int32) (h34 : av 34 wn = sd) (hsd : ¬ sd = 0) (np na : Nat) (h53 : av 53 wn = nI np) (h48 : av 48 wn = nI na) (hnp : np ≤ 200) (hna : na ≤ 200) (hlt : ¬ np < na) (lo : Int32) (h40 : av 40 wn = lo) (hlo : lo = 0) (K : Ki Z l yX11_commit cX11_commit 4 (some .int) ({ frames := 3, cells := 0, slots := 0, locals := 90 }) [.ref h, .int (nI wn)] (mdW Z h ad iv av) post) : Ki Z l yX11_step cX11_step 2 (some .int) ({ frames := 8, cells := 0, slots := 0, locals := 280 }) [.ref h, .int (nI wn)] (mdW Z h ad iv av) post := by
  intro sz
  refine Met.ofK (cc := cX11_step) (maxL := 2) (ret := (some .int)) (by decide) (Nat.le_of_ble_eq_true rfl) ?_
  intro p e s m below meth c ls C G hl
  generalize va_A _ sz = A at G ⊢
  have hx := C.1
  have hb := C.2.1
  have hown := C.2.2.2.2.2.1
  have hts := C.2.2.2.2.2.2.1
  refine lv_iload_n hx hb dX11_step_0 rfl (lv_at hl 1 rfl) ?_
  refine kcM_i G (krS 1 rfl (As := [.int (nI wn)]) (rest := []) C G pmN (c_X11_isWriter Z l h ad iv av (nI wn) _) (gdS ml_X11_266 sm_X11_isWriter ii_X11 co_X11_isWriter) (by decide +kernel) ⟨Nat.le_of_ble_eq_true rfl, Nat.le_of_ble_eq_true rfl⟩ hl rfl (Nat.le_of_ble_eq_true rfl) ⟨Nat.le_of_ble_eq_true rfl, Nat.le_of_ble_eq_true rfl⟩ dX11_step_1) (fun r_1 u H locs hu G => ?_)
  obtain ⟨r_1_e, rfl⟩ := hu
  rw [isW_n hwn] at r_1_e
  subst r_1_e
  refine lv_if_eq (tgt := 16) hx hb dX11_step_4 (by decide) (fun c_4 => ?_) (fun c_4 => ?_)
  · exact absurd c_4 (by decide)
  · have n_4 := nb_ne (a := 1) (b := 0) c_4 (by omega) (by omega)
    refine lv_aload_n hx hb dX11_step_7 rfl (lv_at hl 0 rfl) ?_
    refine k_mga C G 33 (by decide) mr_33 fl_X11_65 rfl dX11_step_8 ?_
    refine lv_iload_n hx hb dX11_step_11 rfl (lv_at hl 1 rfl) ?_
    refine k_mzl (v := aw) (i := wn) C G 15 (k := 33) (n := 4) mp_33 (by decide) (by omega) h33 dX11_step_12 ?_
    refine lv_if_ne (tgt := 18) hx hb dX11_step_13 (by decide) (fun c_13 => ?_) (fun c_13 => ?_)
    · refine lv_aload_n hx hb dX11_step_18 rfl (lv_at hl 0 rfl) ?_
      refine k_mga C G 34 (by decide) mr_34 fl_X11_68 rfl dX11_step_19 ?_
      refine lv_iload_n hx hb dX11_step_22 rfl (lv_at hl 1 rfl) ?_
      refine k_mzl (v := sd) (i := wn) C G 16 (k := 34) (n := 4) mp_34 (by decide) (by omega) h34 dX11_step_23 ?_
      refine lv_if_ne (tgt := 33) hx hb dX11_step_24 (by decide) (fun c_24 => ?_) (fun c_24 => ?_)
      · refine lv_aload_n hx hb dX11_step_33 rfl (lv_at hl 0 rfl) ?_
        refine k_mga C G 53 (by decide) mr_53 fl_X11_126 rfl dX11_step_34 ?_
        refine lv_iload_n hx hb dX11_step_37 rfl (lv_at hl 1 rfl) ?_
        refine k_mil (v := nI np) (i := wn) C G 35 (k := 53) (n := 4) mp_53 (by decide) (by omega) h53 dX11_step_38 ?_
        refine lv_aload_n hx hb dX11_step_39 rfl (lv_at hl 0 rfl) ?_
        refine k_mga C G 48 (by decide) mr_48 fl_X11_111 rfl dX11_step_40 ?_
        refine lv_iload_n hx hb dX11_step_43 rfl (lv_at hl 1 rfl) ?_
        refine k_mil (v := nI na) (i := wn) C G 30 (k := 48) (n := 4) mp_48 (by decide) (by omega) h48 dX11_step_44 ?_
        refine lv_icmp_ge (tgt := 54) hx hb dX11_step_45 (by decide) (fun c_45 => ?_) (fun c_45 => ?_)
        · have n_45 := nb_le (a := na) (b := np) c_45 (by omega) (by omega)
          refine lv_aload_n hx hb dX11_step_54 rfl (lv_at hl 0 rfl) ?_
          refine k_mga C G 40 (by decide) mr_40 fl_X11_86 rfl dX11_step_55 ?_
          refine lv_iload_n hx hb dX11_step_58 rfl (lv_at hl 1 rfl) ?_
          refine k_mzl (v := lo) (i := wn) C G 22 (k := 40) (n := 4) mp_40 (by decide) (by omega) h40 dX11_step_59 ?_
          refine lv_if_eq (tgt := 71) hx hb dX11_step_60 (by decide) (fun c_60 => ?_) (fun c_60 => ?_)
          · refine lv_aload_n hx hb dX11_step_71 rfl (lv_at hl 0 rfl) ?_
            refine lv_iload_n hx hb dX11_step_72 rfl (lv_at hl 1 rfl) ?_
            refine kcM_i G (krV 1 rfl (As := [.int (nI wn)]) (rest := []) (ci := 12) (CC := RX11) (T := TX11) (N := 61) C G pmN (K _) (gdV ml_X11_330 im_X11_commit se_X11_commit ii_X11 co_X11_commit) (by decide +kernel) ⟨Nat.le_of_ble_eq_true rfl, Nat.le_of_ble_eq_true rfl⟩ rfl 0 rfl hl rfl (Nat.le_of_ble_eq_true rfl) ⟨Nat.le_of_ble_eq_true rfl, Nat.le_of_ble_eq_true rfl⟩ dX11_step_73) (fun r_73 u H locs hu G => ?_)
            exact kr_i C G hu (Nat.le_of_ble_eq_true rfl) (Nat.le_of_ble_eq_true rfl) dX11_step_76
          · exact absurd hlo c_60
        · exact absurd (nb_nle (a := na) (b := np) c_45 (by omega) (by omega)) (by omega)
      · exact absurd c_24 hsd
    · exact absurd c_13 haw
set_option maxRecDepth 100000 in
set_option maxHeartbeats 4000000 in
theorem c_step_idle (Z : zT) (l : Launch) (h : Nat) (ad : Nat → Nat) (iv : ivT) (av : avT) (wn : Nat) (hwn : wn < 4) (h33 : av 33 wn = 0) : Ki Z l yX11_step cX11_step 2 (some .int) ({ frames := 8, cells := 0, slots := 0, locals := 280 }) [.ref h, .int (nI wn)] (mdW Z h ad iv av) (fun r u => r = 0 ∧ u = mdW Z h ad iv av) := by
  intro sz
  refine Met.ofK (cc := cX11_step) (maxL := 2) (ret := (some .int)) (by decide) (Nat.le_of_ble_eq_true rfl) ?_
  intro p e s m below meth c ls C G hl
  generalize va_A _ sz = A at G ⊢
  have hx := C.1
  have hb := C.2.1
  have hown := C.2.2.2.2.2.1
  have hts := C.2.2.2.2.2.2.1
  refine lv_iload_n hx hb dX11_step_0 rfl (lv_at hl 1 rfl) ?_
  refine kcM_i G (krS 1 rfl (As := [.int (nI wn)]) (rest := []) C G pmN (c_X11_isWriter Z l h ad iv av (nI wn) _) (gdS ml_X11_266 sm_X11_isWriter ii_X11 co_X11_isWriter) (by decide +kernel) ⟨Nat.le_of_ble_eq_true rfl, Nat.le_of_ble_eq_true rfl⟩ hl rfl (Nat.le_of_ble_eq_true rfl) ⟨Nat.le_of_ble_eq_true rfl, Nat.le_of_ble_eq_true rfl⟩ dX11_step_1) (fun r_1 u H locs hu G => ?_)
  obtain ⟨r_1_e, rfl⟩ := hu
  rw [isW_n hwn] at r_1_e
  subst r_1_e
  refine lv_if_eq (tgt := 16) hx hb dX11_step_4 (by decide) (fun c_4 => ?_) (fun c_4 => ?_)
  · exact absurd c_4 (by decide)
  · have n_4 := nb_ne (a := 1) (b := 0) c_4 (by omega) (by omega)
    refine lv_aload_n hx hb dX11_step_7 rfl (lv_at hl 0 rfl) ?_
    refine k_mga C G 33 (by decide) mr_33 fl_X11_65 rfl dX11_step_8 ?_
    refine lv_iload_n hx hb dX11_step_11 rfl (lv_at hl 1 rfl) ?_
    refine k_mzl (v := 0) (i := wn) C G 15 (k := 33) (n := 4) mp_33 (by decide) (by omega) h33 dX11_step_12 ?_
    refine lv_if_ne (tgt := 18) hx hb dX11_step_13 (by decide) (fun c_13 => ?_) (fun c_13 => ?_)
    · exact absurd c_13 (by decide)
    · have n_13 := nb_eq (a := 0) (b := 0) c_13 (by omega) (by omega)
      refine lv_iconst (v := 0) hx hb dX11_step_16 (by decide) ?_
      exact kr_i C G ⟨rfl, rfl⟩ (Nat.le_of_ble_eq_true rfl) (Nat.le_of_ble_eq_true rfl) dX11_step_17
set_option maxRecDepth 100000 in
set_option maxHeartbeats 4000000 in
theorem c_step_out (Z : zT) (l : Launch) (h : Nat) (ad : Nat → Nat) (iv : ivT) (av : avT) (x : Int32) (hx4 : ¬ (0 ≤ x ∧ x < 4)) : Ki Z l yX11_step cX11_step 2 (some .int) ({ frames := 8, cells := 0, slots := 0, locals := 280 }) [.ref h, .int x] (mdW Z h ad iv av) (fun r u => r = 0 ∧ u = mdW Z h ad iv av) := by
  intro sz
  refine Met.ofK (cc := cX11_step) (maxL := 2) (ret := (some .int)) (by decide) (Nat.le_of_ble_eq_true rfl) ?_
  intro p e s m below meth c ls C G hl
  generalize va_A _ sz = A at G ⊢
  have hx := C.1
  have hb := C.2.1
  have hown := C.2.2.2.2.2.1
  have hts := C.2.2.2.2.2.2.1
  refine lv_iload_n hx hb dX11_step_0 rfl (lv_at hl 1 rfl) ?_
  refine kcM_i G (krS 1 rfl (As := [.int x]) (rest := []) C G pmN (c_X11_isWriter Z l h ad iv av x _) (gdS ml_X11_266 sm_X11_isWriter ii_X11 co_X11_isWriter) (by decide +kernel) ⟨Nat.le_of_ble_eq_true rfl, Nat.le_of_ble_eq_true rfl⟩ hl rfl (Nat.le_of_ble_eq_true rfl) ⟨Nat.le_of_ble_eq_true rfl, Nat.le_of_ble_eq_true rfl⟩ dX11_step_1) (fun r_1 u H locs hu G => ?_)
  obtain ⟨r_1_e, rfl⟩ := hu
  rw [isW_0 hx4] at r_1_e
  subst r_1_e
  refine lv_if_eq (tgt := 16) hx hb dX11_step_4 (by decide) (fun c_4 => ?_) (fun c_4 => ?_)
  · have n_4 := nb_eq (a := 0) (b := 0) c_4 (by omega) (by omega)
    refine lv_iconst (v := 0) hx hb dX11_step_16 (by decide) ?_
    exact kr_i C G ⟨rfl, rfl⟩ (Nat.le_of_ble_eq_true rfl) (Nat.le_of_ble_eq_true rfl) dX11_step_17
  · exact absurd c_4 (by decide)
