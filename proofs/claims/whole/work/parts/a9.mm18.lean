/-! MODEL (X11): the small methods. -/
def isW (x : Int32) : Int32 := if 0 ≤ x ∧ x < 4 then 1 else 0
theorem isW_n {w : Nat} (h : w < 4) : isW (nI w) = 1 := by unfold isW; rw [if_pos ⟨nI_pos' (by omega), nI_lt (b := 4) h (by omega)⟩]
theorem isW_0 {x : Int32} (h : ¬ (0 ≤ x ∧ x < 4)) : isW x = 0 := by unfold isW; rw [if_neg h]
set_option maxRecDepth 100000 in
set_option maxHeartbeats 4000000 in
theorem c_X11_room (Z : zT) (l : Launch) (h : Nat) (ad : Nat → Nat) (iv : ivT) (av : avT) (x q : Int32) (hq : iv 6 = q) : Ki Z l yX11_room cX11_room 3 (some .int) ({ frames := 0, cells := 0, slots := 0, locals := 0 }) [.ref h, .int x] (mdW Z h ad iv av) (fun r u => ((100 ≤ x ∧ x ≤ 20000) ∧ r = q ∧ u = mdW Z h ad (upd iv 6 x) av) ∨ (¬ (100 ≤ x ∧ x ≤ 20000) ∧ r = -1 ∧ u = mdW Z h ad iv av)) := by
  intro sz
  refine Met.ofK (cc := cX11_room) (maxL := 3) (ret := (some .int)) (by decide) (Nat.le_of_ble_eq_true rfl) ?_
  intro p e s m below meth c ls C G hl
  generalize va_A _ sz = A at G ⊢
  have hx := C.1
  have hb := C.2.1
  have hown := C.2.2.2.2.2.1
  have hts := C.2.2.2.2.2.2.1
  refine lv_iload_n hx hb dX11_room_0 rfl (lv_at hl 1 rfl) ?_
  refine lv_bipush (v := 100) hx hb dX11_room_1 (by decide) ?_
  refine lv_icmp_lt (tgt := 13) hx hb dX11_room_3 (by decide) (fun c_3 => ?_) (fun c_3 => ?_)
  · refine lv_iconst (v := (-1)) hx hb dX11_room_13 (by decide) ?_
    exact kr_i C G (Or.inr ⟨fun z => absurd c_3 (Int32.not_lt.mpr z.1), rfl, rfl⟩) (Nat.le_of_ble_eq_true rfl) (Nat.le_of_ble_eq_true rfl) dX11_room_14
  · refine lv_iload_n hx hb dX11_room_6 rfl (lv_at hl 1 rfl) ?_
    refine lv_sipush (v := 20000) hx hb dX11_room_7 (by decide) ?_
    refine lv_icmp_le (tgt := 15) hx hb dX11_room_10 (by decide) (fun c_10 => ?_) (fun c_10 => ?_)
    · refine lv_aload_n hx hb dX11_room_15 rfl (lv_at hl 0 rfl) ?_
      refine k_mgi (v := q) C G 6 (by decide) mr_6 hq fl_X11_24 rfl dX11_room_16 ?_
      refine lv_istore_n (lv' := [(2, .int q), (0, .ref h), (1, .int x)]) hx hb dX11_room_19 rfl hl (by decide) rfl (fun ls hl => ?_)
      refine lv_aload_n hx hb dX11_room_20 rfl (lv_at hl 1 rfl) ?_
      refine lv_iload_n hx hb dX11_room_21 rfl (lv_at hl 2 rfl) ?_
      refine k_mpi (v := x) (ty := .int) C G 6 (by decide) mr_6 fl_X11_24 rfl rfl rfl rfl rfl dX11_room_22 (fun H locs (G : wd Z A s (mdW Z h ad (upd iv 6 x) av) H locs) => ?_)
      refine lv_iload_n hx hb dX11_room_25 rfl (lv_at hl 0 rfl) ?_
      exact kr_i C G (Or.inl ⟨⟨Int32.not_lt.mp c_3, c_10⟩, rfl, rfl⟩) (Nat.le_of_ble_eq_true rfl) (Nat.le_of_ble_eq_true rfl) dX11_room_26
    · refine lv_iconst (v := (-1)) hx hb dX11_room_13 (by decide) ?_
      exact kr_i C G (Or.inr ⟨fun z => c_10 z.2, rfl, rfl⟩) (Nat.le_of_ble_eq_true rfl) (Nat.le_of_ble_eq_true rfl) dX11_room_14
set_option maxRecDepth 100000 in
set_option maxHeartbeats 4000000 in
theorem c_X11_tries (Z : zT) (l : Launch) (h : Nat) (ad : Nat → Nat) (iv : ivT) (av : avT) (x q : Int32) (hq : iv 7 = q) : Ki Z l yX11_tries cX11_tries 3 (some .int) ({ frames := 0, cells := 0, slots := 0, locals := 0 }) [.ref h, .int x] (mdW Z h ad iv av) (fun r u => ((1 ≤ x ∧ x ≤ 8) ∧ r = q ∧ u = mdW Z h ad (upd iv 7 x) av) ∨ (¬ (1 ≤ x ∧ x ≤ 8) ∧ r = -1 ∧ u = mdW Z h ad iv av)) := by
  intro sz
  refine Met.ofK (cc := cX11_tries) (maxL := 3) (ret := (some .int)) (by decide) (Nat.le_of_ble_eq_true rfl) ?_
  intro p e s m below meth c ls C G hl
  generalize va_A _ sz = A at G ⊢
  have hx := C.1
  have hb := C.2.1
  have hown := C.2.2.2.2.2.1
  have hts := C.2.2.2.2.2.2.1
  refine lv_iload_n hx hb dX11_tries_0 rfl (lv_at hl 1 rfl) ?_
  refine lv_iconst (v := 1) hx hb dX11_tries_1 (by decide) ?_
  refine lv_icmp_lt (tgt := 11) hx hb dX11_tries_2 (by decide) (fun c_2 => ?_) (fun c_2 => ?_)
  · refine lv_iconst (v := (-1)) hx hb dX11_tries_11 (by decide) ?_
    exact kr_i C G (Or.inr ⟨fun z => absurd c_2 (Int32.not_lt.mpr z.1), rfl, rfl⟩) (Nat.le_of_ble_eq_true rfl) (Nat.le_of_ble_eq_true rfl) dX11_tries_12
  · refine lv_iload_n hx hb dX11_tries_5 rfl (lv_at hl 1 rfl) ?_
    refine lv_bipush (v := 8) hx hb dX11_tries_6 (by decide) ?_
    refine lv_icmp_le (tgt := 13) hx hb dX11_tries_8 (by decide) (fun c_8 => ?_) (fun c_8 => ?_)
    · refine lv_aload_n hx hb dX11_tries_13 rfl (lv_at hl 0 rfl) ?_
      refine k_mgi (v := q) C G 7 (by decide) mr_7 hq fl_X11_28 rfl dX11_tries_14 ?_
      refine lv_istore_n (lv' := [(2, .int q), (0, .ref h), (1, .int x)]) hx hb dX11_tries_17 rfl hl (by decide) rfl (fun ls hl => ?_)
      refine lv_aload_n hx hb dX11_tries_18 rfl (lv_at hl 1 rfl) ?_
      refine lv_iload_n hx hb dX11_tries_19 rfl (lv_at hl 2 rfl) ?_
      refine k_mpi (v := x) (ty := .int) C G 7 (by decide) mr_7 fl_X11_28 rfl rfl rfl rfl rfl dX11_tries_20 (fun H locs (G : wd Z A s (mdW Z h ad (upd iv 7 x) av) H locs) => ?_)
      refine lv_iload_n hx hb dX11_tries_23 rfl (lv_at hl 0 rfl) ?_
      exact kr_i C G (Or.inl ⟨⟨Int32.not_lt.mp c_2, c_8⟩, rfl, rfl⟩) (Nat.le_of_ble_eq_true rfl) (Nat.le_of_ble_eq_true rfl) dX11_tries_24
    · refine lv_iconst (v := (-1)) hx hb dX11_tries_11 (by decide) ?_
      exact kr_i C G (Or.inr ⟨fun z => c_8 z.2, rfl, rfl⟩) (Nat.le_of_ble_eq_true rfl) (Nat.le_of_ble_eq_true rfl) dX11_tries_12
set_option maxRecDepth 100000 in
set_option maxHeartbeats 4000000 in
theorem c_X11_isWriter (Z : zT) (l : Launch) (h : Nat) (ad : Nat → Nat) (iv : ivT) (av : avT) (x : Int32) : Ki Z l yX11_isWriter cX11_isWriter 1 (some .boolean) ({ frames := 0, cells := 0, slots := 0, locals := 0 }) [.int x] (mdW Z h ad iv av) (fun r u => r = isW x ∧ u = mdW Z h ad iv av) := by
  intro sz
  refine Met.ofK (cc := cX11_isWriter) (maxL := 1) (ret := (some .boolean)) (by decide) (Nat.le_of_ble_eq_true rfl) ?_
  intro p e s m below meth c ls C G hl
  generalize va_A _ sz = A at G ⊢
  have hx := C.1
  have hb := C.2.1
  have hown := C.2.2.2.2.2.1
  have hts := C.2.2.2.2.2.2.1
  refine lv_iload_n hx hb dX11_isWriter_0 rfl (lv_at hl 0 rfl) ?_
  refine lv_if_lt (tgt := 13) hx hb dX11_isWriter_1 (by decide) (fun c_1 => ?_) (fun c_1 => ?_)
  · refine lv_iconst (v := 0) hx hb dX11_isWriter_13 (by decide) ?_
    exact kr_z C G (by decide) ⟨by unfold isW; rw [if_neg (fun z => absurd c_1 (Int32.not_lt.mpr z.1))], rfl⟩ (Nat.le_of_ble_eq_true rfl) (Nat.le_of_ble_eq_true rfl) dX11_isWriter_14
  · refine lv_iload_n hx hb dX11_isWriter_4 rfl (lv_at hl 0 rfl) ?_
    refine lv_iconst (v := 4) hx hb dX11_isWriter_5 (by decide) ?_
    refine lv_icmp_ge (tgt := 13) hx hb dX11_isWriter_6 (by decide) (fun c_6 => ?_) (fun c_6 => ?_)
    · refine lv_iconst (v := 0) hx hb dX11_isWriter_13 (by decide) ?_
      exact kr_z C G (by decide) ⟨by unfold isW; rw [if_neg (fun z => absurd z.2 (Int32.not_lt.mpr c_6))], rfl⟩ (Nat.le_of_ble_eq_true rfl) (Nat.le_of_ble_eq_true rfl) dX11_isWriter_14
    · refine lv_iconst (v := 1) hx hb dX11_isWriter_9 (by decide) ?_
      refine lv_goto (tgt := 14) hx hb dX11_isWriter_10 (by decide) ?_
      exact kr_z C G (by decide) ⟨by unfold isW; rw [if_pos ⟨Int32.not_lt.mp c_1, Int32.not_le.mp c_6⟩], rfl⟩ (Nat.le_of_ble_eq_true rfl) (Nat.le_of_ble_eq_true rfl) dX11_isWriter_14
def bgA (av : avT) (wn : Nat) (ki y tr : Int32) : avT := (ua (ua (ua (ua (ua (ua (ua (ua (ua (ua (ua (ua (ua av 33 (upd (av 33) wn 1)) 34 (upd (av 34) wn 0)) 35 (upd (av 35) wn ki)) 36 (upd (av 36) wn (-1))) 37 (upd (av 37) wn 0)) 38 (upd (av 38) wn tr)) 40 (upd (av 40) wn 0)) 41 (upd (av 41) wn y)) 47 (upd (av 47) wn 0)) 48 (upd (av 48) wn 0)) 53 (upd (av 53) wn 0)) 54 (upd (av 54) wn 0)) 56 (upd (av 56) wn 0))
set_option maxRecDepth 100000 in
set_option maxHeartbeats 4000000 in
theorem c_begIn (Z : zT) (l : Launch) (h : Nat) (ad : Nat → Nat) (iv : ivT) (av : avT) (wn : Nat) (ki y tr aw : Int32) (hwn : wn < 4) (h33 : av 33 wn = aw) (h7 : iv 7 = tr) : Ki Z l yX11_begins cX11_begins 4 (some .boolean) ({ frames := 1, cells := 0, slots := 0, locals := 30 }) [.ref h, .int (nI wn), .int ki, .int y] (mdW Z h ad iv av) (fun r u => ((aw = 0 ∧ 0 ≤ y ∧ y ≤ 7) ∧ r = 1 ∧ u = mdW Z h ad iv (bgA av wn ki y tr)) ∨ (¬ (aw = 0 ∧ 0 ≤ y ∧ y ≤ 7) ∧ r = 0 ∧ u = mdW Z h ad iv av)) := by
  intro sz
  refine Met.ofK (cc := cX11_begins) (maxL := 4) (ret := (some .boolean)) (by decide) (Nat.le_of_ble_eq_true rfl) ?_
  intro p e s m below meth c ls C G hl
  generalize va_A _ sz = A at G ⊢
  have hx := C.1
  have hb := C.2.1
  have hown := C.2.2.2.2.2.1
  have hts := C.2.2.2.2.2.2.1
  refine lv_iload_n hx hb dX11_begins_0 rfl (lv_at hl 1 rfl) ?_
  refine kcM_i G (krS 1 rfl (As := [.int (nI wn)]) (rest := []) C G pmN (c_X11_isWriter Z l h ad iv av (nI wn) _) (gdS ml_X11_266 sm_X11_isWriter ii_X11 co_X11_isWriter) (by decide +kernel) ⟨Nat.le_of_ble_eq_true rfl, Nat.le_of_ble_eq_true rfl⟩ hl rfl (Nat.le_of_ble_eq_true rfl) ⟨Nat.le_of_ble_eq_true rfl, Nat.le_of_ble_eq_true rfl⟩ dX11_begins_1) (fun r_1 u H locs hu G => ?_)
  obtain ⟨r_1_e, rfl⟩ := hu
  rw [isW_n hwn] at r_1_e
  subst r_1_e
  refine lv_if_eq (tgt := 26) hx hb dX11_begins_4 (by decide) (fun c_4 => ?_) (fun c_4 => ?_)
  · exact absurd c_4 (by decide)
  · have n_4 := nb_ne (a := 1) (b := 0) c_4 (by omega) (by omega)
    refine lv_aload_n hx hb dX11_begins_7 rfl (lv_at hl 0 rfl) ?_
    refine k_mga C G 33 (by decide) mr_33 fl_X11_65 rfl dX11_begins_8 ?_
    refine lv_iload_n hx hb dX11_begins_11 rfl (lv_at hl 1 rfl) ?_
    refine k_mzl (v := aw) (i := wn) C G 15 (k := 33) (n := 4) mp_33 (by decide) (by omega) h33 dX11_begins_12 ?_
    refine lv_if_ne (tgt := 26) hx hb dX11_begins_13 (by decide) (fun c_13 => ?_) (fun c_13 => ?_)
    · refine lv_iconst (v := 0) hx hb dX11_begins_26 (by decide) ?_
      exact kr_z C G (by decide) (Or.inr ⟨fun z => c_13 z.1, rfl, rfl⟩) (Nat.le_of_ble_eq_true rfl) (Nat.le_of_ble_eq_true rfl) dX11_begins_27
    · refine lv_iload_n hx hb dX11_begins_16 rfl (lv_at hl 3 rfl) ?_
      refine lv_if_lt (tgt := 26) hx hb dX11_begins_17 (by decide) (fun c_17 => ?_) (fun c_17 => ?_)
      · refine lv_iconst (v := 0) hx hb dX11_begins_26 (by decide) ?_
        exact kr_z C G (by decide) (Or.inr ⟨fun z => absurd c_17 (Int32.not_lt.mpr z.2.1), rfl, rfl⟩) (Nat.le_of_ble_eq_true rfl) (Nat.le_of_ble_eq_true rfl) dX11_begins_27
      · refine lv_iload_n hx hb dX11_begins_20 rfl (lv_at hl 3 rfl) ?_
        refine lv_bipush (v := 7) hx hb dX11_begins_21 (by decide) ?_
        refine lv_icmp_le (tgt := 28) hx hb dX11_begins_23 (by decide) (fun c_23 => ?_) (fun c_23 => ?_)
        · refine lv_aload_n hx hb dX11_begins_28 rfl (lv_at hl 0 rfl) ?_
          refine k_mga C G 33 (by decide) mr_33 fl_X11_65 rfl dX11_begins_29 ?_
          refine lv_iload_n hx hb dX11_begins_32 rfl (lv_at hl 1 rfl) ?_
          refine lv_iconst (v := 1) hx hb dX11_begins_33 (by decide) ?_
          refine k_mzs (x := 1) (i := wn) C G 15 (k := 33) (n := 4) mp_33 (by decide) (by omega) (by decide) dX11_begins_34 (fun H locs (G : wd Z A s (mdW Z h ad iv (ua av 33 (upd (av 33) wn 1))) H locs) => ?_)
          refine lv_aload_n hx hb dX11_begins_35 rfl (lv_at hl 0 rfl) ?_
          refine k_mga C G 34 (by decide) mr_34 fl_X11_68 rfl dX11_begins_36 ?_
          refine lv_iload_n hx hb dX11_begins_39 rfl (lv_at hl 1 rfl) ?_
          refine lv_iconst (v := 0) hx hb dX11_begins_40 (by decide) ?_
          refine k_mzs (x := 0) (i := wn) C G 16 (k := 34) (n := 4) mp_34 (by decide) (by omega) (by decide) dX11_begins_41 (fun H locs (G : wd Z A s (mdW Z h ad iv (ua (ua av 33 (upd (av 33) wn 1)) 34 (upd (av 34) wn 0))) H locs) => ?_)
          refine lv_aload_n hx hb dX11_begins_42 rfl (lv_at hl 0 rfl) ?_
          refine k_mga C G 35 (by decide) mr_35 fl_X11_71 rfl dX11_begins_43 ?_
          refine lv_iload_n hx hb dX11_begins_46 rfl (lv_at hl 1 rfl) ?_
          refine lv_iload_n hx hb dX11_begins_47 rfl (lv_at hl 2 rfl) ?_
          refine k_mis (x := ki) (i := wn) C G 17 (k := 35) (n := 4) mp_35 (by decide) (by omega) dX11_begins_48 (fun H locs (G : wd Z A s (mdW Z h ad iv (ua (ua (ua av 33 (upd (av 33) wn 1)) 34 (upd (av 34) wn 0)) 35 (upd (av 35) wn ki))) H locs) => ?_)
          refine lv_aload_n hx hb dX11_begins_49 rfl (lv_at hl 0 rfl) ?_
          refine k_mga C G 36 (by decide) mr_36 fl_X11_74 rfl dX11_begins_50 ?_
          refine lv_iload_n hx hb dX11_begins_53 rfl (lv_at hl 1 rfl) ?_
          refine lv_iconst (v := (-1)) hx hb dX11_begins_54 (by decide) ?_
          refine k_mis (x := (-1)) (i := wn) C G 18 (k := 36) (n := 4) mp_36 (by decide) (by omega) dX11_begins_55 (fun H locs (G : wd Z A s (mdW Z h ad iv (ua (ua (ua (ua av 33 (upd (av 33) wn 1)) 34 (upd (av 34) wn 0)) 35 (upd (av 35) wn ki)) 36 (upd (av 36) wn (-1)))) H locs) => ?_)
          refine lv_aload_n hx hb dX11_begins_56 rfl (lv_at hl 0 rfl) ?_
          refine k_mga C G 37 (by decide) mr_37 fl_X11_77 rfl dX11_begins_57 ?_
          refine lv_iload_n hx hb dX11_begins_60 rfl (lv_at hl 1 rfl) ?_
          refine lv_iconst (v := 0) hx hb dX11_begins_61 (by decide) ?_
          refine k_mis (x := 0) (i := wn) C G 19 (k := 37) (n := 4) mp_37 (by decide) (by omega) dX11_begins_62 (fun H locs (G : wd Z A s (mdW Z h ad iv (ua (ua (ua (ua (ua av 33 (upd (av 33) wn 1)) 34 (upd (av 34) wn 0)) 35 (upd (av 35) wn ki)) 36 (upd (av 36) wn (-1))) 37 (upd (av 37) wn 0))) H locs) => ?_)
          refine lv_aload_n hx hb dX11_begins_63 rfl (lv_at hl 0 rfl) ?_
          refine k_mga C G 38 (by decide) mr_38 fl_X11_80 rfl dX11_begins_64 ?_
          refine lv_iload_n hx hb dX11_begins_67 rfl (lv_at hl 1 rfl) ?_
          refine lv_aload_n hx hb dX11_begins_68 rfl (lv_at hl 0 rfl) ?_
          refine k_mgi (v := tr) C G 7 (by decide) mr_7 h7 fl_X11_28 rfl dX11_begins_69 ?_
          refine k_mis (x := tr) (i := wn) C G 20 (k := 38) (n := 4) mp_38 (by decide) (by omega) dX11_begins_72 (fun H locs (G : wd Z A s (mdW Z h ad iv (ua (ua (ua (ua (ua (ua av 33 (upd (av 33) wn 1)) 34 (upd (av 34) wn 0)) 35 (upd (av 35) wn ki)) 36 (upd (av 36) wn (-1))) 37 (upd (av 37) wn 0)) 38 (upd (av 38) wn tr))) H locs) => ?_)
          refine lv_aload_n hx hb dX11_begins_73 rfl (lv_at hl 0 rfl) ?_
          refine k_mga C G 40 (by decide) mr_40 fl_X11_86 rfl dX11_begins_74 ?_
          refine lv_iload_n hx hb dX11_begins_77 rfl (lv_at hl 1 rfl) ?_
          refine lv_iconst (v := 0) hx hb dX11_begins_78 (by decide) ?_
          refine k_mzs (x := 0) (i := wn) C G 22 (k := 40) (n := 4) mp_40 (by decide) (by omega) (by decide) dX11_begins_79 (fun H locs (G : wd Z A s (mdW Z h ad iv (ua (ua (ua (ua (ua (ua (ua av 33 (upd (av 33) wn 1)) 34 (upd (av 34) wn 0)) 35 (upd (av 35) wn ki)) 36 (upd (av 36) wn (-1))) 37 (upd (av 37) wn 0)) 38 (upd (av 38) wn tr)) 40 (upd (av 40) wn 0))) H locs) => ?_)
          refine lv_aload_n hx hb dX11_begins_80 rfl (lv_at hl 0 rfl) ?_
          refine k_mga C G 41 (by decide) mr_41 fl_X11_89 rfl dX11_begins_81 ?_
          refine lv_iload_n hx hb dX11_begins_84 rfl (lv_at hl 1 rfl) ?_
          refine lv_iload_n hx hb dX11_begins_85 rfl (lv_at hl 3 rfl) ?_
          refine k_mis (x := y) (i := wn) C G 23 (k := 41) (n := 4) mp_41 (by decide) (by omega) dX11_begins_86 (fun H locs (G : wd Z A s (mdW Z h ad iv (ua (ua (ua (ua (ua (ua (ua (ua av 33 (upd (av 33) wn 1)) 34 (upd (av 34) wn 0)) 35 (upd (av 35) wn ki)) 36 (upd (av 36) wn (-1))) 37 (upd (av 37) wn 0)) 38 (upd (av 38) wn tr)) 40 (upd (av 40) wn 0)) 41 (upd (av 41) wn y))) H locs) => ?_)
          refine lv_aload_n hx hb dX11_begins_87 rfl (lv_at hl 0 rfl) ?_
          refine k_mga C G 47 (by decide) mr_47 fl_X11_108 rfl dX11_begins_88 ?_
          refine lv_iload_n hx hb dX11_begins_91 rfl (lv_at hl 1 rfl) ?_
          refine lv_iconst (v := 0) hx hb dX11_begins_92 (by decide) ?_
          refine k_mis (x := 0) (i := wn) C G 29 (k := 47) (n := 4) mp_47 (by decide) (by omega) dX11_begins_93 (fun H locs (G : wd Z A s (mdW Z h ad iv (ua (ua (ua (ua (ua (ua (ua (ua (ua av 33 (upd (av 33) wn 1)) 34 (upd (av 34) wn 0)) 35 (upd (av 35) wn ki)) 36 (upd (av 36) wn (-1))) 37 (upd (av 37) wn 0)) 38 (upd (av 38) wn tr)) 40 (upd (av 40) wn 0)) 41 (upd (av 41) wn y)) 47 (upd (av 47) wn 0))) H locs) => ?_)
          refine lv_aload_n hx hb dX11_begins_94 rfl (lv_at hl 0 rfl) ?_
          refine k_mga C G 48 (by decide) mr_48 fl_X11_111 rfl dX11_begins_95 ?_
          refine lv_iload_n hx hb dX11_begins_98 rfl (lv_at hl 1 rfl) ?_
          refine lv_iconst (v := 0) hx hb dX11_begins_99 (by decide) ?_
          refine k_mis (x := 0) (i := wn) C G 30 (k := 48) (n := 4) mp_48 (by decide) (by omega) dX11_begins_100 (fun H locs (G : wd Z A s (mdW Z h ad iv (ua (ua (ua (ua (ua (ua (ua (ua (ua (ua av 33 (upd (av 33) wn 1)) 34 (upd (av 34) wn 0)) 35 (upd (av 35) wn ki)) 36 (upd (av 36) wn (-1))) 37 (upd (av 37) wn 0)) 38 (upd (av 38) wn tr)) 40 (upd (av 40) wn 0)) 41 (upd (av 41) wn y)) 47 (upd (av 47) wn 0)) 48 (upd (av 48) wn 0))) H locs) => ?_)
          refine lv_aload_n hx hb dX11_begins_101 rfl (lv_at hl 0 rfl) ?_
          refine k_mga C G 53 (by decide) mr_53 fl_X11_126 rfl dX11_begins_102 ?_
          refine lv_iload_n hx hb dX11_begins_105 rfl (lv_at hl 1 rfl) ?_
          refine lv_iconst (v := 0) hx hb dX11_begins_106 (by decide) ?_
          refine k_mis (x := 0) (i := wn) C G 35 (k := 53) (n := 4) mp_53 (by decide) (by omega) dX11_begins_107 (fun H locs (G : wd Z A s (mdW Z h ad iv (ua (ua (ua (ua (ua (ua (ua (ua (ua (ua (ua av 33 (upd (av 33) wn 1)) 34 (upd (av 34) wn 0)) 35 (upd (av 35) wn ki)) 36 (upd (av 36) wn (-1))) 37 (upd (av 37) wn 0)) 38 (upd (av 38) wn tr)) 40 (upd (av 40) wn 0)) 41 (upd (av 41) wn y)) 47 (upd (av 47) wn 0)) 48 (upd (av 48) wn 0)) 53 (upd (av 53) wn 0))) H locs) => ?_)
          refine lv_aload_n hx hb dX11_begins_108 rfl (lv_at hl 0 rfl) ?_
          refine k_mga C G 54 (by decide) mr_54 fl_X11_129 rfl dX11_begins_109 ?_
          refine lv_iload_n hx hb dX11_begins_112 rfl (lv_at hl 1 rfl) ?_
          refine lv_iconst (v := 0) hx hb dX11_begins_113 (by decide) ?_
          refine k_mis (x := 0) (i := wn) C G 36 (k := 54) (n := 4) mp_54 (by decide) (by omega) dX11_begins_114 (fun H locs (G : wd Z A s (mdW Z h ad iv (ua (ua (ua (ua (ua (ua (ua (ua (ua (ua (ua (ua av 33 (upd (av 33) wn 1)) 34 (upd (av 34) wn 0)) 35 (upd (av 35) wn ki)) 36 (upd (av 36) wn (-1))) 37 (upd (av 37) wn 0)) 38 (upd (av 38) wn tr)) 40 (upd (av 40) wn 0)) 41 (upd (av 41) wn y)) 47 (upd (av 47) wn 0)) 48 (upd (av 48) wn 0)) 53 (upd (av 53) wn 0)) 54 (upd (av 54) wn 0))) H locs) => ?_)
          refine lv_aload_n hx hb dX11_begins_115 rfl (lv_at hl 0 rfl) ?_
          refine k_mga C G 56 (by decide) mr_56 fl_X11_135 rfl dX11_begins_116 ?_
          refine lv_iload_n hx hb dX11_begins_119 rfl (lv_at hl 1 rfl) ?_
          refine lv_iconst (v := 0) hx hb dX11_begins_120 (by decide) ?_
          refine k_mis (x := 0) (i := wn) C G 38 (k := 56) (n := 4) mp_56 (by decide) (by omega) dX11_begins_121 (fun H locs (G : wd Z A s (mdW Z h ad iv (ua (ua (ua (ua (ua (ua (ua (ua (ua (ua (ua (ua (ua av 33 (upd (av 33) wn 1)) 34 (upd (av 34) wn 0)) 35 (upd (av 35) wn ki)) 36 (upd (av 36) wn (-1))) 37 (upd (av 37) wn 0)) 38 (upd (av 38) wn tr)) 40 (upd (av 40) wn 0)) 41 (upd (av 41) wn y)) 47 (upd (av 47) wn 0)) 48 (upd (av 48) wn 0)) 53 (upd (av 53) wn 0)) 54 (upd (av 54) wn 0)) 56 (upd (av 56) wn 0))) H locs) => ?_)
          refine lv_iconst (v := 1) hx hb dX11_begins_122 (by decide) ?_
          exact kr_z C G (by decide) (Or.inl ⟨⟨c_13, Int32.not_lt.mp c_17, c_23⟩, rfl, rfl⟩) (Nat.le_of_ble_eq_true rfl) (Nat.le_of_ble_eq_true rfl) dX11_begins_123
        · refine lv_iconst (v := 0) hx hb dX11_begins_26 (by decide) ?_
          exact kr_z C G (by decide) (Or.inr ⟨fun z => c_23 z.2.2, rfl, rfl⟩) (Nat.le_of_ble_eq_true rfl) (Nat.le_of_ble_eq_true rfl) dX11_begins_27
set_option maxRecDepth 100000 in
set_option maxHeartbeats 4000000 in
theorem c_begOut (Z : zT) (l : Launch) (h : Nat) (ad : Nat → Nat) (iv : ivT) (av : avT) (x : Int32) (ki y : Int32) (hx4 : ¬ (0 ≤ x ∧ x < 4)) : Ki Z l yX11_begins cX11_begins 4 (some .boolean) ({ frames := 1, cells := 0, slots := 0, locals := 30 }) [.ref h, .int x, .int ki, .int y] (mdW Z h ad iv av) (fun r u => r = 0 ∧ u = mdW Z h ad iv av) := by
  intro sz
  refine Met.ofK (cc := cX11_begins) (maxL := 4) (ret := (some .boolean)) (by decide) (Nat.le_of_ble_eq_true rfl) ?_
  intro p e s m below meth c ls C G hl
  generalize va_A _ sz = A at G ⊢
  have hx := C.1
  have hb := C.2.1
  have hown := C.2.2.2.2.2.1
  have hts := C.2.2.2.2.2.2.1
  refine lv_iload_n hx hb dX11_begins_0 rfl (lv_at hl 1 rfl) ?_
  refine kcM_i G (krS 1 rfl (As := [.int x]) (rest := []) C G pmN (c_X11_isWriter Z l h ad iv av x _) (gdS ml_X11_266 sm_X11_isWriter ii_X11 co_X11_isWriter) (by decide +kernel) ⟨Nat.le_of_ble_eq_true rfl, Nat.le_of_ble_eq_true rfl⟩ hl rfl (Nat.le_of_ble_eq_true rfl) ⟨Nat.le_of_ble_eq_true rfl, Nat.le_of_ble_eq_true rfl⟩ dX11_begins_1) (fun r_1 u H locs hu G => ?_)
  obtain ⟨r_1_e, rfl⟩ := hu
  rw [isW_0 hx4] at r_1_e
  subst r_1_e
  refine lv_if_eq (tgt := 26) hx hb dX11_begins_4 (by decide) (fun c_4 => ?_) (fun c_4 => ?_)
  · have n_4 := nb_eq (a := 0) (b := 0) c_4 (by omega) (by omega)
    refine lv_iconst (v := 0) hx hb dX11_begins_26 (by decide) ?_
    exact kr_z C G (by decide) ⟨rfl, rfl⟩ (Nat.le_of_ble_eq_true rfl) (Nat.le_of_ble_eq_true rfl) dX11_begins_27
  · exact absurd c_4 (by decide)
set_option maxRecDepth 100000 in
set_option maxHeartbeats 4000000 in
theorem c_appendInM (Z : zT) (l : Launch) (h : Nat) (ad : Nat → Nat) (iv : ivT) (av : avT) (wn : Nat) (tr aw : Int32) (hwn : wn < 4) (h33 : av 33 wn = aw) (h7 : iv 7 = tr) : Ki Z l yX11_append cX11_append 2 (some .boolean) ({ frames := 2, cells := 0, slots := 0, locals := 60 }) [.ref h, .int (nI wn)] (mdW Z h ad iv av) (fun r u => ((aw = 0 ∧ 0 ≤ (0 : Int32) ∧ (0 : Int32) ≤ 7) ∧ r = 1 ∧ u = mdW Z h ad iv (bgA av wn 0 (0 : Int32) tr)) ∨ (¬ (aw = 0 ∧ 0 ≤ (0 : Int32) ∧ (0 : Int32) ≤ 7) ∧ r = 0 ∧ u = mdW Z h ad iv av)) := by
  intro sz
  refine Met.ofK (cc := cX11_append) (maxL := 2) (ret := (some .boolean)) (by decide) (Nat.le_of_ble_eq_true rfl) ?_
  intro p e s m below meth c ls C G hl
  generalize va_A _ sz = A at G ⊢
  have hx := C.1
  have hb := C.2.1
  have hown := C.2.2.2.2.2.1
  have hts := C.2.2.2.2.2.2.1
  refine lv_aload_n hx hb dX11_append_0 rfl (lv_at hl 0 rfl) ?_
  refine lv_iload_n hx hb dX11_append_1 rfl (lv_at hl 1 rfl) ?_
  refine lv_iconst (v := 0) hx hb dX11_append_2 (by decide) ?_
  refine lv_iconst (v := 0) hx hb dX11_append_3 (by decide) ?_
  refine kcM_i G (krV 3 rfl (As := [.int (nI wn), .int 0, .int 0]) (rest := []) (ci := 12) (CC := RX11) (T := TX11) (N := 61) C G pmN (c_begIn Z l h ad iv av wn 0 (0 : Int32) tr aw hwn h33 h7 _) (gdV ml_X11_269 im_X11_begins se_X11_begins ii_X11 co_X11_begins) (by decide +kernel) ⟨Nat.le_of_ble_eq_true rfl, Nat.le_of_ble_eq_true rfl⟩ rfl 0 rfl hl rfl (Nat.le_of_ble_eq_true rfl) ⟨Nat.le_of_ble_eq_true rfl, Nat.le_of_ble_eq_true rfl⟩ dX11_append_4) (fun r_4 u H locs hu G => ?_)
  have hz : narrow .boolean (.int r_4) = .int r_4 := by rcases hu with ⟨_, q, _⟩ | ⟨_, q, _⟩ <;> (subst q; decide)
  exact kr_z C G hz hu (Nat.le_of_ble_eq_true rfl) (Nat.le_of_ble_eq_true rfl) dX11_append_7
set_option maxRecDepth 100000 in
set_option maxHeartbeats 4000000 in
theorem c_appendOutM (Z : zT) (l : Launch) (h : Nat) (ad : Nat → Nat) (iv : ivT) (av : avT) (x : Int32) (hx4 : ¬ (0 ≤ x ∧ x < 4)) : Ki Z l yX11_append cX11_append 2 (some .boolean) ({ frames := 2, cells := 0, slots := 0, locals := 60 }) [.ref h, .int x] (mdW Z h ad iv av) (fun r u => r = 0 ∧ u = mdW Z h ad iv av) := by
  intro sz
  refine Met.ofK (cc := cX11_append) (maxL := 2) (ret := (some .boolean)) (by decide) (Nat.le_of_ble_eq_true rfl) ?_
  intro p e s m below meth c ls C G hl
  generalize va_A _ sz = A at G ⊢
  have hx := C.1
  have hb := C.2.1
  have hown := C.2.2.2.2.2.1
  have hts := C.2.2.2.2.2.2.1
  refine lv_aload_n hx hb dX11_append_0 rfl (lv_at hl 0 rfl) ?_
  refine lv_iload_n hx hb dX11_append_1 rfl (lv_at hl 1 rfl) ?_
  refine lv_iconst (v := 0) hx hb dX11_append_2 (by decide) ?_
  refine lv_iconst (v := 0) hx hb dX11_append_3 (by decide) ?_
  refine kcM_i G (krV 3 rfl (As := [.int x, .int 0, .int 0]) (rest := []) (ci := 12) (CC := RX11) (T := TX11) (N := 61) C G pmN (c_begOut Z l h ad iv av x 0 (0 : Int32) hx4 _) (gdV ml_X11_269 im_X11_begins se_X11_begins ii_X11 co_X11_begins) (by decide +kernel) ⟨Nat.le_of_ble_eq_true rfl, Nat.le_of_ble_eq_true rfl⟩ rfl 0 rfl hl rfl (Nat.le_of_ble_eq_true rfl) ⟨Nat.le_of_ble_eq_true rfl, Nat.le_of_ble_eq_true rfl⟩ dX11_append_4) (fun r_4 u H locs hu G => ?_)
  obtain ⟨r_4_e, rfl⟩ := hu
  subst r_4_e
  exact kr_z C G (by decide) ⟨rfl, rfl⟩ (Nat.le_of_ble_eq_true rfl) (Nat.le_of_ble_eq_true rfl) dX11_append_7
set_option maxRecDepth 100000 in
set_option maxHeartbeats 4000000 in
theorem c_compactInM (Z : zT) (l : Launch) (h : Nat) (ad : Nat → Nat) (iv : ivT) (av : avT) (wn : Nat) (y : Int32) (tr aw : Int32) (hwn : wn < 4) (h33 : av 33 wn = aw) (h7 : iv 7 = tr) : Ki Z l yX11_compact cX11_compact 3 (some .boolean) ({ frames := 2, cells := 0, slots := 0, locals := 60 }) [.ref h, .int (nI wn), .int y] (mdW Z h ad iv av) (fun r u => ((aw = 0 ∧ 0 ≤ y ∧ y ≤ 7) ∧ r = 1 ∧ u = mdW Z h ad iv (bgA av wn 2 y tr)) ∨ (¬ (aw = 0 ∧ 0 ≤ y ∧ y ≤ 7) ∧ r = 0 ∧ u = mdW Z h ad iv av)) := by
  intro sz
  refine Met.ofK (cc := cX11_compact) (maxL := 3) (ret := (some .boolean)) (by decide) (Nat.le_of_ble_eq_true rfl) ?_
  intro p e s m below meth c ls C G hl
  generalize va_A _ sz = A at G ⊢
  have hx := C.1
  have hb := C.2.1
  have hown := C.2.2.2.2.2.1
  have hts := C.2.2.2.2.2.2.1
  refine lv_aload_n hx hb dX11_compact_0 rfl (lv_at hl 0 rfl) ?_
  refine lv_iload_n hx hb dX11_compact_1 rfl (lv_at hl 1 rfl) ?_
  refine lv_iconst (v := 2) hx hb dX11_compact_2 (by decide) ?_
  refine lv_iload_n hx hb dX11_compact_3 rfl (lv_at hl 2 rfl) ?_
  refine kcM_i G (krV 3 rfl (As := [.int (nI wn), .int 2, .int y]) (rest := []) (ci := 12) (CC := RX11) (T := TX11) (N := 61) C G pmN (c_begIn Z l h ad iv av wn 2 y tr aw hwn h33 h7 _) (gdV ml_X11_269 im_X11_begins se_X11_begins ii_X11 co_X11_begins) (by decide +kernel) ⟨Nat.le_of_ble_eq_true rfl, Nat.le_of_ble_eq_true rfl⟩ rfl 0 rfl hl rfl (Nat.le_of_ble_eq_true rfl) ⟨Nat.le_of_ble_eq_true rfl, Nat.le_of_ble_eq_true rfl⟩ dX11_compact_4) (fun r_4 u H locs hu G => ?_)
  have hz : narrow .boolean (.int r_4) = .int r_4 := by rcases hu with ⟨_, q, _⟩ | ⟨_, q, _⟩ <;> (subst q; decide)
  exact kr_z C G hz hu (Nat.le_of_ble_eq_true rfl) (Nat.le_of_ble_eq_true rfl) dX11_compact_7
set_option maxRecDepth 100000 in
set_option maxHeartbeats 4000000 in
theorem c_compactOutM (Z : zT) (l : Launch) (h : Nat) (ad : Nat → Nat) (iv : ivT) (av : avT) (x : Int32) (y : Int32) (hx4 : ¬ (0 ≤ x ∧ x < 4)) : Ki Z l yX11_compact cX11_compact 3 (some .boolean) ({ frames := 2, cells := 0, slots := 0, locals := 60 }) [.ref h, .int x, .int y] (mdW Z h ad iv av) (fun r u => r = 0 ∧ u = mdW Z h ad iv av) := by
  intro sz
  refine Met.ofK (cc := cX11_compact) (maxL := 3) (ret := (some .boolean)) (by decide) (Nat.le_of_ble_eq_true rfl) ?_
  intro p e s m below meth c ls C G hl
  generalize va_A _ sz = A at G ⊢
  have hx := C.1
  have hb := C.2.1
  have hown := C.2.2.2.2.2.1
  have hts := C.2.2.2.2.2.2.1
  refine lv_aload_n hx hb dX11_compact_0 rfl (lv_at hl 0 rfl) ?_
  refine lv_iload_n hx hb dX11_compact_1 rfl (lv_at hl 1 rfl) ?_
  refine lv_iconst (v := 2) hx hb dX11_compact_2 (by decide) ?_
  refine lv_iload_n hx hb dX11_compact_3 rfl (lv_at hl 2 rfl) ?_
  refine kcM_i G (krV 3 rfl (As := [.int x, .int 2, .int y]) (rest := []) (ci := 12) (CC := RX11) (T := TX11) (N := 61) C G pmN (c_begOut Z l h ad iv av x 2 y hx4 _) (gdV ml_X11_269 im_X11_begins se_X11_begins ii_X11 co_X11_begins) (by decide +kernel) ⟨Nat.le_of_ble_eq_true rfl, Nat.le_of_ble_eq_true rfl⟩ rfl 0 rfl hl rfl (Nat.le_of_ble_eq_true rfl) ⟨Nat.le_of_ble_eq_true rfl, Nat.le_of_ble_eq_true rfl⟩ dX11_compact_4) (fun r_4 u H locs hu G => ?_)
  obtain ⟨r_4_e, rfl⟩ := hu
  subst r_4_e
  exact kr_z C G (by decide) ⟨rfl, rfl⟩ (Nat.le_of_ble_eq_true rfl) (Nat.le_of_ble_eq_true rfl) dX11_compact_7
set_option maxRecDepth 100000 in
set_option maxHeartbeats 4000000 in
theorem c_deleteInM (Z : zT) (l : Launch) (h : Nat) (ad : Nat → Nat) (iv : ivT) (av : avT) (wn : Nat) (y cc hh nn tr aw : Int32) (hwn : wn < 4) (h33 : av 33 wn = aw) (h7 : iv 7 = tr) : Ki Z l yX11_delete cX11_delete 6 (some .boolean) ({ frames := 2, cells := 0, slots := 0, locals := 60 }) [.ref h, .int (nI wn), .int y, .int cc, .int hh, .int nn] (mdW Z h ad iv av) (fun r u => (((0 ≤ cc ∧ cc ≤ 2 ∧ 0 ≤ hh ∧ hh ≤ 2) ∧ aw = 0 ∧ 0 ≤ y ∧ y ≤ 7) ∧ r = 1 ∧ u = mdW Z h ad iv (ua (ua (ua (bgA av wn 1 y tr) 42 (upd ((bgA av wn 1 y tr) 42) wn cc)) 43 (upd ((bgA av wn 1 y tr) 43) wn hh)) 44 (upd ((bgA av wn 1 y tr) 44) wn nn))) ∨ (¬ ((0 ≤ cc ∧ cc ≤ 2 ∧ 0 ≤ hh ∧ hh ≤ 2) ∧ aw = 0 ∧ 0 ≤ y ∧ y ≤ 7) ∧ r = 0 ∧ u = mdW Z h ad iv av)) := by
  intro sz
  refine Met.ofK (cc := cX11_delete) (maxL := 6) (ret := (some .boolean)) (by decide) (Nat.le_of_ble_eq_true rfl) ?_
  intro p e s m below meth c ls C G hl
  generalize va_A _ sz = A at G ⊢
  have hx := C.1
  have hb := C.2.1
  have hown := C.2.2.2.2.2.1
  have hts := C.2.2.2.2.2.2.1
  refine lv_iload_n hx hb dX11_delete_0 rfl (lv_at hl 3 rfl) ?_
  refine lv_if_lt (tgt := 30) hx hb dX11_delete_1 (by decide) (fun c_1 => ?_) (fun c_1 => ?_)
  · refine lv_iconst (v := 0) hx hb dX11_delete_30 (by decide) ?_
    exact kr_z C G (by decide) (Or.inr ⟨fun z => absurd c_1 (Int32.not_lt.mpr z.1.1), rfl, rfl⟩) (Nat.le_of_ble_eq_true rfl) (Nat.le_of_ble_eq_true rfl) dX11_delete_31
  · refine lv_iload_n hx hb dX11_delete_4 rfl (lv_at hl 3 rfl) ?_
    refine lv_iconst (v := 2) hx hb dX11_delete_5 (by decide) ?_
    refine lv_icmp_gt (tgt := 30) hx hb dX11_delete_6 (by decide) (fun c_6 => ?_) (fun c_6 => ?_)
    · refine lv_iconst (v := 0) hx hb dX11_delete_30 (by decide) ?_
      exact kr_z C G (by decide) (Or.inr ⟨fun z => absurd c_6 (Int32.not_lt.mpr z.1.2.1), rfl, rfl⟩) (Nat.le_of_ble_eq_true rfl) (Nat.le_of_ble_eq_true rfl) dX11_delete_31
    · refine lv_iload hx hb dX11_delete_9 (lv_at hl 4 rfl) ?_
      refine lv_if_lt (tgt := 30) hx hb dX11_delete_11 (by decide) (fun c_11 => ?_) (fun c_11 => ?_)
      · refine lv_iconst (v := 0) hx hb dX11_delete_30 (by decide) ?_
        exact kr_z C G (by decide) (Or.inr ⟨fun z => absurd c_11 (Int32.not_lt.mpr z.1.2.2.1), rfl, rfl⟩) (Nat.le_of_ble_eq_true rfl) (Nat.le_of_ble_eq_true rfl) dX11_delete_31
      · refine lv_iload hx hb dX11_delete_14 (lv_at hl 4 rfl) ?_
        refine lv_iconst (v := 2) hx hb dX11_delete_16 (by decide) ?_
        refine lv_icmp_gt (tgt := 30) hx hb dX11_delete_17 (by decide) (fun c_17 => ?_) (fun c_17 => ?_)
        · refine lv_iconst (v := 0) hx hb dX11_delete_30 (by decide) ?_
          exact kr_z C G (by decide) (Or.inr ⟨fun z => absurd c_17 (Int32.not_lt.mpr z.1.2.2.2), rfl, rfl⟩) (Nat.le_of_ble_eq_true rfl) (Nat.le_of_ble_eq_true rfl) dX11_delete_31
        · refine lv_aload_n hx hb dX11_delete_20 rfl (lv_at hl 0 rfl) ?_
          refine lv_iload_n hx hb dX11_delete_21 rfl (lv_at hl 1 rfl) ?_
          refine lv_iconst (v := 1) hx hb dX11_delete_22 (by decide) ?_
          refine lv_iload_n hx hb dX11_delete_23 rfl (lv_at hl 2 rfl) ?_
          refine kcM_i G (krV 3 rfl (As := [.int (nI wn), .int 1, .int y]) (rest := []) (ci := 12) (CC := RX11) (T := TX11) (N := 61) C G pmN (c_begIn Z l h ad iv av wn 1 y tr aw hwn h33 h7 _) (gdV ml_X11_269 im_X11_begins se_X11_begins ii_X11 co_X11_begins) (by decide +kernel) ⟨Nat.le_of_ble_eq_true rfl, Nat.le_of_ble_eq_true rfl⟩ rfl 0 rfl hl rfl (Nat.le_of_ble_eq_true rfl) ⟨Nat.le_of_ble_eq_true rfl, Nat.le_of_ble_eq_true rfl⟩ dX11_delete_24) (fun r_24 u H locs hu G => ?_)
          rcases hu with ⟨hcd, r_24_e, rfl⟩ | ⟨hcd, r_24_e, rfl⟩
          · subst r_24_e
            refine lv_if_ne (tgt := 32) hx hb dX11_delete_27 (by decide) (fun c_27 => ?_) (fun c_27 => ?_)
            · have n_27 := nb_ne (a := 1) (b := 0) c_27 (by omega) (by omega)
              refine lv_aload_n hx hb dX11_delete_32 rfl (lv_at hl 0 rfl) ?_
              refine k_mga C G 42 (by decide) mr_42 fl_X11_92 rfl dX11_delete_33 ?_
              refine lv_iload_n hx hb dX11_delete_36 rfl (lv_at hl 1 rfl) ?_
              refine lv_iload_n hx hb dX11_delete_37 rfl (lv_at hl 3 rfl) ?_
              refine k_mis (x := cc) (i := wn) C G 24 (k := 42) (n := 4) mp_42 (by decide) (by omega) dX11_delete_38 (fun H locs (G : wd Z A s (mdW Z h ad iv (ua (bgA av wn 1 y tr) 42 (upd ((bgA av wn 1 y tr) 42) wn cc))) H locs) => ?_)
              refine lv_aload_n hx hb dX11_delete_39 rfl (lv_at hl 0 rfl) ?_
              refine k_mga C G 43 (by decide) mr_43 fl_X11_95 rfl dX11_delete_40 ?_
              refine lv_iload_n hx hb dX11_delete_43 rfl (lv_at hl 1 rfl) ?_
              refine lv_iload hx hb dX11_delete_44 (lv_at hl 4 rfl) ?_
              refine k_mis (x := hh) (i := wn) C G 25 (k := 43) (n := 4) mp_43 (by decide) (by omega) dX11_delete_46 (fun H locs (G : wd Z A s (mdW Z h ad iv (ua (ua (bgA av wn 1 y tr) 42 (upd ((bgA av wn 1 y tr) 42) wn cc)) 43 (upd ((bgA av wn 1 y tr) 43) wn hh))) H locs) => ?_)
              refine lv_aload_n hx hb dX11_delete_47 rfl (lv_at hl 0 rfl) ?_
              refine k_mga C G 44 (by decide) mr_44 fl_X11_98 rfl dX11_delete_48 ?_
              refine lv_iload_n hx hb dX11_delete_51 rfl (lv_at hl 1 rfl) ?_
              refine lv_iload hx hb dX11_delete_52 (lv_at hl 5 rfl) ?_
              refine k_mis (x := nn) (i := wn) C G 26 (k := 44) (n := 4) mp_44 (by decide) (by omega) dX11_delete_54 (fun H locs (G : wd Z A s (mdW Z h ad iv (ua (ua (ua (bgA av wn 1 y tr) 42 (upd ((bgA av wn 1 y tr) 42) wn cc)) 43 (upd ((bgA av wn 1 y tr) 43) wn hh)) 44 (upd ((bgA av wn 1 y tr) 44) wn nn))) H locs) => ?_)
              refine lv_iconst (v := 1) hx hb dX11_delete_55 (by decide) ?_
              exact kr_z C G (by decide) (Or.inl ⟨⟨⟨Int32.not_lt.mp c_1, Int32.not_lt.mp c_6, Int32.not_lt.mp c_11, Int32.not_lt.mp c_17⟩, hcd⟩, rfl, rfl⟩) (Nat.le_of_ble_eq_true rfl) (Nat.le_of_ble_eq_true rfl) dX11_delete_56
            · exact absurd c_27 (by decide)
          · subst r_24_e
            refine lv_if_ne (tgt := 32) hx hb dX11_delete_27 (by decide) (fun c_27 => ?_) (fun c_27 => ?_)
            · exact absurd c_27 (by decide)
            · have n_27 := nb_eq (a := 0) (b := 0) c_27 (by omega) (by omega)
              refine lv_iconst (v := 0) hx hb dX11_delete_30 (by decide) ?_
              exact kr_z C G (by decide) (Or.inr ⟨fun z => hcd z.2, rfl, rfl⟩) (Nat.le_of_ble_eq_true rfl) (Nat.le_of_ble_eq_true rfl) dX11_delete_31
set_option maxRecDepth 100000 in
set_option maxHeartbeats 4000000 in
theorem c_deleteOutM (Z : zT) (l : Launch) (h : Nat) (ad : Nat → Nat) (iv : ivT) (av : avT) (x : Int32) (y cc hh nn : Int32) (hx4 : ¬ (0 ≤ x ∧ x < 4)) : Ki Z l yX11_delete cX11_delete 6 (some .boolean) ({ frames := 2, cells := 0, slots := 0, locals := 60 }) [.ref h, .int x, .int y, .int cc, .int hh, .int nn] (mdW Z h ad iv av) (fun r u => r = 0 ∧ u = mdW Z h ad iv av) := by
  intro sz
  refine Met.ofK (cc := cX11_delete) (maxL := 6) (ret := (some .boolean)) (by decide) (Nat.le_of_ble_eq_true rfl) ?_
  intro p e s m below meth c ls C G hl
  generalize va_A _ sz = A at G ⊢
  have hx := C.1
  have hb := C.2.1
  have hown := C.2.2.2.2.2.1
  have hts := C.2.2.2.2.2.2.1
  refine lv_iload_n hx hb dX11_delete_0 rfl (lv_at hl 3 rfl) ?_
  refine lv_if_lt (tgt := 30) hx hb dX11_delete_1 (by decide) (fun c_1 => ?_) (fun c_1 => ?_)
  · refine lv_iconst (v := 0) hx hb dX11_delete_30 (by decide) ?_
    exact kr_z C G (by decide) ⟨rfl, rfl⟩ (Nat.le_of_ble_eq_true rfl) (Nat.le_of_ble_eq_true rfl) dX11_delete_31
  · refine lv_iload_n hx hb dX11_delete_4 rfl (lv_at hl 3 rfl) ?_
    refine lv_iconst (v := 2) hx hb dX11_delete_5 (by decide) ?_
    refine lv_icmp_gt (tgt := 30) hx hb dX11_delete_6 (by decide) (fun c_6 => ?_) (fun c_6 => ?_)
    · refine lv_iconst (v := 0) hx hb dX11_delete_30 (by decide) ?_
      exact kr_z C G (by decide) ⟨rfl, rfl⟩ (Nat.le_of_ble_eq_true rfl) (Nat.le_of_ble_eq_true rfl) dX11_delete_31
    · refine lv_iload hx hb dX11_delete_9 (lv_at hl 4 rfl) ?_
      refine lv_if_lt (tgt := 30) hx hb dX11_delete_11 (by decide) (fun c_11 => ?_) (fun c_11 => ?_)
      · refine lv_iconst (v := 0) hx hb dX11_delete_30 (by decide) ?_
        exact kr_z C G (by decide) ⟨rfl, rfl⟩ (Nat.le_of_ble_eq_true rfl) (Nat.le_of_ble_eq_true rfl) dX11_delete_31
      · refine lv_iload hx hb dX11_delete_14 (lv_at hl 4 rfl) ?_
        refine lv_iconst (v := 2) hx hb dX11_delete_16 (by decide) ?_
        refine lv_icmp_gt (tgt := 30) hx hb dX11_delete_17 (by decide) (fun c_17 => ?_) (fun c_17 => ?_)
        · refine lv_iconst (v := 0) hx hb dX11_delete_30 (by decide) ?_
          exact kr_z C G (by decide) ⟨rfl, rfl⟩ (Nat.le_of_ble_eq_true rfl) (Nat.le_of_ble_eq_true rfl) dX11_delete_31
        · refine lv_aload_n hx hb dX11_delete_20 rfl (lv_at hl 0 rfl) ?_
          refine lv_iload_n hx hb dX11_delete_21 rfl (lv_at hl 1 rfl) ?_
          refine lv_iconst (v := 1) hx hb dX11_delete_22 (by decide) ?_
          refine lv_iload_n hx hb dX11_delete_23 rfl (lv_at hl 2 rfl) ?_
          refine kcM_i G (krV 3 rfl (As := [.int x, .int 1, .int y]) (rest := []) (ci := 12) (CC := RX11) (T := TX11) (N := 61) C G pmN (c_begOut Z l h ad iv av x 1 y hx4 _) (gdV ml_X11_269 im_X11_begins se_X11_begins ii_X11 co_X11_begins) (by decide +kernel) ⟨Nat.le_of_ble_eq_true rfl, Nat.le_of_ble_eq_true rfl⟩ rfl 0 rfl hl rfl (Nat.le_of_ble_eq_true rfl) ⟨Nat.le_of_ble_eq_true rfl, Nat.le_of_ble_eq_true rfl⟩ dX11_delete_24) (fun r_24 u H locs hu G => ?_)
          obtain ⟨r_24_e, rfl⟩ := hu
          subst r_24_e
          refine lv_if_ne (tgt := 32) hx hb dX11_delete_27 (by decide) (fun c_27 => ?_) (fun c_27 => ?_)
          · exact absurd c_27 (by decide)
          · have n_27 := nb_eq (a := 0) (b := 0) c_27 (by omega) (by omega)
            refine lv_iconst (v := 0) hx hb dX11_delete_30 (by decide) ?_
            exact kr_z C G (by decide) ⟨rfl, rfl⟩ (Nat.le_of_ble_eq_true rfl) (Nat.le_of_ble_eq_true rfl) dX11_delete_31
def coA (av : avT) (wn k : Nat) (y v1 v2 v3 : Int32) : avT := (ua (ua (ua (ua (ua av 46 (upd (av 46) (4800 * wn + k) y)) 45 (upd (av 45) (14400 * wn + 3 * k) v1)) 45 (upd (upd (av 45) (14400 * wn + 3 * k) v1) (14400 * wn + 3 * k + 1) v2)) 45 (upd (upd (upd (av 45) (14400 * wn + 3 * k) v1) (14400 * wn + 3 * k + 1) v2) (14400 * wn + 3 * k + 2) v3)) 47 (upd (av 47) wn (nI (k + 1))))
set_option maxRecDepth 100000 in
set_option maxHeartbeats 4000000 in
theorem c_X11_comes (Z : zT) (l : Launch) (h : Nat) (ad : Nat → Nat) (iv : ivT) (av : avT) (wn : Nat) (k : Nat) (y v1 v2 v3 : Int32) (hwn : wn < 4) (h47 : av 47 wn = nI k) (hk : k < 4800) : Kv Z l yX11_comes cX11_comes 7 none ({ frames := 0, cells := 0, slots := 0, locals := 0 }) [.ref h, .int (nI wn), .int y, .int v1, .int v2, .int v3] (mdW Z h ad iv av) (fun u => u = mdW Z h ad iv (coA av wn k y v1 v2 v3)) := by
  intro sz
  refine Met.ofK (cc := cX11_comes) (maxL := 7) (ret := none) (by decide) (Nat.le_of_ble_eq_true rfl) ?_
  intro p e s m below meth c ls C G hl
  generalize va_A _ sz = A at G ⊢
  have hx := C.1
  have hb := C.2.1
  have hown := C.2.2.2.2.2.1
  have hts := C.2.2.2.2.2.2.1
  refine lv_aload_n hx hb dX11_comes_0 rfl (lv_at hl 0 rfl) ?_
  refine k_mga C G 47 (by decide) mr_47 fl_X11_108 rfl dX11_comes_1 ?_
  refine lv_iload_n hx hb dX11_comes_4 rfl (lv_at hl 1 rfl) ?_
  refine k_mil (v := nI k) (i := wn) C G 29 (k := 47) (n := 4) mp_47 (by decide) (by omega) h47 dX11_comes_5 ?_
  refine lv_istore (lv' := [(6, .int (nI k)), (0, .ref h), (1, .int (nI wn)), (2, .int y), (3, .int v1), (4, .int v2), (5, .int v3)]) hx hb dX11_comes_6 hl (by decide) rfl (fun ls hl => ?_)
  refine lv_aload_n hx hb dX11_comes_8 rfl (lv_at hl 1 rfl) ?_
  refine k_mga C G 46 (by decide) mr_46 fl_X11_105 rfl dX11_comes_9 ?_
  refine lv_sipush (v := 4800) hx hb dX11_comes_12 (by decide) ?_
  refine lv_iload_n hx hb dX11_comes_15 rfl (lv_at hl 2 rfl) ?_
  refine lv_imul hx hb dX11_comes_16 ?_
  refine k_topi (y := nI (4800 * wn)) (pk_mul 4800 wn) ?_
  refine lv_iload hx hb dX11_comes_17 (lv_at hl 0 rfl) ?_
  refine lv_iadd hx hb dX11_comes_19 ?_
  refine k_topi (y := nI (4800 * wn + k)) (nI_add (4800 * wn) k) ?_
  refine lv_iload_n hx hb dX11_comes_20 rfl (lv_at hl 3 rfl) ?_
  refine k_mis (x := y) (i := 4800 * wn + k) C G 28 (k := 46) (n := 19200) mp_46 (by decide) (by omega) dX11_comes_21 (fun H locs (G : wd Z A s (mdW Z h ad iv (ua av 46 (upd (av 46) (4800 * wn + k) y))) H locs) => ?_)
  refine lv_aload_n hx hb dX11_comes_22 rfl (lv_at hl 1 rfl) ?_
  refine k_mga C G 45 (by decide) mr_45 fl_X11_102 rfl dX11_comes_23 ?_
  refine lv_sipush (v := 14400) hx hb dX11_comes_26 (by decide) ?_
  refine lv_iload_n hx hb dX11_comes_29 rfl (lv_at hl 2 rfl) ?_
  refine lv_imul hx hb dX11_comes_30 ?_
  refine k_topi (y := nI (14400 * wn)) (pk_mul 14400 wn) ?_
  refine lv_iconst (v := 3) hx hb dX11_comes_31 (by decide) ?_
  refine lv_iload hx hb dX11_comes_32 (lv_at hl 0 rfl) ?_
  refine lv_imul hx hb dX11_comes_34 ?_
  refine k_topi (y := nI (3 * k)) (pk_mul 3 k) ?_
  refine lv_iadd hx hb dX11_comes_35 ?_
  refine k_topi (y := nI (14400 * wn + 3 * k)) (nI_add (14400 * wn) (3 * k)) ?_
  refine lv_iload_n hx hb dX11_comes_36 rfl (lv_at hl 4 rfl) ?_
  refine k_mis (x := v1) (i := 14400 * wn + 3 * k) C G 27 (k := 45) (n := 57600) mp_45 (by decide) (by omega) dX11_comes_37 (fun H locs (G : wd Z A s (mdW Z h ad iv (ua (ua av 46 (upd (av 46) (4800 * wn + k) y)) 45 (upd (av 45) (14400 * wn + 3 * k) v1))) H locs) => ?_)
  refine lv_aload_n hx hb dX11_comes_38 rfl (lv_at hl 1 rfl) ?_
  refine k_mga C G 45 (by decide) mr_45 fl_X11_102 rfl dX11_comes_39 ?_
  refine lv_sipush (v := 14400) hx hb dX11_comes_42 (by decide) ?_
  refine lv_iload_n hx hb dX11_comes_45 rfl (lv_at hl 2 rfl) ?_
  refine lv_imul hx hb dX11_comes_46 ?_
  refine k_topi (y := nI (14400 * wn)) (pk_mul 14400 wn) ?_
  refine lv_iconst (v := 3) hx hb dX11_comes_47 (by decide) ?_
  refine lv_iload hx hb dX11_comes_48 (lv_at hl 0 rfl) ?_
  refine lv_imul hx hb dX11_comes_50 ?_
  refine k_topi (y := nI (3 * k)) (pk_mul 3 k) ?_
  refine lv_iadd hx hb dX11_comes_51 ?_
  refine k_topi (y := nI (14400 * wn + 3 * k)) (nI_add (14400 * wn) (3 * k)) ?_
  refine lv_iconst (v := 1) hx hb dX11_comes_52 (by decide) ?_
  refine lv_iadd hx hb dX11_comes_53 ?_
  refine k_topi (y := nI (14400 * wn + 3 * k + 1)) (nI_add (14400 * wn + 3 * k) 1) ?_
  refine lv_iload hx hb dX11_comes_54 (lv_at hl 5 rfl) ?_
  refine k_mis (x := v2) (i := 14400 * wn + 3 * k + 1) C G 27 (k := 45) (n := 57600) mp_45 (by decide) (by omega) dX11_comes_56 (fun H locs (G : wd Z A s (mdW Z h ad iv (ua (ua (ua av 46 (upd (av 46) (4800 * wn + k) y)) 45 (upd (av 45) (14400 * wn + 3 * k) v1)) 45 (upd (upd (av 45) (14400 * wn + 3 * k) v1) (14400 * wn + 3 * k + 1) v2))) H locs) => ?_)
  refine lv_aload_n hx hb dX11_comes_57 rfl (lv_at hl 1 rfl) ?_
  refine k_mga C G 45 (by decide) mr_45 fl_X11_102 rfl dX11_comes_58 ?_
  refine lv_sipush (v := 14400) hx hb dX11_comes_61 (by decide) ?_
  refine lv_iload_n hx hb dX11_comes_64 rfl (lv_at hl 2 rfl) ?_
  refine lv_imul hx hb dX11_comes_65 ?_
  refine k_topi (y := nI (14400 * wn)) (pk_mul 14400 wn) ?_
  refine lv_iconst (v := 3) hx hb dX11_comes_66 (by decide) ?_
  refine lv_iload hx hb dX11_comes_67 (lv_at hl 0 rfl) ?_
  refine lv_imul hx hb dX11_comes_69 ?_
  refine k_topi (y := nI (3 * k)) (pk_mul 3 k) ?_
  refine lv_iadd hx hb dX11_comes_70 ?_
  refine k_topi (y := nI (14400 * wn + 3 * k)) (nI_add (14400 * wn) (3 * k)) ?_
  refine lv_iconst (v := 2) hx hb dX11_comes_71 (by decide) ?_
  refine lv_iadd hx hb dX11_comes_72 ?_
  refine k_topi (y := nI (14400 * wn + 3 * k + 2)) (nI_add (14400 * wn + 3 * k) 2) ?_
  refine lv_iload hx hb dX11_comes_73 (lv_at hl 6 rfl) ?_
  refine k_mis (x := v3) (i := 14400 * wn + 3 * k + 2) C G 27 (k := 45) (n := 57600) mp_45 (by decide) (by omega) dX11_comes_75 (fun H locs (G : wd Z A s (mdW Z h ad iv (ua (ua (ua (ua av 46 (upd (av 46) (4800 * wn + k) y)) 45 (upd (av 45) (14400 * wn + 3 * k) v1)) 45 (upd (upd (av 45) (14400 * wn + 3 * k) v1) (14400 * wn + 3 * k + 1) v2)) 45 (upd (upd (upd (av 45) (14400 * wn + 3 * k) v1) (14400 * wn + 3 * k + 1) v2) (14400 * wn + 3 * k + 2) v3))) H locs) => ?_)
  refine lv_aload_n hx hb dX11_comes_76 rfl (lv_at hl 1 rfl) ?_
  refine k_mga C G 47 (by decide) mr_47 fl_X11_108 rfl dX11_comes_77 ?_
  refine lv_iload_n hx hb dX11_comes_80 rfl (lv_at hl 2 rfl) ?_
  refine lv_dup2_11 hx hb dX11_comes_81 rfl rfl ?_
  refine k_mil (v := nI k) (i := wn) C G 29 (k := 47) (n := 4) mp_47 (by decide) (by omega) h47 dX11_comes_82 ?_
  refine lv_iconst (v := 1) hx hb dX11_comes_83 (by decide) ?_
  refine lv_iadd hx hb dX11_comes_84 ?_
  refine k_topi (y := nI (k + 1)) (nI_add k 1) ?_
  refine k_mis (x := nI (k + 1)) (i := wn) C G 29 (k := 47) (n := 4) mp_47 (by decide) (by omega) dX11_comes_85 (fun H locs (G : wd Z A s (mdW Z h ad iv (ua (ua (ua (ua (ua av 46 (upd (av 46) (4800 * wn + k) y)) 45 (upd (av 45) (14400 * wn + 3 * k) v1)) 45 (upd (upd (av 45) (14400 * wn + 3 * k) v1) (14400 * wn + 3 * k + 1) v2)) 45 (upd (upd (upd (av 45) (14400 * wn + 3 * k) v1) (14400 * wn + 3 * k + 1) v2) (14400 * wn + 3 * k + 2) v3)) 47 (upd (av 47) wn (nI (k + 1))))) H locs) => ?_)
  exact kr_v C G rfl (Nat.le_of_ble_eq_true rfl) (Nat.le_of_ble_eq_true rfl) dX11_comes_86
def adA (av : avT) (wn k : Nat) (y v1 v2 : Int32) : avT := (ua (ua (ua (ua av 49 (upd (av 49) (200 * wn + k) y)) 50 (upd (av 50) (200 * wn + k) v1)) 51 (upd (av 51) (200 * wn + k) v2)) 48 (upd (av 48) wn (nI (k + 1))))
set_option maxRecDepth 100000 in
set_option maxHeartbeats 4000000 in
theorem c_X11_adds (Z : zT) (l : Launch) (h : Nat) (ad : Nat → Nat) (iv : ivT) (av : avT) (wn : Nat) (k : Nat) (y v1 v2 : Int32) (hwn : wn < 4) (h48 : av 48 wn = nI k) (hk : k < 200) : Kv Z l yX11_adds cX11_adds 6 none ({ frames := 0, cells := 0, slots := 0, locals := 0 }) [.ref h, .int (nI wn), .int y, .int v1, .int v2] (mdW Z h ad iv av) (fun u => u = mdW Z h ad iv (adA av wn k y v1 v2)) := by
  intro sz
  refine Met.ofK (cc := cX11_adds) (maxL := 6) (ret := none) (by decide) (Nat.le_of_ble_eq_true rfl) ?_
  intro p e s m below meth c ls C G hl
  generalize va_A _ sz = A at G ⊢
  have hx := C.1
  have hb := C.2.1
  have hown := C.2.2.2.2.2.1
  have hts := C.2.2.2.2.2.2.1
  refine lv_sipush (v := 200) hx hb dX11_adds_0 (by decide) ?_
  refine lv_iload_n hx hb dX11_adds_3 rfl (lv_at hl 1 rfl) ?_
  refine lv_imul hx hb dX11_adds_4 ?_
  refine k_topi (y := nI (200 * wn)) (pk_mul 200 wn) ?_
  refine lv_aload_n hx hb dX11_adds_5 rfl (lv_at hl 0 rfl) ?_
  refine k_mga C G 48 (by decide) mr_48 fl_X11_111 rfl dX11_adds_6 ?_
  refine lv_iload_n hx hb dX11_adds_9 rfl (lv_at hl 1 rfl) ?_
  refine k_mil (v := nI k) (i := wn) C G 30 (k := 48) (n := 4) mp_48 (by decide) (by omega) h48 dX11_adds_10 ?_
  refine lv_iadd hx hb dX11_adds_11 ?_
  refine k_topi (y := nI (200 * wn + k)) (nI_add (200 * wn) k) ?_
  refine lv_istore (lv' := [(5, .int (nI (200 * wn + k))), (0, .ref h), (1, .int (nI wn)), (2, .int y), (3, .int v1), (4, .int v2)]) hx hb dX11_adds_12 hl (by decide) rfl (fun ls hl => ?_)
  refine lv_aload_n hx hb dX11_adds_14 rfl (lv_at hl 1 rfl) ?_
  refine k_mga C G 49 (by decide) mr_49 fl_X11_114 rfl dX11_adds_15 ?_
  refine lv_iload hx hb dX11_adds_18 (lv_at hl 0 rfl) ?_
  refine lv_iload_n hx hb dX11_adds_20 rfl (lv_at hl 3 rfl) ?_
  refine k_mis (x := y) (i := 200 * wn + k) C G 31 (k := 49) (n := 800) mp_49 (by decide) (by omega) dX11_adds_21 (fun H locs (G : wd Z A s (mdW Z h ad iv (ua av 49 (upd (av 49) (200 * wn + k) y))) H locs) => ?_)
  refine lv_aload_n hx hb dX11_adds_22 rfl (lv_at hl 1 rfl) ?_
  refine k_mga C G 50 (by decide) mr_50 fl_X11_117 rfl dX11_adds_23 ?_
  refine lv_iload hx hb dX11_adds_26 (lv_at hl 0 rfl) ?_
  refine lv_iload_n hx hb dX11_adds_28 rfl (lv_at hl 4 rfl) ?_
  refine k_mis (x := v1) (i := 200 * wn + k) C G 32 (k := 50) (n := 800) mp_50 (by decide) (by omega) dX11_adds_29 (fun H locs (G : wd Z A s (mdW Z h ad iv (ua (ua av 49 (upd (av 49) (200 * wn + k) y)) 50 (upd (av 50) (200 * wn + k) v1))) H locs) => ?_)
  refine lv_aload_n hx hb dX11_adds_30 rfl (lv_at hl 1 rfl) ?_
  refine k_mga C G 51 (by decide) mr_51 fl_X11_120 rfl dX11_adds_31 ?_
  refine lv_iload hx hb dX11_adds_34 (lv_at hl 0 rfl) ?_
  refine lv_iload hx hb dX11_adds_36 (lv_at hl 5 rfl) ?_
  refine k_mis (x := v2) (i := 200 * wn + k) C G 33 (k := 51) (n := 800) mp_51 (by decide) (by omega) dX11_adds_38 (fun H locs (G : wd Z A s (mdW Z h ad iv (ua (ua (ua av 49 (upd (av 49) (200 * wn + k) y)) 50 (upd (av 50) (200 * wn + k) v1)) 51 (upd (av 51) (200 * wn + k) v2))) H locs) => ?_)
  refine lv_aload_n hx hb dX11_adds_39 rfl (lv_at hl 1 rfl) ?_
  refine k_mga C G 48 (by decide) mr_48 fl_X11_111 rfl dX11_adds_40 ?_
  refine lv_iload_n hx hb dX11_adds_43 rfl (lv_at hl 2 rfl) ?_
  refine lv_dup2_11 hx hb dX11_adds_44 rfl rfl ?_
  refine k_mil (v := nI k) (i := wn) C G 30 (k := 48) (n := 4) mp_48 (by decide) (by omega) h48 dX11_adds_45 ?_
  refine lv_iconst (v := 1) hx hb dX11_adds_46 (by decide) ?_
  refine lv_iadd hx hb dX11_adds_47 ?_
  refine k_topi (y := nI (k + 1)) (nI_add k 1) ?_
  refine k_mis (x := nI (k + 1)) (i := wn) C G 30 (k := 48) (n := 4) mp_48 (by decide) (by omega) dX11_adds_48 (fun H locs (G : wd Z A s (mdW Z h ad iv (ua (ua (ua (ua av 49 (upd (av 49) (200 * wn + k) y)) 50 (upd (av 50) (200 * wn + k) v1)) 51 (upd (av 51) (200 * wn + k) v2)) 48 (upd (av 48) wn (nI (k + 1))))) H locs) => ?_)
  exact kr_v C G rfl (Nat.le_of_ble_eq_true rfl) (Nat.le_of_ble_eq_true rfl) dX11_adds_49
set_option maxRecDepth 100000 in
set_option maxHeartbeats 4000000 in
theorem c_X11_fails (Z : zT) (l : Launch) (h : Nat) (ad : Nat → Nat) (iv : ivT) (av : avT) (wn : Nat) (x q : Int32) (hwn : wn < 4) (h11 : iv 11 = q) : Ki Z l yX11_fails cX11_fails 3 (some .int) ({ frames := 0, cells := 0, slots := 0, locals := 0 }) [.ref h, .int (nI wn), .int x] (mdW Z h ad iv av) (fun r u => r = -x ∧ u = mdW Z h ad (upd iv 11 (q + 1)) (ua av 33 (upd (av 33) wn 0))) := by
  intro sz
  refine Met.ofK (cc := cX11_fails) (maxL := 3) (ret := (some .int)) (by decide) (Nat.le_of_ble_eq_true rfl) ?_
  intro p e s m below meth c ls C G hl
  generalize va_A _ sz = A at G ⊢
  have hx := C.1
  have hb := C.2.1
  have hown := C.2.2.2.2.2.1
  have hts := C.2.2.2.2.2.2.1
  refine lv_aload_n hx hb dX11_fails_0 rfl (lv_at hl 0 rfl) ?_
  refine k_mga C G 33 (by decide) mr_33 fl_X11_65 rfl dX11_fails_1 ?_
  refine lv_iload_n hx hb dX11_fails_4 rfl (lv_at hl 1 rfl) ?_
  refine lv_iconst (v := 0) hx hb dX11_fails_5 (by decide) ?_
  refine k_mzs (x := 0) (i := wn) C G 15 (k := 33) (n := 4) mp_33 (by decide) (by omega) (by decide) dX11_fails_6 (fun H locs (G : wd Z A s (mdW Z h ad iv (ua av 33 (upd (av 33) wn 0))) H locs) => ?_)
  refine lv_aload_n hx hb dX11_fails_7 rfl (lv_at hl 0 rfl) ?_
  refine lv_dup hx hb dX11_fails_8 rfl ?_
  refine k_mgi (v := q) C G 11 (by decide) mr_11 h11 fl_X11_277 rfl dX11_fails_9 ?_
  refine lv_iconst (v := 1) hx hb dX11_fails_12 (by decide) ?_
  refine lv_iadd hx hb dX11_fails_13 ?_
  refine k_mpi (v := q + 1) (ty := .int) C G 11 (by decide) mr_11 fl_X11_277 rfl rfl rfl rfl rfl dX11_fails_14 (fun H locs (G : wd Z A s (mdW Z h ad (upd iv 11 (q + 1)) (ua av 33 (upd (av 33) wn 0))) H locs) => ?_)
  refine lv_iload_n hx hb dX11_fails_17 rfl (lv_at hl 2 rfl) ?_
  refine lv_ineg hx hb dX11_fails_18 ?_
  exact kr_i C G ⟨rfl, rfl⟩ (Nat.le_of_ble_eq_true rfl) (Nat.le_of_ble_eq_true rfl) dX11_fails_19
set_option maxRecDepth 100000 in
set_option maxHeartbeats 4000000 in
theorem c_crashInM (Z : zT) (l : Launch) (h : Nat) (ad : Nat → Nat) (iv : ivT) (av : avT) (wn : Nat) (aw : Int32) (hwn : wn < 4) (h33 : av 33 wn = aw) : Ki Z l yX11_crash cX11_crash 2 (some .boolean) ({ frames := 1, cells := 0, slots := 0, locals := 30 }) [.ref h, .int (nI wn)] (mdW Z h ad iv av) (fun r u => (¬ aw = 0 ∧ r = 1 ∧ u = mdW Z h ad iv (ua av 33 (upd (av 33) wn 0))) ∨ (aw = 0 ∧ r = 0 ∧ u = mdW Z h ad iv av)) := by
  intro sz
  refine Met.ofK (cc := cX11_crash) (maxL := 2) (ret := (some .boolean)) (by decide) (Nat.le_of_ble_eq_true rfl) ?_
  intro p e s m below meth c ls C G hl
  generalize va_A _ sz = A at G ⊢
  have hx := C.1
  have hb := C.2.1
  have hown := C.2.2.2.2.2.1
  have hts := C.2.2.2.2.2.2.1
  refine lv_iload_n hx hb dX11_crash_0 rfl (lv_at hl 1 rfl) ?_
  refine kcM_i G (krS 1 rfl (As := [.int (nI wn)]) (rest := []) C G pmN (c_X11_isWriter Z l h ad iv av (nI wn) _) (gdS ml_X11_266 sm_X11_isWriter ii_X11 co_X11_isWriter) (by decide +kernel) ⟨Nat.le_of_ble_eq_true rfl, Nat.le_of_ble_eq_true rfl⟩ hl rfl (Nat.le_of_ble_eq_true rfl) ⟨Nat.le_of_ble_eq_true rfl, Nat.le_of_ble_eq_true rfl⟩ dX11_crash_1) (fun r_1 u H locs hu G => ?_)
  obtain ⟨r_1_e, rfl⟩ := hu
  rw [isW_n hwn] at r_1_e
  subst r_1_e
  refine lv_if_eq (tgt := 16) hx hb dX11_crash_4 (by decide) (fun c_4 => ?_) (fun c_4 => ?_)
  · exact absurd c_4 (by decide)
  · have n_4 := nb_ne (a := 1) (b := 0) c_4 (by omega) (by omega)
    refine lv_aload_n hx hb dX11_crash_7 rfl (lv_at hl 0 rfl) ?_
    refine k_mga C G 33 (by decide) mr_33 fl_X11_65 rfl dX11_crash_8 ?_
    refine lv_iload_n hx hb dX11_crash_11 rfl (lv_at hl 1 rfl) ?_
    refine k_mzl (v := aw) (i := wn) C G 15 (k := 33) (n := 4) mp_33 (by decide) (by omega) h33 dX11_crash_12 ?_
    refine lv_if_ne (tgt := 18) hx hb dX11_crash_13 (by decide) (fun c_13 => ?_) (fun c_13 => ?_)
    · refine lv_aload_n hx hb dX11_crash_18 rfl (lv_at hl 0 rfl) ?_
      refine k_mga C G 33 (by decide) mr_33 fl_X11_65 rfl dX11_crash_19 ?_
      refine lv_iload_n hx hb dX11_crash_22 rfl (lv_at hl 1 rfl) ?_
      refine lv_iconst (v := 0) hx hb dX11_crash_23 (by decide) ?_
      refine k_mzs (x := 0) (i := wn) C G 15 (k := 33) (n := 4) mp_33 (by decide) (by omega) (by decide) dX11_crash_24 (fun H locs (G : wd Z A s (mdW Z h ad iv (ua av 33 (upd (av 33) wn 0))) H locs) => ?_)
      refine lv_iconst (v := 1) hx hb dX11_crash_25 (by decide) ?_
      exact kr_z C G (by decide) (Or.inl ⟨c_13, rfl, rfl⟩) (Nat.le_of_ble_eq_true rfl) (Nat.le_of_ble_eq_true rfl) dX11_crash_26
    · refine lv_iconst (v := 0) hx hb dX11_crash_16 (by decide) ?_
      exact kr_z C G (by decide) (Or.inr ⟨c_13, rfl, rfl⟩) (Nat.le_of_ble_eq_true rfl) (Nat.le_of_ble_eq_true rfl) dX11_crash_17
set_option maxRecDepth 100000 in
set_option maxHeartbeats 4000000 in
theorem c_crashOutM (Z : zT) (l : Launch) (h : Nat) (ad : Nat → Nat) (iv : ivT) (av : avT) (x : Int32) (hx4 : ¬ (0 ≤ x ∧ x < 4)) : Ki Z l yX11_crash cX11_crash 2 (some .boolean) ({ frames := 1, cells := 0, slots := 0, locals := 30 }) [.ref h, .int x] (mdW Z h ad iv av) (fun r u => r = 0 ∧ u = mdW Z h ad iv av) := by
  intro sz
  refine Met.ofK (cc := cX11_crash) (maxL := 2) (ret := (some .boolean)) (by decide) (Nat.le_of_ble_eq_true rfl) ?_
  intro p e s m below meth c ls C G hl
  generalize va_A _ sz = A at G ⊢
  have hx := C.1
  have hb := C.2.1
  have hown := C.2.2.2.2.2.1
  have hts := C.2.2.2.2.2.2.1
  refine lv_iload_n hx hb dX11_crash_0 rfl (lv_at hl 1 rfl) ?_
  refine kcM_i G (krS 1 rfl (As := [.int x]) (rest := []) C G pmN (c_X11_isWriter Z l h ad iv av x _) (gdS ml_X11_266 sm_X11_isWriter ii_X11 co_X11_isWriter) (by decide +kernel) ⟨Nat.le_of_ble_eq_true rfl, Nat.le_of_ble_eq_true rfl⟩ hl rfl (Nat.le_of_ble_eq_true rfl) ⟨Nat.le_of_ble_eq_true rfl, Nat.le_of_ble_eq_true rfl⟩ dX11_crash_1) (fun r_1 u H locs hu G => ?_)
  obtain ⟨r_1_e, rfl⟩ := hu
  rw [isW_0 hx4] at r_1_e
  subst r_1_e
  refine lv_if_eq (tgt := 16) hx hb dX11_crash_4 (by decide) (fun c_4 => ?_) (fun c_4 => ?_)
  · have n_4 := nb_eq (a := 0) (b := 0) c_4 (by omega) (by omega)
    refine lv_iconst (v := 0) hx hb dX11_crash_16 (by decide) ?_
    exact kr_z C G (by decide) ⟨rfl, rfl⟩ (Nat.le_of_ble_eq_true rfl) (Nat.le_of_ble_eq_true rfl) dX11_crash_17
  · exact absurd c_4 (by decide)
def soF (v how n : Int32) : Int32 := if v = -2147483648 then 0 else if how = 0 then (if v < n then 1 else 0) else if how = 1 then (if n ≤ v then 1 else 0) else (if v = n then 1 else 0)
set_option maxRecDepth 100000 in
set_option maxHeartbeats 4000000 in
theorem c_X11_isSo (Z : zT) (l : Launch) (h : Nat) (ad : Nat → Nat) (iv : ivT) (av : avT) (v how n : Int32) : Ki Z l yX11_isSo cX11_isSo 3 (some .boolean) ({ frames := 0, cells := 0, slots := 0, locals := 0 }) [.int v, .int how, .int n] (mdW Z h ad iv av) (fun r u => r = soF v how n ∧ u = mdW Z h ad iv av) := by
  intro sz
  refine Met.ofK (cc := cX11_isSo) (maxL := 3) (ret := (some .boolean)) (by decide) (Nat.le_of_ble_eq_true rfl) ?_
  intro p e s m below meth c ls C G hl
  generalize va_A _ sz = A at G ⊢
  have hx := C.1
  have hb := C.2.1
  have hown := C.2.2.2.2.2.1
  have hts := C.2.2.2.2.2.2.1
  refine lv_iload_n hx hb dX11_isSo_0 rfl (lv_at hl 0 rfl) ?_
  refine lv_ldc (v := (-2147483648)) hx hb hown (hts _ kn_X11_206) dX11_isSo_1 ?_
  refine lv_icmp_eq (tgt := 40) hx hb dX11_isSo_3 (by decide) (fun c_3 => ?_) (fun c_3 => ?_)
  · refine lv_iconst (v := 0) hx hb dX11_isSo_40 (by decide) ?_
    exact kr_z C G (by decide) ⟨by unfold soF; rw [if_pos c_3], rfl⟩ (Nat.le_of_ble_eq_true rfl) (Nat.le_of_ble_eq_true rfl) dX11_isSo_41
  · refine lv_iload_n hx hb dX11_isSo_6 rfl (lv_at hl 1 rfl) ?_
    refine lv_if_ne (tgt := 18) hx hb dX11_isSo_7 (by decide) (fun c_7 => ?_) (fun c_7 => ?_)
    · refine lv_iload_n hx hb dX11_isSo_18 rfl (lv_at hl 1 rfl) ?_
      refine lv_iconst (v := 1) hx hb dX11_isSo_19 (by decide) ?_
      refine lv_icmp_ne (tgt := 31) hx hb dX11_isSo_20 (by decide) (fun c_20 => ?_) (fun c_20 => ?_)
      · refine lv_iload_n hx hb dX11_isSo_31 rfl (lv_at hl 0 rfl) ?_
        refine lv_iload_n hx hb dX11_isSo_32 rfl (lv_at hl 2 rfl) ?_
        refine lv_icmp_ne (tgt := 40) hx hb dX11_isSo_33 (by decide) (fun c_33 => ?_) (fun c_33 => ?_)
        · refine lv_iconst (v := 0) hx hb dX11_isSo_40 (by decide) ?_
          exact kr_z C G (by decide) ⟨by unfold soF; rw [if_neg c_3, if_neg c_7, if_neg c_20, if_neg c_33], rfl⟩ (Nat.le_of_ble_eq_true rfl) (Nat.le_of_ble_eq_true rfl) dX11_isSo_41
        · refine lv_iconst (v := 1) hx hb dX11_isSo_36 (by decide) ?_
          refine lv_goto (tgt := 41) hx hb dX11_isSo_37 (by decide) ?_
          exact kr_z C G (by decide) ⟨by unfold soF; rw [if_neg c_3, if_neg c_7, if_neg c_20, if_pos c_33], rfl⟩ (Nat.le_of_ble_eq_true rfl) (Nat.le_of_ble_eq_true rfl) dX11_isSo_41
      · refine lv_iload_n hx hb dX11_isSo_23 rfl (lv_at hl 0 rfl) ?_
        refine lv_iload_n hx hb dX11_isSo_24 rfl (lv_at hl 2 rfl) ?_
        refine lv_icmp_lt (tgt := 40) hx hb dX11_isSo_25 (by decide) (fun c_25 => ?_) (fun c_25 => ?_)
        · refine lv_iconst (v := 0) hx hb dX11_isSo_40 (by decide) ?_
          exact kr_z C G (by decide) ⟨by unfold soF; rw [if_neg c_3, if_neg c_7, if_pos c_20, if_neg (Int32.not_le.mpr c_25)], rfl⟩ (Nat.le_of_ble_eq_true rfl) (Nat.le_of_ble_eq_true rfl) dX11_isSo_41
        · refine lv_goto (tgt := 36) hx hb dX11_isSo_28 (by decide) ?_
          refine lv_iconst (v := 1) hx hb dX11_isSo_36 (by decide) ?_
          refine lv_goto (tgt := 41) hx hb dX11_isSo_37 (by decide) ?_
          exact kr_z C G (by decide) ⟨by unfold soF; rw [if_neg c_3, if_neg c_7, if_pos c_20, if_pos (Int32.not_lt.mp c_25)], rfl⟩ (Nat.le_of_ble_eq_true rfl) (Nat.le_of_ble_eq_true rfl) dX11_isSo_41
    · refine lv_iload_n hx hb dX11_isSo_10 rfl (lv_at hl 0 rfl) ?_
      refine lv_iload_n hx hb dX11_isSo_11 rfl (lv_at hl 2 rfl) ?_
      refine lv_icmp_ge (tgt := 40) hx hb dX11_isSo_12 (by decide) (fun c_12 => ?_) (fun c_12 => ?_)
      · refine lv_iconst (v := 0) hx hb dX11_isSo_40 (by decide) ?_
        exact kr_z C G (by decide) ⟨by unfold soF; rw [if_neg c_3, if_pos c_7, if_neg (Int32.not_lt.mpr c_12)], rfl⟩ (Nat.le_of_ble_eq_true rfl) (Nat.le_of_ble_eq_true rfl) dX11_isSo_41
      · refine lv_goto (tgt := 36) hx hb dX11_isSo_15 (by decide) ?_
        refine lv_iconst (v := 1) hx hb dX11_isSo_36 (by decide) ?_
        refine lv_goto (tgt := 41) hx hb dX11_isSo_37 (by decide) ?_
        exact kr_z C G (by decide) ⟨by unfold soF; rw [if_neg c_3, if_pos c_7, if_pos (Int32.not_le.mp c_12)], rfl⟩ (Nat.le_of_ble_eq_true rfl) (Nat.le_of_ble_eq_true rfl) dX11_isSo_41
def mhM (hb le gr how n : Int32) : Int32 := if hb = 0 then 0 else if how = 0 then (if le < n then 1 else 0) else if how = 1 then (if n ≤ gr then 1 else 0) else (if le ≤ n ∧ n ≤ gr then 1 else 0)
set_option maxRecDepth 100000 in
set_option maxHeartbeats 4000000 in
theorem c_X11_mayHave (Z : zT) (l : Launch) (h : Nat) (ad : Nat → Nat) (iv : ivT) (av : avT) (c0 : Nat) (how n hb0 le gr : Int32) (hc : c0 < 3) (h22 : av 22 c0 = hb0) (h23 : av 23 c0 = le) (h24 : av 24 c0 = gr) : Ki Z l yX11_mayHave cX11_mayHave 4 (some .boolean) ({ frames := 0, cells := 0, slots := 0, locals := 0 }) [.ref h, .int (nI c0), .int how, .int n] (mdW Z h ad iv av) (fun r u => r = mhM hb0 le gr how n ∧ u = mdW Z h ad iv av) := by
  intro sz
  refine Met.ofK (cc := cX11_mayHave) (maxL := 4) (ret := (some .boolean)) (by decide) (Nat.le_of_ble_eq_true rfl) ?_
  intro p e s m below meth c ls C G hl
  generalize va_A _ sz = A at G ⊢
  have hx := C.1
  have hb := C.2.1
  have hown := C.2.2.2.2.2.1
  have hts := C.2.2.2.2.2.2.1
  refine lv_aload_n hx hb dX11_mayHave_0 rfl (lv_at hl 0 rfl) ?_
  refine k_mga C G 22 (by decide) mr_22 fl_X11_37 rfl dX11_mayHave_1 ?_
  refine lv_iload_n hx hb dX11_mayHave_4 rfl (lv_at hl 1 rfl) ?_
  refine k_mzl (v := hb0) (i := c0) C G 6 (k := 22) (n := 3) mp_22 (by decide) (by omega) h22 dX11_mayHave_5 ?_
  refine lv_if_eq (tgt := 68) hx hb dX11_mayHave_6 (by decide) (fun c_6 => ?_) (fun c_6 => ?_)
  · refine lv_iconst (v := 0) hx hb dX11_mayHave_68 (by decide) ?_
    exact kr_z C G (by decide) ⟨by unfold mhM; rw [if_pos c_6], rfl⟩ (Nat.le_of_ble_eq_true rfl) (Nat.le_of_ble_eq_true rfl) dX11_mayHave_69
  · refine lv_iload_n hx hb dX11_mayHave_9 rfl (lv_at hl 2 rfl) ?_
    refine lv_if_ne (tgt := 26) hx hb dX11_mayHave_10 (by decide) (fun c_10 => ?_) (fun c_10 => ?_)
    · refine lv_iload_n hx hb dX11_mayHave_26 rfl (lv_at hl 2 rfl) ?_
      refine lv_iconst (v := 1) hx hb dX11_mayHave_27 (by decide) ?_
      refine lv_icmp_ne (tgt := 44) hx hb dX11_mayHave_28 (by decide) (fun c_28 => ?_) (fun c_28 => ?_)
      · refine lv_aload_n hx hb dX11_mayHave_44 rfl (lv_at hl 0 rfl) ?_
        refine k_mga C G 23 (by decide) mr_23 fl_X11_41 rfl dX11_mayHave_45 ?_
        refine lv_iload_n hx hb dX11_mayHave_48 rfl (lv_at hl 1 rfl) ?_
        refine k_mil (v := le) (i := c0) C G 7 (k := 23) (n := 3) mp_23 (by decide) (by omega) h23 dX11_mayHave_49 ?_
        refine lv_iload_n hx hb dX11_mayHave_50 rfl (lv_at hl 3 rfl) ?_
        refine lv_icmp_gt (tgt := 68) hx hb dX11_mayHave_51 (by decide) (fun c_51 => ?_) (fun c_51 => ?_)
        · refine lv_iconst (v := 0) hx hb dX11_mayHave_68 (by decide) ?_
          exact kr_z C G (by decide) ⟨by unfold mhM; rw [if_neg c_6, if_neg c_10, if_neg c_28, if_neg (fun z => absurd z.1 (Int32.not_le.mpr c_51))], rfl⟩ (Nat.le_of_ble_eq_true rfl) (Nat.le_of_ble_eq_true rfl) dX11_mayHave_69
        · refine lv_iload_n hx hb dX11_mayHave_54 rfl (lv_at hl 3 rfl) ?_
          refine lv_aload_n hx hb dX11_mayHave_55 rfl (lv_at hl 0 rfl) ?_
          refine k_mga C G 24 (by decide) mr_24 fl_X11_44 rfl dX11_mayHave_56 ?_
          refine lv_iload_n hx hb dX11_mayHave_59 rfl (lv_at hl 1 rfl) ?_
          refine k_mil (v := gr) (i := c0) C G 8 (k := 24) (n := 3) mp_24 (by decide) (by omega) h24 dX11_mayHave_60 ?_
          refine lv_icmp_gt (tgt := 68) hx hb dX11_mayHave_61 (by decide) (fun c_61 => ?_) (fun c_61 => ?_)
          · refine lv_iconst (v := 0) hx hb dX11_mayHave_68 (by decide) ?_
            exact kr_z C G (by decide) ⟨by unfold mhM; rw [if_neg c_6, if_neg c_10, if_neg c_28, if_neg (fun z => absurd z.2 (Int32.not_le.mpr c_61))], rfl⟩ (Nat.le_of_ble_eq_true rfl) (Nat.le_of_ble_eq_true rfl) dX11_mayHave_69
          · refine lv_iconst (v := 1) hx hb dX11_mayHave_64 (by decide) ?_
            refine lv_goto (tgt := 69) hx hb dX11_mayHave_65 (by decide) ?_
            exact kr_z C G (by decide) ⟨by unfold mhM; rw [if_neg c_6, if_neg c_10, if_neg c_28, if_pos ⟨Int32.not_lt.mp c_51, Int32.not_lt.mp c_61⟩], rfl⟩ (Nat.le_of_ble_eq_true rfl) (Nat.le_of_ble_eq_true rfl) dX11_mayHave_69
      · refine lv_aload_n hx hb dX11_mayHave_31 rfl (lv_at hl 0 rfl) ?_
        refine k_mga C G 24 (by decide) mr_24 fl_X11_44 rfl dX11_mayHave_32 ?_
        refine lv_iload_n hx hb dX11_mayHave_35 rfl (lv_at hl 1 rfl) ?_
        refine k_mil (v := gr) (i := c0) C G 8 (k := 24) (n := 3) mp_24 (by decide) (by omega) h24 dX11_mayHave_36 ?_
        refine lv_iload_n hx hb dX11_mayHave_37 rfl (lv_at hl 3 rfl) ?_
        refine lv_icmp_lt (tgt := 68) hx hb dX11_mayHave_38 (by decide) (fun c_38 => ?_) (fun c_38 => ?_)
        · refine lv_iconst (v := 0) hx hb dX11_mayHave_68 (by decide) ?_
          exact kr_z C G (by decide) ⟨by unfold mhM; rw [if_neg c_6, if_neg c_10, if_pos c_28, if_neg (Int32.not_le.mpr c_38)], rfl⟩ (Nat.le_of_ble_eq_true rfl) (Nat.le_of_ble_eq_true rfl) dX11_mayHave_69
        · refine lv_goto (tgt := 64) hx hb dX11_mayHave_41 (by decide) ?_
          refine lv_iconst (v := 1) hx hb dX11_mayHave_64 (by decide) ?_
          refine lv_goto (tgt := 69) hx hb dX11_mayHave_65 (by decide) ?_
          exact kr_z C G (by decide) ⟨by unfold mhM; rw [if_neg c_6, if_neg c_10, if_pos c_28, if_pos (Int32.not_lt.mp c_38)], rfl⟩ (Nat.le_of_ble_eq_true rfl) (Nat.le_of_ble_eq_true rfl) dX11_mayHave_69
    · refine lv_aload_n hx hb dX11_mayHave_13 rfl (lv_at hl 0 rfl) ?_
      refine k_mga C G 23 (by decide) mr_23 fl_X11_41 rfl dX11_mayHave_14 ?_
      refine lv_iload_n hx hb dX11_mayHave_17 rfl (lv_at hl 1 rfl) ?_
      refine k_mil (v := le) (i := c0) C G 7 (k := 23) (n := 3) mp_23 (by decide) (by omega) h23 dX11_mayHave_18 ?_
      refine lv_iload_n hx hb dX11_mayHave_19 rfl (lv_at hl 3 rfl) ?_
      refine lv_icmp_ge (tgt := 68) hx hb dX11_mayHave_20 (by decide) (fun c_20 => ?_) (fun c_20 => ?_)
      · refine lv_iconst (v := 0) hx hb dX11_mayHave_68 (by decide) ?_
        exact kr_z C G (by decide) ⟨by unfold mhM; rw [if_neg c_6, if_pos c_10, if_neg (Int32.not_lt.mpr c_20)], rfl⟩ (Nat.le_of_ble_eq_true rfl) (Nat.le_of_ble_eq_true rfl) dX11_mayHave_69
      · refine lv_goto (tgt := 64) hx hb dX11_mayHave_23 (by decide) ?_
        refine lv_iconst (v := 1) hx hb dX11_mayHave_64 (by decide) ?_
        refine lv_goto (tgt := 69) hx hb dX11_mayHave_65 (by decide) ?_
        exact kr_z C G (by decide) ⟨by unfold mhM; rw [if_neg c_6, if_pos c_10, if_pos (Int32.not_le.mp c_20)], rfl⟩ (Nat.le_of_ble_eq_true rfl) (Nat.le_of_ble_eq_true rfl) dX11_mayHave_69
set_option maxRecDepth 100000 in
set_option maxHeartbeats 4000000 in
theorem c_X11_found (Z : zT) (l : Launch) (h : Nat) (ad : Nat → Nat) (iv : ivT) (av : avT) (x : Int32) : Ki Z l yX11_found cX11_found 2 (some .int) ({ frames := 0, cells := 0, slots := 0, locals := 0 }) [.ref h, .int x] (mdW Z h ad iv av) (fun r u => r = (if 0 ≤ x ∧ x ≤ 3 then av 60 x.toNatClampNeg else -1) ∧ u = mdW Z h ad iv av) := by
  intro sz
  refine Met.ofK (cc := cX11_found) (maxL := 2) (ret := (some .int)) (by decide) (Nat.le_of_ble_eq_true rfl) ?_
  intro p e s m below meth c ls C G hl
  generalize va_A _ sz = A at G ⊢
  have hx := C.1
  have hb := C.2.1
  have hown := C.2.2.2.2.2.1
  have hts := C.2.2.2.2.2.2.1
  refine lv_iload_n hx hb dX11_found_0 rfl (lv_at hl 1 rfl) ?_
  refine lv_if_lt (tgt := 18) hx hb dX11_found_1 (by decide) (fun c_1 => ?_) (fun c_1 => ?_)
  · refine lv_iconst (v := (-1)) hx hb dX11_found_18 (by decide) ?_
    exact kr_i C G ⟨by rw [if_neg (fun z => absurd c_1 (Int32.not_lt.mpr z.1))], rfl⟩ (Nat.le_of_ble_eq_true rfl) (Nat.le_of_ble_eq_true rfl) dX11_found_19
  · refine lv_iload_n hx hb dX11_found_4 rfl (lv_at hl 1 rfl) ?_
    refine lv_iconst (v := 3) hx hb dX11_found_5 (by decide) ?_
    refine lv_icmp_gt (tgt := 18) hx hb dX11_found_6 (by decide) (fun c_6 => ?_) (fun c_6 => ?_)
    · refine lv_iconst (v := (-1)) hx hb dX11_found_18 (by decide) ?_
      exact kr_i C G ⟨by rw [if_neg (fun z => absurd c_6 (Int32.not_lt.mpr z.2))], rfl⟩ (Nat.le_of_ble_eq_true rfl) (Nat.le_of_ble_eq_true rfl) dX11_found_19
    · obtain ⟨xn, hx31, hxn⟩ := nI_of c_1
      have hx3 : xn ≤ 3 := nb_nlt (a := 3) (b := xn) (by rw [← hxn]; exact c_6) (by omega) hx31
      refine lv_aload_n hx hb dX11_found_9 rfl (lv_at hl 0 rfl) ?_
      refine k_mga C G 60 (by decide) mr_60 fl_X11_147 rfl dX11_found_10 ?_
      refine lv_iload_n hx hb dX11_found_13 rfl (lv_at hl 1 rfl) ?_
      refine k_topi (y := nI xn) hxn ?_
      refine k_mil (v := (av 60) xn) (i := xn) C G 42 (k := 60) (n := 4) mp_60 (by decide) (by omega) rfl dX11_found_14 ?_
      refine lv_goto (tgt := 19) hx hb dX11_found_15 (by decide) ?_
      exact kr_i C G ⟨by rw [if_pos ⟨Int32.not_lt.mp c_1, Int32.not_lt.mp c_6⟩, hxn, nI_clamp (by omega)], rfl⟩ (Nat.le_of_ble_eq_true rfl) (Nat.le_of_ble_eq_true rfl) dX11_found_19
