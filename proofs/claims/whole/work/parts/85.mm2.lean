/-! MODEL (X11): u, ends, whole, isBelow, bytesOf, varint. -/
set_option maxRecDepth 100000 in
set_option maxHeartbeats 4000000 in
theorem c_mu1 (Z : zT) (l : Launch) (h : Nat) (ad : Nat → Nat) (iv : ivT) (av : avT) (bs : List Int8) (x : Int32) (hm : mk_at iv av bs) (hL : bs.length + 1 ≤ 1500) : Kv Z l yX11_u cX11_u 5 none ({ frames := 0, cells := 0, slots := 0, locals := 0 }) [.ref h, .long x.toInt64, .int 1] (mdW Z h ad iv av) (fun u => ∃ iv2 av2, u = mdW Z h ad iv2 av2 ∧ mk_at iv2 av2 (bs ++ [x.toInt8]) ∧ sI [15] iv iv2 ∧ sA [14] av av2) := by
  intro sz
  refine Met.ofK (cc := cX11_u) (maxL := 5) (ret := none) (by decide) (Nat.le_of_ble_eq_true rfl) ?_
  intro p e s m below meth c ls C G hl
  generalize va_A _ sz = A at G ⊢
  have hx := C.1
  have hb := C.2.1
  have hown := C.2.2.2.2.2.1
  have hts := C.2.2.2.2.2.2.1
  refine lv_bipush (v := 8) hx hb dX11_u_0 (by decide) ?_
  refine lv_iload_n hx hb dX11_u_2 rfl (lv_at hl 2 rfl) ?_
  refine lv_imul hx hb dX11_u_3 ?_
  refine k_topi (y := 8) (by decide) ?_
  refine lv_bipush (v := 8) hx hb dX11_u_4 (by decide) ?_
  refine lv_isub hx hb dX11_u_6 ?_
  refine k_topi (y := 0) (by decide) ?_
  refine lv_istore (lv' := [(4, .int 0), (0, .ref h), (1, .long x.toInt64), (3, .int 1)]) hx hb dX11_u_7 hl (by decide) rfl (fun ls hl => ?_)
  refine lv_iload hx hb dX11_u_9 (lv_at hl 0 rfl) ?_
  refine lv_if_lt (tgt := 45) hx hb dX11_u_11 (by decide) (fun c_11 => ?_) (fun c_11 => ?_)
  · exact absurd c_11 (by decide)
  · have n_11 := nb_nlt (a := 0) (b := 0) c_11 (by omega) (by omega)
    refine lv_aload_n hx hb dX11_u_14 rfl (lv_at hl 1 rfl) ?_
    refine k_mga C G 14 (by decide) mr_14 fl_X11_31 rfl dX11_u_15 ?_
    refine lv_aload_n hx hb dX11_u_18 rfl (lv_at hl 1 rfl) ?_
    refine k_mgi (v := nI bs.length) C G 15 (by decide) mr_15 hm.1 fl_X11_153 rfl dX11_u_19 ?_
    refine lv_lload_n hx hb dX11_u_22 rfl (lv_at hl 2 rfl) ?_
    refine lv_iload hx hb dX11_u_23 (lv_at hl 0 rfl) ?_
    refine lv_lshr (v := x.toInt64 >>> ((0 : Int32).toInt64 &&& 63)) hx hb dX11_u_25 rfl ?_
    refine lv_l2i (v := (x.toInt64 >>> ((0 : Int32).toInt64 &&& 63)).toInt32) hx hb dX11_u_26 rfl ?_
    refine lv_i2b (v := ((x.toInt64 >>> ((0 : Int32).toInt64 &&& 63)).toInt32).toInt8.toInt32) hx hb dX11_u_27 rfl ?_
    refine k_topi (y := x.toInt8.toInt32) (congrArg Int8.toInt32 (sh_l0 x)) ?_
    refine k_mbs (x := x.toInt8.toInt32) (i := bs.length) C G 4 (k := 14) (n := 1500) mp_14 (by decide) (by omega) (pk_vb _) dX11_u_28 (fun H locs (G : wd Z A s (mdW Z h ad iv (ua av 14 (upd (av 14) bs.length x.toInt8.toInt32))) H locs) => ?_)
    refine lv_aload_n hx hb dX11_u_29 rfl (lv_at hl 1 rfl) ?_
    refine lv_dup hx hb dX11_u_30 rfl ?_
    refine k_mgi (v := nI bs.length) C G 15 (by decide) mr_15 hm.1 fl_X11_153 rfl dX11_u_31 ?_
    refine lv_iconst (v := 1) hx hb dX11_u_34 (by decide) ?_
    refine lv_iadd hx hb dX11_u_35 ?_
    refine k_topi (y := nI (bs.length + 1)) (nI_add bs.length 1) ?_
    refine k_mpi (v := nI (bs.length + 1)) (ty := .int) C G 15 (by decide) mr_15 fl_X11_153 rfl rfl rfl rfl rfl dX11_u_36 (fun H locs (G : wd Z A s (mdW Z h ad (upd iv 15 (nI (bs.length + 1))) (ua av 14 (upd (av 14) bs.length x.toInt8.toInt32))) H locs) => ?_)
    refine lv_iinc (v := (-8)) (lv' := [(4, .int (-8)), (0, .ref h), (1, .long x.toInt64), (3, .int 1)]) hx hb dX11_u_39 hl (k := 0) rfl (by decide) (by decide) rfl (fun ls hl => ?_)
    refine lv_goto (tgt := 9) hx hb dX11_u_42 (by decide) ?_
    refine lv_iload hx hb dX11_u_9 (lv_at hl 0 rfl) ?_
    refine lv_if_lt (tgt := 45) hx hb dX11_u_11 (by decide) (fun c_11_1 => ?_) (fun c_11_1 => ?_)
    · exact kr_v C G ⟨_, _, rfl, ⟨by rw [List.length_append]; rfl, by_push hm.2 _⟩, (sI.rf.up (by decide) _), (sA.rf.up (by decide) _)⟩ (Nat.le_of_ble_eq_true rfl) (Nat.le_of_ble_eq_true rfl) dX11_u_45
    · exact absurd c_11_1 (by decide)
set_option maxRecDepth 100000 in
set_option maxHeartbeats 4000000 in
theorem c_mu4 (Z : zT) (l : Launch) (h : Nat) (ad : Nat → Nat) (iv : ivT) (av : avT) (bs : List Int8) (x : Int32) (hm : mk_at iv av bs) (hL : bs.length + 4 ≤ 1500) : Kv Z l yX11_u cX11_u 5 none ({ frames := 0, cells := 0, slots := 0, locals := 0 }) [.ref h, .long x.toInt64, .int 4] (mdW Z h ad iv av) (fun u => ∃ iv2 av2, u = mdW Z h ad iv2 av2 ∧ mk_at iv2 av2 (bs ++ u4b x) ∧ sI [15] iv iv2 ∧ sA [14] av av2) := by
  intro sz
  refine Met.ofK (cc := cX11_u) (maxL := 5) (ret := none) (by decide) (Nat.le_of_ble_eq_true rfl) ?_
  intro p e s m below meth c ls C G hl
  generalize va_A _ sz = A at G ⊢
  have hx := C.1
  have hb := C.2.1
  have hown := C.2.2.2.2.2.1
  have hts := C.2.2.2.2.2.2.1
  refine lv_bipush (v := 8) hx hb dX11_u_0 (by decide) ?_
  refine lv_iload_n hx hb dX11_u_2 rfl (lv_at hl 2 rfl) ?_
  refine lv_imul hx hb dX11_u_3 ?_
  refine k_topi (y := 32) (by decide) ?_
  refine lv_bipush (v := 8) hx hb dX11_u_4 (by decide) ?_
  refine lv_isub hx hb dX11_u_6 ?_
  refine k_topi (y := 24) (by decide) ?_
  refine lv_istore (lv' := [(4, .int 24), (0, .ref h), (1, .long x.toInt64), (3, .int 4)]) hx hb dX11_u_7 hl (by decide) rfl (fun ls hl => ?_)
  refine lv_iload hx hb dX11_u_9 (lv_at hl 0 rfl) ?_
  refine lv_if_lt (tgt := 45) hx hb dX11_u_11 (by decide) (fun c_11 => ?_) (fun c_11 => ?_)
  · exact absurd c_11 (by decide)
  · have n_11 := nb_nlt (a := 24) (b := 0) c_11 (by omega) (by omega)
    refine lv_aload_n hx hb dX11_u_14 rfl (lv_at hl 1 rfl) ?_
    refine k_mga C G 14 (by decide) mr_14 fl_X11_31 rfl dX11_u_15 ?_
    refine lv_aload_n hx hb dX11_u_18 rfl (lv_at hl 1 rfl) ?_
    refine k_mgi (v := nI bs.length) C G 15 (by decide) mr_15 hm.1 fl_X11_153 rfl dX11_u_19 ?_
    refine lv_lload_n hx hb dX11_u_22 rfl (lv_at hl 2 rfl) ?_
    refine lv_iload hx hb dX11_u_23 (lv_at hl 0 rfl) ?_
    refine lv_lshr (v := x.toInt64 >>> ((24 : Int32).toInt64 &&& 63)) hx hb dX11_u_25 rfl ?_
    refine lv_l2i (v := (x.toInt64 >>> ((24 : Int32).toInt64 &&& 63)).toInt32) hx hb dX11_u_26 rfl ?_
    refine lv_i2b (v := ((x.toInt64 >>> ((24 : Int32).toInt64 &&& 63)).toInt32).toInt8.toInt32) hx hb dX11_u_27 rfl ?_
    refine k_topi (y := (ush x 24).toInt8.toInt32) (congrArg Int8.toInt32 (sh_l24 x)) ?_
    refine k_mbs (x := (ush x 24).toInt8.toInt32) (i := bs.length) C G 4 (k := 14) (n := 1500) mp_14 (by decide) (by omega) (pk_vb _) dX11_u_28 (fun H locs (G : wd Z A s (mdW Z h ad iv (ua av 14 (upd (av 14) bs.length ((ush x 24).toInt8.toInt32)))) H locs) => ?_)
    refine lv_aload_n hx hb dX11_u_29 rfl (lv_at hl 1 rfl) ?_
    refine lv_dup hx hb dX11_u_30 rfl ?_
    refine k_mgi (v := nI bs.length) C G 15 (by decide) mr_15 hm.1 fl_X11_153 rfl dX11_u_31 ?_
    refine lv_iconst (v := 1) hx hb dX11_u_34 (by decide) ?_
    refine lv_iadd hx hb dX11_u_35 ?_
    refine k_topi (y := nI (bs.length + 1)) (nI_add bs.length 1) ?_
    refine k_mpi (v := nI (bs.length + 1)) (ty := .int) C G 15 (by decide) mr_15 fl_X11_153 rfl rfl rfl rfl rfl dX11_u_36 (fun H locs (G : wd Z A s (mdW Z h ad (upd iv 15 (nI (bs.length + 1))) (ua av 14 (upd (av 14) bs.length ((ush x 24).toInt8.toInt32)))) H locs) => ?_)
    refine lv_iinc (v := 16) (lv' := [(4, .int 16), (0, .ref h), (1, .long x.toInt64), (3, .int 4)]) hx hb dX11_u_39 hl (k := 0) rfl (by decide) (by decide) rfl (fun ls hl => ?_)
    refine lv_goto (tgt := 9) hx hb dX11_u_42 (by decide) ?_
    refine lv_iload hx hb dX11_u_9 (lv_at hl 0 rfl) ?_
    refine lv_if_lt (tgt := 45) hx hb dX11_u_11 (by decide) (fun c_11_1 => ?_) (fun c_11_1 => ?_)
    · exact absurd c_11_1 (by decide)
    · have n_11_1 := nb_nlt (a := 16) (b := 0) c_11_1 (by omega) (by omega)
      refine lv_aload_n hx hb dX11_u_14 rfl (lv_at hl 1 rfl) ?_
      refine k_mga C G 14 (by decide) mr_14 fl_X11_31 rfl dX11_u_15 ?_
      refine lv_aload_n hx hb dX11_u_18 rfl (lv_at hl 1 rfl) ?_
      refine k_mgi (v := nI (bs.length + 1)) C G 15 (by decide) mr_15 rfl fl_X11_153 rfl dX11_u_19 ?_
      refine lv_lload_n hx hb dX11_u_22 rfl (lv_at hl 2 rfl) ?_
      refine lv_iload hx hb dX11_u_23 (lv_at hl 0 rfl) ?_
      refine lv_lshr (v := x.toInt64 >>> ((16 : Int32).toInt64 &&& 63)) hx hb dX11_u_25 rfl ?_
      refine lv_l2i (v := (x.toInt64 >>> ((16 : Int32).toInt64 &&& 63)).toInt32) hx hb dX11_u_26 rfl ?_
      refine lv_i2b (v := ((x.toInt64 >>> ((16 : Int32).toInt64 &&& 63)).toInt32).toInt8.toInt32) hx hb dX11_u_27 rfl ?_
      refine k_topi (y := (ush x 16).toInt8.toInt32) (congrArg Int8.toInt32 (sh_l16 x)) ?_
      refine k_mbs (x := (ush x 16).toInt8.toInt32) (i := bs.length + 1) C G 4 (k := 14) (n := 1500) mp_14 (by decide) (by omega) (pk_vb _) dX11_u_28 (fun H locs (G : wd Z A s (mdW Z h ad (upd iv 15 (nI (bs.length + 1))) (ua (ua av 14 (upd (av 14) bs.length ((ush x 24).toInt8.toInt32))) 14 (upd (upd (av 14) bs.length ((ush x 24).toInt8.toInt32)) (bs.length + 1) ((ush x 16).toInt8.toInt32)))) H locs) => ?_)
      refine lv_aload_n hx hb dX11_u_29 rfl (lv_at hl 1 rfl) ?_
      refine lv_dup hx hb dX11_u_30 rfl ?_
      refine k_mgi (v := nI (bs.length + 1)) C G 15 (by decide) mr_15 rfl fl_X11_153 rfl dX11_u_31 ?_
      refine lv_iconst (v := 1) hx hb dX11_u_34 (by decide) ?_
      refine lv_iadd hx hb dX11_u_35 ?_
      refine k_topi (y := nI (bs.length + 1 + 1)) (nI_add (bs.length + 1) 1) ?_
      refine k_mpi (v := nI (bs.length + 1 + 1)) (ty := .int) C G 15 (by decide) mr_15 fl_X11_153 rfl rfl rfl rfl rfl dX11_u_36 (fun H locs (G : wd Z A s (mdW Z h ad (upd (upd iv 15 (nI (bs.length + 1))) 15 (nI (bs.length + 1 + 1))) (ua (ua av 14 (upd (av 14) bs.length ((ush x 24).toInt8.toInt32))) 14 (upd (upd (av 14) bs.length ((ush x 24).toInt8.toInt32)) (bs.length + 1) ((ush x 16).toInt8.toInt32)))) H locs) => ?_)
      refine lv_iinc (v := 8) (lv' := [(4, .int 8), (0, .ref h), (1, .long x.toInt64), (3, .int 4)]) hx hb dX11_u_39 hl (k := 0) rfl (by decide) (by decide) rfl (fun ls hl => ?_)
      refine lv_goto (tgt := 9) hx hb dX11_u_42 (by decide) ?_
      refine lv_iload hx hb dX11_u_9 (lv_at hl 0 rfl) ?_
      refine lv_if_lt (tgt := 45) hx hb dX11_u_11 (by decide) (fun c_11_2 => ?_) (fun c_11_2 => ?_)
      · exact absurd c_11_2 (by decide)
      · have n_11_2 := nb_nlt (a := 8) (b := 0) c_11_2 (by omega) (by omega)
        refine lv_aload_n hx hb dX11_u_14 rfl (lv_at hl 1 rfl) ?_
        refine k_mga C G 14 (by decide) mr_14 fl_X11_31 rfl dX11_u_15 ?_
        refine lv_aload_n hx hb dX11_u_18 rfl (lv_at hl 1 rfl) ?_
        refine k_mgi (v := nI (bs.length + 1 + 1)) C G 15 (by decide) mr_15 rfl fl_X11_153 rfl dX11_u_19 ?_
        refine lv_lload_n hx hb dX11_u_22 rfl (lv_at hl 2 rfl) ?_
        refine lv_iload hx hb dX11_u_23 (lv_at hl 0 rfl) ?_
        refine lv_lshr (v := x.toInt64 >>> ((8 : Int32).toInt64 &&& 63)) hx hb dX11_u_25 rfl ?_
        refine lv_l2i (v := (x.toInt64 >>> ((8 : Int32).toInt64 &&& 63)).toInt32) hx hb dX11_u_26 rfl ?_
        refine lv_i2b (v := ((x.toInt64 >>> ((8 : Int32).toInt64 &&& 63)).toInt32).toInt8.toInt32) hx hb dX11_u_27 rfl ?_
        refine k_topi (y := (ush x 8).toInt8.toInt32) (congrArg Int8.toInt32 (sh_l8 x)) ?_
        refine k_mbs (x := (ush x 8).toInt8.toInt32) (i := bs.length + 1 + 1) C G 4 (k := 14) (n := 1500) mp_14 (by decide) (by omega) (pk_vb _) dX11_u_28 (fun H locs (G : wd Z A s (mdW Z h ad (upd (upd iv 15 (nI (bs.length + 1))) 15 (nI (bs.length + 1 + 1))) (ua (ua (ua av 14 (upd (av 14) bs.length ((ush x 24).toInt8.toInt32))) 14 (upd (upd (av 14) bs.length ((ush x 24).toInt8.toInt32)) (bs.length + 1) ((ush x 16).toInt8.toInt32))) 14 (upd (upd (upd (av 14) bs.length ((ush x 24).toInt8.toInt32)) (bs.length + 1) ((ush x 16).toInt8.toInt32)) (bs.length + 1 + 1) ((ush x 8).toInt8.toInt32)))) H locs) => ?_)
        refine lv_aload_n hx hb dX11_u_29 rfl (lv_at hl 1 rfl) ?_
        refine lv_dup hx hb dX11_u_30 rfl ?_
        refine k_mgi (v := nI (bs.length + 1 + 1)) C G 15 (by decide) mr_15 rfl fl_X11_153 rfl dX11_u_31 ?_
        refine lv_iconst (v := 1) hx hb dX11_u_34 (by decide) ?_
        refine lv_iadd hx hb dX11_u_35 ?_
        refine k_topi (y := nI (bs.length + 1 + 1 + 1)) (nI_add (bs.length + 1 + 1) 1) ?_
        refine k_mpi (v := nI (bs.length + 1 + 1 + 1)) (ty := .int) C G 15 (by decide) mr_15 fl_X11_153 rfl rfl rfl rfl rfl dX11_u_36 (fun H locs (G : wd Z A s (mdW Z h ad (upd (upd (upd iv 15 (nI (bs.length + 1))) 15 (nI (bs.length + 1 + 1))) 15 (nI (bs.length + 1 + 1 + 1))) (ua (ua (ua av 14 (upd (av 14) bs.length ((ush x 24).toInt8.toInt32))) 14 (upd (upd (av 14) bs.length ((ush x 24).toInt8.toInt32)) (bs.length + 1) ((ush x 16).toInt8.toInt32))) 14 (upd (upd (upd (av 14) bs.length ((ush x 24).toInt8.toInt32)) (bs.length + 1) ((ush x 16).toInt8.toInt32)) (bs.length + 1 + 1) ((ush x 8).toInt8.toInt32)))) H locs) => ?_)
        refine lv_iinc (v := 0) (lv' := [(4, .int 0), (0, .ref h), (1, .long x.toInt64), (3, .int 4)]) hx hb dX11_u_39 hl (k := 0) rfl (by decide) (by decide) rfl (fun ls hl => ?_)
        refine lv_goto (tgt := 9) hx hb dX11_u_42 (by decide) ?_
        refine lv_iload hx hb dX11_u_9 (lv_at hl 0 rfl) ?_
        refine lv_if_lt (tgt := 45) hx hb dX11_u_11 (by decide) (fun c_11_3 => ?_) (fun c_11_3 => ?_)
        · exact absurd c_11_3 (by decide)
        · have n_11_3 := nb_nlt (a := 0) (b := 0) c_11_3 (by omega) (by omega)
          refine lv_aload_n hx hb dX11_u_14 rfl (lv_at hl 1 rfl) ?_
          refine k_mga C G 14 (by decide) mr_14 fl_X11_31 rfl dX11_u_15 ?_
          refine lv_aload_n hx hb dX11_u_18 rfl (lv_at hl 1 rfl) ?_
          refine k_mgi (v := nI (bs.length + 1 + 1 + 1)) C G 15 (by decide) mr_15 rfl fl_X11_153 rfl dX11_u_19 ?_
          refine lv_lload_n hx hb dX11_u_22 rfl (lv_at hl 2 rfl) ?_
          refine lv_iload hx hb dX11_u_23 (lv_at hl 0 rfl) ?_
          refine lv_lshr (v := x.toInt64 >>> ((0 : Int32).toInt64 &&& 63)) hx hb dX11_u_25 rfl ?_
          refine lv_l2i (v := (x.toInt64 >>> ((0 : Int32).toInt64 &&& 63)).toInt32) hx hb dX11_u_26 rfl ?_
          refine lv_i2b (v := ((x.toInt64 >>> ((0 : Int32).toInt64 &&& 63)).toInt32).toInt8.toInt32) hx hb dX11_u_27 rfl ?_
          refine k_topi (y := x.toInt8.toInt32) (congrArg Int8.toInt32 (sh_l0 x)) ?_
          refine k_mbs (x := x.toInt8.toInt32) (i := bs.length + 1 + 1 + 1) C G 4 (k := 14) (n := 1500) mp_14 (by decide) (by omega) (pk_vb _) dX11_u_28 (fun H locs (G : wd Z A s (mdW Z h ad (upd (upd (upd iv 15 (nI (bs.length + 1))) 15 (nI (bs.length + 1 + 1))) 15 (nI (bs.length + 1 + 1 + 1))) (ua (ua (ua (ua av 14 (upd (av 14) bs.length ((ush x 24).toInt8.toInt32))) 14 (upd (upd (av 14) bs.length ((ush x 24).toInt8.toInt32)) (bs.length + 1) ((ush x 16).toInt8.toInt32))) 14 (upd (upd (upd (av 14) bs.length ((ush x 24).toInt8.toInt32)) (bs.length + 1) ((ush x 16).toInt8.toInt32)) (bs.length + 1 + 1) ((ush x 8).toInt8.toInt32))) 14 (upd (upd (upd (upd (av 14) bs.length ((ush x 24).toInt8.toInt32)) (bs.length + 1) ((ush x 16).toInt8.toInt32)) (bs.length + 1 + 1) ((ush x 8).toInt8.toInt32)) (bs.length + 1 + 1 + 1) x.toInt8.toInt32))) H locs) => ?_)
          refine lv_aload_n hx hb dX11_u_29 rfl (lv_at hl 1 rfl) ?_
          refine lv_dup hx hb dX11_u_30 rfl ?_
          refine k_mgi (v := nI (bs.length + 1 + 1 + 1)) C G 15 (by decide) mr_15 rfl fl_X11_153 rfl dX11_u_31 ?_
          refine lv_iconst (v := 1) hx hb dX11_u_34 (by decide) ?_
          refine lv_iadd hx hb dX11_u_35 ?_
          refine k_topi (y := nI (bs.length + 1 + 1 + 1 + 1)) (nI_add (bs.length + 1 + 1 + 1) 1) ?_
          refine k_mpi (v := nI (bs.length + 1 + 1 + 1 + 1)) (ty := .int) C G 15 (by decide) mr_15 fl_X11_153 rfl rfl rfl rfl rfl dX11_u_36 (fun H locs (G : wd Z A s (mdW Z h ad (upd (upd (upd (upd iv 15 (nI (bs.length + 1))) 15 (nI (bs.length + 1 + 1))) 15 (nI (bs.length + 1 + 1 + 1))) 15 (nI (bs.length + 1 + 1 + 1 + 1))) (ua (ua (ua (ua av 14 (upd (av 14) bs.length ((ush x 24).toInt8.toInt32))) 14 (upd (upd (av 14) bs.length ((ush x 24).toInt8.toInt32)) (bs.length + 1) ((ush x 16).toInt8.toInt32))) 14 (upd (upd (upd (av 14) bs.length ((ush x 24).toInt8.toInt32)) (bs.length + 1) ((ush x 16).toInt8.toInt32)) (bs.length + 1 + 1) ((ush x 8).toInt8.toInt32))) 14 (upd (upd (upd (upd (av 14) bs.length ((ush x 24).toInt8.toInt32)) (bs.length + 1) ((ush x 16).toInt8.toInt32)) (bs.length + 1 + 1) ((ush x 8).toInt8.toInt32)) (bs.length + 1 + 1 + 1) x.toInt8.toInt32))) H locs) => ?_)
          refine lv_iinc (v := (-8)) (lv' := [(4, .int (-8)), (0, .ref h), (1, .long x.toInt64), (3, .int 4)]) hx hb dX11_u_39 hl (k := 0) rfl (by decide) (by decide) rfl (fun ls hl => ?_)
          refine lv_goto (tgt := 9) hx hb dX11_u_42 (by decide) ?_
          refine lv_iload hx hb dX11_u_9 (lv_at hl 0 rfl) ?_
          refine lv_if_lt (tgt := 45) hx hb dX11_u_11 (by decide) (fun c_11_4 => ?_) (fun c_11_4 => ?_)
          · exact kr_v C G ⟨_, _, rfl, ⟨by rw [List.length_append]; rfl, by
              have h1 := by_pushN hm.2 rfl (ush x 24).toInt8
              have h2 := by_pushN h1 (n := bs.length + 1) (by rw [List.length_append]; rfl) (ush x 16).toInt8
              have h3 := by_pushN h2 (n := bs.length + 2) (by rw [List.length_append, List.length_append]; rfl) (ush x 8).toInt8
              have h4 := by_pushN h3 (n := bs.length + 3) (by rw [List.length_append, List.length_append, List.length_append]; rfl) x.toInt8
              rw [List.append_assoc, List.append_assoc, List.append_assoc] at h4
              exact h4⟩, ((((sI.rf.up (by decide) _).up (by decide) _).up (by decide) _).up (by decide) _), ((((sA.rf.up (by decide) _).up (by decide) _).up (by decide) _).up (by decide) _)⟩ (Nat.le_of_ble_eq_true rfl) (Nat.le_of_ble_eq_true rfl) dX11_u_45
          · exact absurd c_11_4 (by decide)
set_option maxRecDepth 100000 in
set_option maxHeartbeats 4000000 in
theorem c_X11_ends (Z : zT) (l : Launch) (h : Nat) (ad : Nat → Nat) (iv : ivT) (av : avT) (bs : List Int8) (hm : mk_at iv av bs) (hL : bs.length + 4 ≤ 1500) : Kv Z l yX11_ends cX11_ends 1 none ({ frames := 1, cells := 0, slots := 0, locals := 30 }) [.ref h] (mdW Z h ad iv av) (fun u => ∃ iv2 av2, u = mdW Z h ad iv2 av2 ∧ mk_at iv2 av2 (bs ++ u4b (crc bs)) ∧ sI [15] iv iv2 ∧ sA [14] av av2) := by
  intro sz
  refine Met.ofK (cc := cX11_ends) (maxL := 1) (ret := none) (by decide) (Nat.le_of_ble_eq_true rfl) ?_
  intro p e s m below meth c ls C G hl
  generalize va_A _ sz = A at G ⊢
  have hx := C.1
  have hb := C.2.1
  have hown := C.2.2.2.2.2.1
  have hts := C.2.2.2.2.2.2.1
  refine lv_aload_n hx hb dX11_ends_0 rfl (lv_at hl 0 rfl) ?_
  refine lv_aload_n hx hb dX11_ends_1 rfl (lv_at hl 0 rfl) ?_
  refine lv_aload_n hx hb dX11_ends_2 rfl (lv_at hl 0 rfl) ?_
  refine k_mga C G 14 (by decide) mr_14 fl_X11_31 rfl dX11_ends_3 ?_
  refine lv_iconst (v := 0) hx hb dX11_ends_6 (by decide) ?_
  refine lv_aload_n hx hb dX11_ends_7 rfl (lv_at hl 0 rfl) ?_
  refine k_mgi (v := nI bs.length) C G 15 (by decide) mr_15 hm.1 fl_X11_153 rfl dX11_ends_8 ?_
  refine kcM_i G (krV 3 rfl (As := [.ref (ad 14), .int 0, .int (nI bs.length)]) (rest := [.ref h]) (ci := 12) (CC := RX11) (T := TX11) (N := 61) C G pmN (c_X11_check Z l h ad iv av 14 0 bs.length 4 1500 rfl (by decide) (by omega) (by omega) _) (gdV ml_X11_157 im_X11_check se_X11_check ii_X11 co_X11_check) (by decide +kernel) ⟨Nat.le_of_ble_eq_true rfl, Nat.le_of_ble_eq_true rfl⟩ rfl 0 rfl hl rfl (Nat.le_of_ble_eq_true rfl) ⟨Nat.le_of_ble_eq_true rfl, Nat.le_of_ble_eq_true rfl⟩ dX11_ends_11) (fun r_11 u H locs hu G => ?_)
  obtain ⟨r_11_e, rfl⟩ := hu
  subst r_11_e
  refine k_topi (y := crc bs) (by rw [Nat.sub_zero]; exact crM_by hm.2) ?_
  refine lv_i2l (v := (crc bs).toInt64) hx hb dX11_ends_14 rfl ?_
  refine lv_iconst (v := 4) hx hb dX11_ends_15 (by decide) ?_
  refine kcM_v G (krV 2 rfl (As := [.long ((crc bs).toInt64), .int 4]) (rest := []) (ci := 12) (CC := RX11) (T := TX11) (N := 61) C G pmN (c_mu4 Z l h ad iv av bs (crc bs) hm (by omega) _) (gdV ml_X11_161 im_X11_u se_X11_u ii_X11 co_X11_u) (by decide +kernel) ⟨Nat.le_of_ble_eq_true rfl, Nat.le_of_ble_eq_true rfl⟩ rfl 0 rfl hl rfl (Nat.le_of_ble_eq_true rfl) ⟨Nat.le_of_ble_eq_true rfl, Nat.le_of_ble_eq_true rfl⟩ dX11_ends_16) (fun u H locs hu G => ?_)
  obtain ⟨iv1_, av1_, rfl, hm1, hs1, ha1⟩ := hu
  exact kr_v C G ⟨_, _, rfl, hm1, hs1, ha1⟩ (Nat.le_of_ble_eq_true rfl) (Nat.le_of_ble_eq_true rfl) dX11_ends_19
set_option maxRecDepth 100000 in
set_option maxHeartbeats 4000000 in
theorem c_X11_whole (Z : zT) (l : Launch) (h : Nat) (ad : Nat → Nat) (iv : ivT) (av : avT) (k : Nat) (hk : k + 4 ≤ 140000) : Ki Z l yX11_whole cX11_whole 2 (some .int) ({ frames := 0, cells := 0, slots := 0, locals := 0 }) [.ref h, .int (nI k)] (mdW Z h ad iv av) (fun r u => r = r4 (av 3) k ∧ u = mdW Z h ad iv av) := by
  intro sz
  refine Met.ofK (cc := cX11_whole) (maxL := 2) (ret := (some .int)) (by decide) (Nat.le_of_ble_eq_true rfl) ?_
  intro p e s m below meth c ls C G hl
  generalize va_A _ sz = A at G ⊢
  have hx := C.1
  have hb := C.2.1
  have hown := C.2.2.2.2.2.1
  have hts := C.2.2.2.2.2.2.1
  refine lv_aload_n hx hb dX11_whole_0 rfl (lv_at hl 0 rfl) ?_
  refine k_mga C G 3 (by decide) mr_3 fl_X11_20 rfl dX11_whole_1 ?_
  refine lv_iload_n hx hb dX11_whole_4 rfl (lv_at hl 1 rfl) ?_
  refine k_mbl (v := (av 3) k) (i := k) C G 3 (k := 3) (n := 140000) mp_3 (by decide) (by omega) rfl dX11_whole_5 ?_
  refine lv_sipush (v := 255) hx hb dX11_whole_6 (by decide) ?_
  refine lv_iand hx hb dX11_whole_9 ?_
  refine lv_bipush (v := 24) hx hb dX11_whole_10 (by decide) ?_
  refine lv_ishl hx hb dX11_whole_12 ?_
  refine lv_aload_n hx hb dX11_whole_13 rfl (lv_at hl 0 rfl) ?_
  refine k_mga C G 3 (by decide) mr_3 fl_X11_20 rfl dX11_whole_14 ?_
  refine lv_iload_n hx hb dX11_whole_17 rfl (lv_at hl 1 rfl) ?_
  refine lv_iconst (v := 1) hx hb dX11_whole_18 (by decide) ?_
  refine lv_iadd hx hb dX11_whole_19 ?_
  refine k_topi (y := nI (k + 1)) (nI_add k 1) ?_
  refine k_mbl (v := (av 3) (k + 1)) (i := k + 1) C G 3 (k := 3) (n := 140000) mp_3 (by decide) (by omega) rfl dX11_whole_20 ?_
  refine lv_sipush (v := 255) hx hb dX11_whole_21 (by decide) ?_
  refine lv_iand hx hb dX11_whole_24 ?_
  refine lv_bipush (v := 16) hx hb dX11_whole_25 (by decide) ?_
  refine lv_ishl hx hb dX11_whole_27 ?_
  refine lv_ior hx hb dX11_whole_28 ?_
  refine lv_aload_n hx hb dX11_whole_29 rfl (lv_at hl 0 rfl) ?_
  refine k_mga C G 3 (by decide) mr_3 fl_X11_20 rfl dX11_whole_30 ?_
  refine lv_iload_n hx hb dX11_whole_33 rfl (lv_at hl 1 rfl) ?_
  refine lv_iconst (v := 2) hx hb dX11_whole_34 (by decide) ?_
  refine lv_iadd hx hb dX11_whole_35 ?_
  refine k_topi (y := nI (k + 2)) (nI_add k 2) ?_
  refine k_mbl (v := (av 3) (k + 2)) (i := k + 2) C G 3 (k := 3) (n := 140000) mp_3 (by decide) (by omega) rfl dX11_whole_36 ?_
  refine lv_sipush (v := 255) hx hb dX11_whole_37 (by decide) ?_
  refine lv_iand hx hb dX11_whole_40 ?_
  refine lv_bipush (v := 8) hx hb dX11_whole_41 (by decide) ?_
  refine lv_ishl hx hb dX11_whole_43 ?_
  refine lv_ior hx hb dX11_whole_44 ?_
  refine lv_aload_n hx hb dX11_whole_45 rfl (lv_at hl 0 rfl) ?_
  refine k_mga C G 3 (by decide) mr_3 fl_X11_20 rfl dX11_whole_46 ?_
  refine lv_iload_n hx hb dX11_whole_49 rfl (lv_at hl 1 rfl) ?_
  refine lv_iconst (v := 3) hx hb dX11_whole_50 (by decide) ?_
  refine lv_iadd hx hb dX11_whole_51 ?_
  refine k_topi (y := nI (k + 3)) (nI_add k 3) ?_
  refine k_mbl (v := (av 3) (k + 3)) (i := k + 3) C G 3 (k := 3) (n := 140000) mp_3 (by decide) (by omega) rfl dX11_whole_52 ?_
  refine lv_sipush (v := 255) hx hb dX11_whole_53 (by decide) ?_
  refine lv_iand hx hb dX11_whole_56 ?_
  refine lv_ior hx hb dX11_whole_57 ?_
  exact kr_i C G ⟨rfl, rfl⟩ (Nat.le_of_ble_eq_true rfl) (Nat.le_of_ble_eq_true rfl) dX11_whole_58
set_option maxRecDepth 100000 in
set_option maxHeartbeats 4000000 in
theorem c_X11_isBelow (Z : zT) (l : Launch) (h : Nat) (ad : Nat → Nat) (iv : ivT) (av : avT) (x y : Int32) : Ki Z l yX11_isBelow cX11_isBelow 2 (some .boolean) ({ frames := 0, cells := 0, slots := 0, locals := 0 }) [.int x, .int y] (mdW Z h ad iv av) (fun r u => r = (if x.toBitVec.toNat < y.toBitVec.toNat then 1 else 0) ∧ u = mdW Z h ad iv av) := by
  intro sz
  refine Met.ofK (cc := cX11_isBelow) (maxL := 2) (ret := (some .boolean)) (by decide) (Nat.le_of_ble_eq_true rfl) ?_
  intro p e s m below meth c ls C G hl
  generalize va_A _ sz = A at G ⊢
  have hx := C.1
  have hb := C.2.1
  have hown := C.2.2.2.2.2.1
  have hts := C.2.2.2.2.2.2.1
  refine lv_iload_n hx hb dX11_isBelow_0 rfl (lv_at hl 0 rfl) ?_
  refine lv_ldc (v := (-2147483648)) hx hb hown (hts _ kn_X11_206) dX11_isBelow_1 ?_
  refine lv_ixor hx hb dX11_isBelow_3 ?_
  refine lv_iload_n hx hb dX11_isBelow_4 rfl (lv_at hl 1 rfl) ?_
  refine lv_ldc (v := (-2147483648)) hx hb hown (hts _ kn_X11_206) dX11_isBelow_5 ?_
  refine lv_ixor hx hb dX11_isBelow_7 ?_
  refine lv_icmp_ge (tgt := 15) hx hb dX11_isBelow_8 (by decide) (fun c_8 => ?_) (fun c_8 => ?_)
  · refine lv_iconst (v := 0) hx hb dX11_isBelow_15 (by decide) ?_
    exact kr_z C G (by decide) ⟨(if_neg (fun z => absurd ((isB x y).mpr z) (Int32.not_lt.mpr c_8))).symm, rfl⟩ (Nat.le_of_ble_eq_true rfl) (Nat.le_of_ble_eq_true rfl) dX11_isBelow_16
  · refine lv_iconst (v := 1) hx hb dX11_isBelow_11 (by decide) ?_
    refine lv_goto (tgt := 16) hx hb dX11_isBelow_12 (by decide) ?_
    exact kr_z C G (by decide) ⟨(if_pos ((isB x y).mp (Int32.not_le.mp c_8))).symm, rfl⟩ (Nat.le_of_ble_eq_true rfl) (Nat.le_of_ble_eq_true rfl) dX11_isBelow_16
theorem p128 (k : Nat) (z : Nat) (h : z < 16 * 128 ^ (k + 1)) : z / 128 < 16 * 128 ^ k := by
  rw [Nat.pow_succ] at h
  have : z < 16 * 128 ^ k * 128 := by rw [Nat.mul_assoc]; exact h
  exact Nat.div_lt_of_lt_mul (by rw [Nat.mul_comm]; exact this)
set_option maxRecDepth 100000 in
set_option maxHeartbeats 4000000 in
theorem lp_mbytes {p : Program} {l : Launch} {e : Env} {R : Room} {s : State} {m : MethodId} {args : Array Value} {below : List Frame} {meth : Method} {c : Code} {Z : zT} {A : Nat → Prop} {h : Nat} {ad : Nat → Nat} {X : va_W} {T : Nat} {x : Int32} {post : Int32 → va_W → Prop} (C : cx p s m args meth c cX11_bytesOf 3 (some .int) RX11 "bytesOf") (hp : post (nI T) X) : ∀ (k z q : Nat), z < 2 ^ 32 → z < 16 * 128 ^ k → q + (vb k z).length = T + 1 → ∀ (H : Heap) (locs : List Loc) (ls : Array Slot), wd Z A s X H locs → lv_has ls 3 [(1, .int (nI z)), (2, .int (nI q)), (0, .int x)] → W p l e R s m args below meth c H locs 0 0 (MQ below (va_Qi post (mB Z A) A) args s 0 0 A) (F0 m 11 ls []) := by
  have hx := C.1
  have hb := C.2.1
  have hown := C.2.2.2.2.2.1
  have hts := C.2.2.2.2.2.2.1
  intro k
  induction k with
  | zero =>
    intro z q hz32 hz hT H locs ls G hl
    have hz16 : z < 16 := by simpa using hz
    refine lv_iload_n hx hb dX11_bytesOf_11 rfl (lv_at hl 0 rfl) ?_
    refine lv_bipush (v := 7) hx hb dX11_bytesOf_12 (by decide) ?_
    refine lv_iushr (v := ush (nI z) 7) hx hb dX11_bytesOf_14 rfl ?_
    refine k_topi (y := nI (z / 128)) (ush_nI (n := z) (by omega) 7 (by omega)) ?_
    refine lv_if_eq (tgt := 29) hx hb dX11_bytesOf_15 (by decide) (fun c_15 => ?_) (fun c_15 => ?_)
    · have n_15 := nb_eq (a := z / 128) (b := 0) c_15 (by omega) (by omega)
      refine lv_iload_n hx hb dX11_bytesOf_29 rfl (lv_at hl 1 rfl) ?_
      exact kr_i C G (by rw [show q = T by rw [vb_0] at hT; simpa using hT]; exact hp) (Nat.le_of_ble_eq_true rfl) (Nat.le_of_ble_eq_true rfl) dX11_bytesOf_30
    · exact absurd (nb_ne (a := z / 128) (b := 0) c_15 (by omega) (by omega)) (by omega)
  | succ k ih =>
    intro z q hz32 hz hT H locs ls G hl
    have hz2 := p128 k z hz
    refine lv_iload_n hx hb dX11_bytesOf_11 rfl (lv_at hl 0 rfl) ?_
    refine lv_bipush (v := 7) hx hb dX11_bytesOf_12 (by decide) ?_
    refine lv_iushr (v := ush (nI z) 7) hx hb dX11_bytesOf_14 rfl ?_
    refine k_topi (y := nI (z / 128)) (ush_nI (n := z) (by omega) 7 (by omega)) ?_
    refine lv_if_eq (tgt := 29) hx hb dX11_bytesOf_15 (by decide) (fun c_15 => ?_) (fun c_15 => ?_)
    · have n_15 := nb_eq (a := z / 128) (b := 0) c_15 (by omega) (by omega)
      refine lv_iload_n hx hb dX11_bytesOf_29 rfl (lv_at hl 1 rfl) ?_
      exact kr_i C G (by rw [show q = T by rw [vb_1 n_15] at hT; simpa using hT]; exact hp) (Nat.le_of_ble_eq_true rfl) (Nat.le_of_ble_eq_true rfl) dX11_bytesOf_30
    · have n_15 := nb_ne (a := z / 128) (b := 0) c_15 (by omega) (by omega)
      refine lv_iload_n hx hb dX11_bytesOf_18 rfl (lv_at hl 0 rfl) ?_
      refine lv_bipush (v := 7) hx hb dX11_bytesOf_19 (by decide) ?_
      refine lv_iushr (v := ush (nI z) 7) hx hb dX11_bytesOf_21 rfl ?_
      refine k_topi (y := nI (z / 128)) (ush_nI (n := z) (by omega) 7 (by omega)) ?_
      refine lv_istore_n (lv' := [(1, .int (nI (z / 128))), (2, .int (nI q)), (0, .int x)]) hx hb dX11_bytesOf_22 rfl hl (by decide) rfl (fun ls hl => ?_)
      refine lv_iinc (v := nI (q + 1)) (lv' := [(2, .int (nI (q + 1))), (1, .int (nI (z / 128))), (0, .int x)]) hx hb dX11_bytesOf_23 hl (k := 1) rfl (nI_1 _) (by decide) rfl (fun ls hl => ?_)
      refine lv_goto (tgt := 11) hx hb dX11_bytesOf_26 (by decide) ?_
      exact ih _ _ (by omega) hz2 (by rw [vb_2 n_15] at hT; simp only [List.length_cons] at hT; omega) _ _ _ G (lv_sub hl [1, 0, 2] rfl)
set_option maxRecDepth 100000 in
set_option maxHeartbeats 4000000 in
theorem c_X11_bytesOf (Z : zT) (l : Launch) (h : Nat) (ad : Nat → Nat) (iv : ivT) (av : avT) (x : Int32) : Ki Z l yX11_bytesOf cX11_bytesOf 3 (some .int) ({ frames := 0, cells := 0, slots := 0, locals := 0 }) [.int x] (mdW Z h ad iv av) (fun r u => r = nI (vbs x).length ∧ u = mdW Z h ad iv av) := by
  intro sz
  refine Met.ofK (cc := cX11_bytesOf) (maxL := 3) (ret := (some .int)) (by decide) (Nat.le_of_ble_eq_true rfl) ?_
  intro p e s m below meth c ls C G hl
  generalize va_A _ sz = A at G ⊢
  have hx := C.1
  have hb := C.2.1
  have hown := C.2.2.2.2.2.1
  have hts := C.2.2.2.2.2.2.1
  refine lv_iload_n hx hb dX11_bytesOf_0 rfl (lv_at hl 0 rfl) ?_
  refine lv_iconst (v := 1) hx hb dX11_bytesOf_1 (by decide) ?_
  refine lv_ishl hx hb dX11_bytesOf_2 ?_
  refine lv_iload_n hx hb dX11_bytesOf_3 rfl (lv_at hl 0 rfl) ?_
  refine lv_bipush (v := 31) hx hb dX11_bytesOf_4 (by decide) ?_
  refine lv_ishr hx hb dX11_bytesOf_6 ?_
  refine lv_ixor hx hb dX11_bytesOf_7 ?_
  refine k_topi (y := nI (vzN x)) (by exact vzI_nI x) ?_
  refine lv_istore_n (lv' := [(1, .int (nI (vzN x))), (0, .int x)]) hx hb dX11_bytesOf_8 rfl hl (by decide) rfl (fun ls hl => ?_)
  refine lv_iconst (v := 1) hx hb dX11_bytesOf_9 (by decide) ?_
  refine k_topi (y := nI 1) (by rfl) ?_
  refine lv_istore_n (lv' := [(2, .int (nI 1)), (1, .int (nI (vzN x))), (0, .int x)]) hx hb dX11_bytesOf_10 rfl hl (by decide) rfl (fun ls hl => ?_)
  exact lp_mbytes (h := h) (ad := ad) C ⟨rfl, rfl⟩ 4 (vzN x) 1 (vzN_lt x) (Nat.lt_of_lt_of_le (vzN_lt x) (by decide)) (Nat.add_comm _ _) _ _ _ G (lv_sub hl [1, 0, 2] rfl)
set_option maxRecDepth 100000 in
set_option maxHeartbeats 4000000 in
theorem lp_mvarint {p : Program} {l : Launch} {e : Env} {s : State} {m : MethodId} {args : Array Value} {below : List Frame} {meth : Method} {c : Code} {Z : zT} {A : Nat → Prop} {h : Nat} {ad : Nat → Nat} {iv0 : ivT} {av0 : avT} {BS : List Int8} {x : Int32} {post : va_W → Prop} (C : cx p s m args meth c cX11_varint 3 none RX11 "varint") (hp : ∀ iv2 av2, mk_at iv2 av2 BS → sI [15] iv0 iv2 → sA [14] av0 av2 → post (mdW Z h ad iv2 av2)) : ∀ (k z : Nat) (bs : List Int8) (iv : ivT) (av : avT), z < 2 ^ 32 → z < 16 * 128 ^ k → mk_at iv av bs → bs.length + (vb k z).length ≤ 1500 → bs ++ vb k z = BS → sI [15] iv0 iv → sA [14] av0 av → ∀ (H : Heap) (locs : List Loc) (ls : Array Slot), wd Z A s (mdW Z h ad iv av) H locs → lv_has ls 3 [(2, .int (nI z)), (0, .ref h), (1, .int x)] → W p l e { frames := 1, cells := 0, slots := 0, locals := 30 } s m args below meth c H locs 0 0 (MQ below (va_Qv post (mB Z A) A) args s 0 0 A) (F0 m 9 ls []) := by
  have hx := C.1
  have hb := C.2.1
  have hown := C.2.2.2.2.2.1
  have hts := C.2.2.2.2.2.2.1
  intro k
  induction k with
  | zero =>
    intro z bs iv av hz32 hz hm hL hE hsI hsA H locs ls G hl
    have hz16 : z < 16 := by simpa using hz
    refine lv_iload_n hx hb dX11_varint_9 rfl (lv_at hl 0 rfl) ?_
    refine lv_bipush (v := 7) hx hb dX11_varint_10 (by decide) ?_
    refine lv_iushr (v := ush (nI z) 7) hx hb dX11_varint_12 rfl ?_
    refine k_topi (y := nI (z / 128)) (ush_nI (n := z) (by omega) 7 (by omega)) ?_
    refine lv_if_eq (tgt := 38) hx hb dX11_varint_13 (by decide) (fun c_13 => ?_) (fun c_13 => ?_)
    · have n_13 := nb_eq (a := z / 128) (b := 0) c_13 (by omega) (by omega)
      refine lv_aload_n hx hb dX11_varint_38 rfl (lv_at hl 1 rfl) ?_
      refine lv_iload_n hx hb dX11_varint_39 rfl (lv_at hl 0 rfl) ?_
      refine lv_i2l (v := (nI z).toInt64) hx hb dX11_varint_40 rfl ?_
      refine lv_iconst (v := 1) hx hb dX11_varint_41 (by decide) ?_
      refine kcM_v G (krV 2 rfl (As := [.long ((nI z).toInt64), .int 1]) (rest := []) (ci := 12) (CC := RX11) (T := TX11) (N := 61) C G pmN (c_mu1 Z l h ad iv av bs (nI z) hm (by have h9 := vb_pos 0 z; omega) _) (gdV ml_X11_161 im_X11_u se_X11_u ii_X11 co_X11_u) (by decide +kernel) ⟨Nat.le_of_ble_eq_true rfl, Nat.le_of_ble_eq_true rfl⟩ rfl 0 rfl hl rfl (Nat.le_of_ble_eq_true rfl) ⟨Nat.le_of_ble_eq_true rfl, Nat.le_of_ble_eq_true rfl⟩ dX11_varint_42) (fun u H locs hu G => ?_)
      obtain ⟨iv1_, av1_, rfl, hm1, hs1, ha1⟩ := hu
      exact kr_v C G (hp _ _ (by rw [← hE, vb_0]; exact hm1) (hsI.tr hs1 (fun j hj => hj)) (hsA.tr ha1 (fun j hj => hj))) (Nat.le_of_ble_eq_true rfl) (Nat.le_of_ble_eq_true rfl) dX11_varint_45
    · exact absurd (nb_ne (a := z / 128) (b := 0) c_13 (by omega) (by omega)) (by omega)
  | succ k ih =>
    intro z bs iv av hz32 hz hm hL hE hsI hsA H locs ls G hl
    have hz2 := p128 k z hz
    refine lv_iload_n hx hb dX11_varint_9 rfl (lv_at hl 0 rfl) ?_
    refine lv_bipush (v := 7) hx hb dX11_varint_10 (by decide) ?_
    refine lv_iushr (v := ush (nI z) 7) hx hb dX11_varint_12 rfl ?_
    refine k_topi (y := nI (z / 128)) (ush_nI (n := z) (by omega) 7 (by omega)) ?_
    refine lv_if_eq (tgt := 38) hx hb dX11_varint_13 (by decide) (fun c_13 => ?_) (fun c_13 => ?_)
    · have n_13 := nb_eq (a := z / 128) (b := 0) c_13 (by omega) (by omega)
      refine lv_aload_n hx hb dX11_varint_38 rfl (lv_at hl 1 rfl) ?_
      refine lv_iload_n hx hb dX11_varint_39 rfl (lv_at hl 0 rfl) ?_
      refine lv_i2l (v := (nI z).toInt64) hx hb dX11_varint_40 rfl ?_
      refine lv_iconst (v := 1) hx hb dX11_varint_41 (by decide) ?_
      refine kcM_v G (krV 2 rfl (As := [.long ((nI z).toInt64), .int 1]) (rest := []) (ci := 12) (CC := RX11) (T := TX11) (N := 61) C G pmN (c_mu1 Z l h ad iv av bs (nI z) hm (by have h9 := vb_pos (k + 1) z; omega) _) (gdV ml_X11_161 im_X11_u se_X11_u ii_X11 co_X11_u) (by decide +kernel) ⟨Nat.le_of_ble_eq_true rfl, Nat.le_of_ble_eq_true rfl⟩ rfl 0 rfl hl rfl (Nat.le_of_ble_eq_true rfl) ⟨Nat.le_of_ble_eq_true rfl, Nat.le_of_ble_eq_true rfl⟩ dX11_varint_42) (fun u H locs hu G => ?_)
      obtain ⟨iv1_, av1_, rfl, hm1, hs1, ha1⟩ := hu
      exact kr_v C G (hp _ _ (by rw [← hE, vb_1 n_13]; exact hm1) (hsI.tr hs1 (fun j hj => hj)) (hsA.tr ha1 (fun j hj => hj))) (Nat.le_of_ble_eq_true rfl) (Nat.le_of_ble_eq_true rfl) dX11_varint_45
    · have n_13 := nb_ne (a := z / 128) (b := 0) c_13 (by omega) (by omega)
      refine lv_aload_n hx hb dX11_varint_16 rfl (lv_at hl 1 rfl) ?_
      refine lv_iload_n hx hb dX11_varint_17 rfl (lv_at hl 0 rfl) ?_
      refine lv_bipush (v := 127) hx hb dX11_varint_18 (by decide) ?_
      refine lv_iand hx hb dX11_varint_20 ?_
      refine lv_sipush (v := 128) hx hb dX11_varint_21 (by decide) ?_
      refine lv_ior hx hb dX11_varint_24 ?_
      refine lv_i2l (v := (((nI z) &&& 127) ||| 128).toInt64) hx hb dX11_varint_25 rfl ?_
      refine lv_iconst (v := 1) hx hb dX11_varint_26 (by decide) ?_
      refine kcM_v G (krV 2 rfl (As := [.long ((((nI z) &&& 127) ||| 128).toInt64), .int 1]) (rest := []) (ci := 12) (CC := RX11) (T := TX11) (N := 61) C G pmN (c_mu1 Z l h ad iv av bs (nI z &&& 127 ||| 128) hm (by have h9 := vb_pos (k + 1) z; omega) _) (gdV ml_X11_161 im_X11_u se_X11_u ii_X11 co_X11_u) (by decide +kernel) ⟨Nat.le_of_ble_eq_true rfl, Nat.le_of_ble_eq_true rfl⟩ rfl 0 rfl hl rfl (Nat.le_of_ble_eq_true rfl) ⟨Nat.le_of_ble_eq_true rfl, Nat.le_of_ble_eq_true rfl⟩ dX11_varint_27) (fun u H locs hu G => ?_)
      obtain ⟨iv2_, av2_, rfl, hm2, hs2, ha2⟩ := hu
      refine lv_iload_n hx hb dX11_varint_30 rfl (lv_at hl 0 rfl) ?_
      refine lv_bipush (v := 7) hx hb dX11_varint_31 (by decide) ?_
      refine lv_iushr (v := ush (nI z) 7) hx hb dX11_varint_33 rfl ?_
      refine k_topi (y := nI (z / 128)) (ush_nI (n := z) (by omega) 7 (by omega)) ?_
      refine lv_istore_n (lv' := [(2, .int (nI (z / 128))), (0, .ref h), (1, .int x)]) hx hb dX11_varint_34 rfl hl (by decide) rfl (fun ls hl => ?_)
      refine lv_goto (tgt := 9) hx hb dX11_varint_35 (by decide) ?_
      exact ih _ _ _ _ (by omega) hz2 hm2 (by rw [List.length_append]; simp only [List.length_singleton]; rw [vb_2 n_13] at hL; simp only [List.length_cons] at hL; omega) (by rw [List.append_assoc, ← hE, vb_2 n_13]; rfl) (hsI.tr hs2 (fun j hj => hj)) (hsA.tr ha2 (fun j hj => hj)) _ _ _ G (lv_sub hl [0, 1, 2] rfl)
set_option maxRecDepth 100000 in
set_option maxHeartbeats 4000000 in
theorem c_X11_varint (Z : zT) (l : Launch) (h : Nat) (ad : Nat → Nat) (iv : ivT) (av : avT) (bs : List Int8) (x : Int32) (hm : mk_at iv av bs) (hL : bs.length + (vbs x).length ≤ 1500) : Kv Z l yX11_varint cX11_varint 3 none ({ frames := 1, cells := 0, slots := 0, locals := 30 }) [.ref h, .int x] (mdW Z h ad iv av) (fun u => ∃ iv2 av2, u = mdW Z h ad iv2 av2 ∧ mk_at iv2 av2 (bs ++ vbs x) ∧ sI [15] iv iv2 ∧ sA [14] av av2) := by
  intro sz
  refine Met.ofK (cc := cX11_varint) (maxL := 3) (ret := none) (by decide) (Nat.le_of_ble_eq_true rfl) ?_
  intro p e s m below meth c ls C G hl
  generalize va_A _ sz = A at G ⊢
  have hx := C.1
  have hb := C.2.1
  have hown := C.2.2.2.2.2.1
  have hts := C.2.2.2.2.2.2.1
  refine lv_iload_n hx hb dX11_varint_0 rfl (lv_at hl 1 rfl) ?_
  refine lv_iconst (v := 1) hx hb dX11_varint_1 (by decide) ?_
  refine lv_ishl hx hb dX11_varint_2 ?_
  refine lv_iload_n hx hb dX11_varint_3 rfl (lv_at hl 1 rfl) ?_
  refine lv_bipush (v := 31) hx hb dX11_varint_4 (by decide) ?_
  refine lv_ishr hx hb dX11_varint_6 ?_
  refine lv_ixor hx hb dX11_varint_7 ?_
  refine k_topi (y := nI (vzN x)) (by exact vzI_nI x) ?_
  refine lv_istore_n (lv' := [(2, .int (nI (vzN x))), (0, .ref h), (1, .int x)]) hx hb dX11_varint_8 rfl hl (by decide) rfl (fun ls hl => ?_)
  exact lp_mvarint C (fun iv2 av2 h1 h2 h3 => ⟨iv2, av2, rfl, h1, h2, h3⟩) 4 (vzN x) bs iv av (vzN_lt x) (Nat.lt_of_lt_of_le (vzN_lt x) (by decide)) hm hL rfl sI.rf sA.rf _ _ _ G (lv_sub hl [0, 1, 2] rfl)
