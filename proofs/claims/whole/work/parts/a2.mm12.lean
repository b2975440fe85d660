/-! MODEL (X11): readFile. -/
set_option maxRecDepth 100000 in
set_option maxHeartbeats 4000000 in
theorem c_X11_readFile (Z : zT) (l : Launch) (h : Nat) (ad : Nat → Nat) (iv : ivT) (av : avT) (ob : List obT) (i : Nat) (x pt : Int32) (ho : mo_ok iv av ob) (hi : i < 260) (hx31 : av 31 i = x) (hx32 : av 32 i = pt) (hf14 : ∀ i, fits .byte (.int (av 14 i)) = true) : Ki Z l yX11_readFile cX11_readFile 3 (some .boolean) ({ frames := 5, cells := 0, slots := 0, locals := 160 }) [.ref h, .int (nI i)] (mdW Z h ad iv av) (fun r u => ∃ (iv2 : ivT) (av2 : avT), u = mdW Z h ad iv2 av2 ∧ sI [15, 16, 17, 18, 19, 20] iv iv2 ∧ sA [14, 21, 22, 23, 24, 25] av av2 ∧ (∀ i, fits .byte (.int (av2 14 i)) = true) ∧ ((r = 1 ∧ ∃ (p N : Nat), p < 8 ∧ 1 ≤ N ∧ N ≤ 48 ∧ iv2 19 = nI p ∧ iv2 20 = nI N ∧ mW ob x pt = some (rwOf (nI p) N (mV av2)) ∧ ∀ d, d < 3 → av2 22 d = (if (stF (col (mV av2) d N)).1 = 0 then 0 else 1) ∧ av2 23 d = leF (mV av2) N d ∧ av2 24 d = grF (mV av2) N d) ∨ (r = 0 ∧ mW ob x pt = none))) := by
  intro sz
  refine Met.ofK (cc := cX11_readFile) (maxL := 3) (ret := (some .boolean)) (by decide) (Nat.le_of_ble_eq_true rfl) ?_
  intro p e s m below meth c ls C G hl
  generalize va_A _ sz = A at G ⊢
  have hx := C.1
  have hb := C.2.1
  have hown := C.2.2.2.2.2.1
  have hts := C.2.2.2.2.2.2.1
  have hob := ho.2.1
  refine lv_aload_n hx hb dX11_readFile_0 rfl (lv_at hl 0 rfl) ?_
  refine lv_iconst (v := 0) hx hb dX11_readFile_1 (by decide) ?_
  refine lv_aload_n hx hb dX11_readFile_2 rfl (lv_at hl 0 rfl) ?_
  refine k_mga C G 31 (by decide) mr_31 fl_X11_59 rfl dX11_readFile_3 ?_
  refine lv_iload_n hx hb dX11_readFile_6 rfl (lv_at hl 1 rfl) ?_
  refine k_mil (v := x) (i := i) C G 13 (k := 31) (n := 260) mp_31 (by decide) (by omega) hx31 dX11_readFile_7 ?_
  refine kcM_i G (krV 2 rfl (As := [.int 0, .int x]) (rest := []) (ci := 12) (CC := RX11) (T := TX11) (N := 61) C G pmN (c_X11_place Z l h ad iv av ob 0 x ho _) (gdV ml_X11_165 im_X11_place se_X11_place ii_X11 co_X11_place) (by decide +kernel) ⟨Nat.le_of_ble_eq_true rfl, Nat.le_of_ble_eq_true rfl⟩ rfl 0 rfl hl rfl (Nat.le_of_ble_eq_true rfl) ⟨Nat.le_of_ble_eq_true rfl, Nat.le_of_ble_eq_true rfl⟩ dX11_readFile_8) (fun r_8 u H locs hu G => ?_)
  obtain ⟨r_8_e, rfl⟩ := hu
  rcases plR_cases ob 0 x with ⟨hn, hq⟩ | ⟨k, o, hk1, hk, ho1, ho2, hq⟩
  · rw [hq] at r_8_e
    subst r_8_e
    refine lv_istore_n (lv' := [(2, .int (-1)), (0, .ref h), (1, .int (nI i))]) hx hb dX11_readFile_11 rfl hl (by decide) rfl (fun ls hl => ?_)
    refine lv_iload_n hx hb dX11_readFile_12 rfl (lv_at hl 0 rfl) ?_
    refine lv_if_lt (tgt := 41) hx hb dX11_readFile_13 (by decide) (fun c_13 => ?_) (fun c_13 => ?_)
    · refine lv_iconst (v := 0) hx hb dX11_readFile_41 (by decide) ?_
      exact kr_z C G (by decide) ⟨iv, av, rfl, sI.rf, sA.rf, hf14, Or.inr ⟨rfl, by unfold mW; rw [mLk_n hn]; rfl⟩⟩ (Nat.le_of_ble_eq_true rfl) (Nat.le_of_ble_eq_true rfl) dX11_readFile_42
    · exact absurd c_13 (by decide)
  · rw [hq] at r_8_e
    subst r_8_e
    have hkl := mFi_lt hk1
    refine lv_istore_n (lv' := [(2, .int (nI k)), (0, .ref h), (1, .int (nI i))]) hx hb dX11_readFile_11 rfl hl (by decide) rfl (fun ls hl => ?_)
    refine lv_iload_n hx hb dX11_readFile_12 rfl (lv_at hl 0 rfl) ?_
    refine lv_if_lt (tgt := 41) hx hb dX11_readFile_13 (by decide) (fun c_13 => ?_) (fun c_13 => ?_)
    · exact absurd (nb_lt (a := k) (b := 0) c_13 (by omega) (by omega)) (by omega)
    · have n_13 := nb_nlt (a := k) (b := 0) c_13 (by omega) (by omega)
      refine lv_aload_n hx hb dX11_readFile_16 rfl (lv_at hl 1 rfl) ?_
      refine lv_iload_n hx hb dX11_readFile_17 rfl (lv_at hl 0 rfl) ?_
      refine kcM_i G (krV 1 rfl (As := [.int (nI k)]) (rest := []) (ci := 12) (CC := RX11) (T := TX11) (N := 61) C G pmN (c_X11_readData Z l h ad iv av ob k o ho hk hf14 _) (gdV ml_X11_263 im_X11_readData se_X11_readData ii_X11 co_X11_readData) (by decide +kernel) ⟨Nat.le_of_ble_eq_true rfl, Nat.le_of_ble_eq_true rfl⟩ rfl 0 rfl hl rfl (Nat.le_of_ble_eq_true rfl) ⟨Nat.le_of_ble_eq_true rfl, Nat.le_of_ble_eq_true rfl⟩ dX11_readFile_18) (fun r_18 u H locs hu G => ?_)
      obtain ⟨iv1_, av1_, rfl, hs1, ha1, hf1, hcs1⟩ := hu
      rcases hcs1 with ⟨r_18_e, p, N, hp8, hN1, hN48, h19, h20, hby, hbd⟩ | ⟨r_18_e, hno⟩
      · subst r_18_e
        refine lv_if_eq (tgt := 41) hx hb dX11_readFile_21 (by decide) (fun c_21 => ?_) (fun c_21 => ?_)
        · exact absurd c_21 (by decide)
        · have n_21 := nb_ne (a := 1) (b := 0) c_21 (by omega) (by omega)
          refine lv_aload_n hx hb dX11_readFile_24 rfl (lv_at hl 1 rfl) ?_
          refine k_mgi (v := nI p) C G 19 (by decide) mr_19 h19 fl_X11_193 rfl dX11_readFile_25 ?_
          refine lv_aload_n hx hb dX11_readFile_28 rfl (lv_at hl 1 rfl) ?_
          refine k_mga C G 32 (by decide) mr_32 fl_X11_62 rfl dX11_readFile_29 ?_
          refine lv_iload_n hx hb dX11_readFile_32 rfl (lv_at hl 2 rfl) ?_
          refine k_mil (v := pt) (i := i) C G 14 (k := 32) (n := 260) mp_32 (by decide) (by omega) ((congrFun (ha1 32 (by decide)) i).trans hx32) dX11_readFile_33 ?_
          refine lv_icmp_ne (tgt := 41) hx hb dX11_readFile_34 (by decide) (fun c_34 => ?_) (fun c_34 => ?_)
          · refine lv_iconst (v := 0) hx hb dX11_readFile_41 (by decide) ?_
            have hdb : dB o.2.2 = some (rwOf (nI p) N (mV av1_)) := dB_iff.mpr ⟨p, N, _, hp8, hN1, hN48, hby, rfl⟩
            exact kr_z C G (by decide) ⟨_, _, rfl, hs1, ha1, hf1, Or.inr ⟨rfl, by unfold mW; rw [mLk_s hk1 hk, Option.bind_some, hdb, Option.filter_some, if_neg (show ¬ decide ((rwOf (nI p) N (mV av1_)).1 = pt) = true from fun z => c_34 (of_decide_eq_true z))]⟩⟩ (Nat.le_of_ble_eq_true rfl) (Nat.le_of_ble_eq_true rfl) dX11_readFile_42
          · refine lv_iconst (v := 1) hx hb dX11_readFile_37 (by decide) ?_
            refine lv_goto (tgt := 42) hx hb dX11_readFile_38 (by decide) ?_
            have hdb : dB o.2.2 = some (rwOf (nI p) N (mV av1_)) := dB_iff.mpr ⟨p, N, _, hp8, hN1, hN48, hby, rfl⟩
            exact kr_z C G (by decide) ⟨_, _, rfl, hs1, ha1, hf1, Or.inl ⟨rfl, p, N, hp8, hN1, hN48, h19, h20, by unfold mW; rw [mLk_s hk1 hk, Option.bind_some, hdb, Option.filter_some, if_pos (decide_eq_true (show (rwOf (nI p) N (mV av1_)).1 = pt from c_34))], hbd⟩⟩ (Nat.le_of_ble_eq_true rfl) (Nat.le_of_ble_eq_true rfl) dX11_readFile_42
      · subst r_18_e
        refine lv_if_eq (tgt := 41) hx hb dX11_readFile_21 (by decide) (fun c_21 => ?_) (fun c_21 => ?_)
        · have n_21 := nb_eq (a := 0) (b := 0) c_21 (by omega) (by omega)
          refine lv_iconst (v := 0) hx hb dX11_readFile_41 (by decide) ?_
          exact kr_z C G (by decide) ⟨_, _, rfl, hs1, ha1, hf1, Or.inr ⟨rfl, by unfold mW; rw [mLk_s hk1 hk, Option.bind_some, dB_none hno]; rfl⟩⟩ (Nat.le_of_ble_eq_true rfl) (Nat.le_of_ble_eq_true rfl) dX11_readFile_42
        · exact absurd c_21 (by decide)
