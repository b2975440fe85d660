/-! MODEL (X11): at. -/
set_option maxRecDepth 100000 in
set_option maxHeartbeats 4000000 in
theorem c_X11_at (Z : zT) (l : Launch) (h : Nat) (ad : Nat → Nat) (iv : ivT) (av : avT) (ob : List obT) (flo x y wh : Int32) (ho : mo_ok iv av ob) (hin : mo_in ob) (h13 : iv 13 = flo) (hflo : ¬ flo < 0) (hf14 : ∀ i, fits .byte (.int (av 14 i)) = true) : Ki Z l yX11_at cX11_at 6 (some .int) ({ frames := 6, cells := 0, slots := 0, locals := 200 }) [.ref h, .int x, .int y, .int wh] (mdW Z h ad iv av) (fun r u => ∃ (iv2 : ivT) (av2 : avT), u = mdW Z h ad iv2 av2 ∧ sI [15, 16, 17, 18, 19, 20, 26, 30] iv iv2 ∧ sA [14, 21, 22, 23, 24, 25, 27, 28, 29, 31, 32] av av2 ∧ (∀ i, fits .byte (.int (av2 14 i)) = true) ∧ r = (if ¬ y < 0 ∧ ¬ wh < 0 ∧ ¬ 3 < wh then (mVr ob flo x).elim (-1) (fun F => atB (mW ob) wh F y.toNatClampNeg) else -1)) := by
  intro sz
  refine Met.ofK (cc := cX11_at) (maxL := 6) (ret := (some .int)) (by decide) (Nat.le_of_ble_eq_true rfl) ?_
  intro p e s m below meth c ls C G hl
  generalize va_A _ sz = A at G ⊢
  have hx := C.1
  have hb := C.2.1
  have hown := C.2.2.2.2.2.1
  have hts := C.2.2.2.2.2.2.1
  refine lv_iload_n hx hb dX11_at_0 rfl (lv_at hl 1 rfl) ?_
  refine lv_iconst (v := (-1)) hx hb dX11_at_1 (by decide) ?_
  refine lv_icmp_lt (tgt := 26) hx hb dX11_at_2 (by decide) (fun c_2 => ?_) (fun c_2 => ?_)
  · refine lv_iconst (v := (-1)) hx hb dX11_at_26 (by decide) ?_
    exact kr_i C G ⟨iv, av, rfl, sI.rf, sA.rf, hf14, (by rw [mVr_neg hflo (Int32.not_le.mpr c_2)]; exact (ite_self _).symm)⟩ (Nat.le_of_ble_eq_true rfl) (Nat.le_of_ble_eq_true rfl) dX11_at_27
  · refine lv_iload_n hx hb dX11_at_5 rfl (lv_at hl 2 rfl) ?_
    refine lv_if_lt (tgt := 26) hx hb dX11_at_6 (by decide) (fun c_6 => ?_) (fun c_6 => ?_)
    · refine lv_iconst (v := (-1)) hx hb dX11_at_26 (by decide) ?_
      exact kr_i C G ⟨iv, av, rfl, sI.rf, sA.rf, hf14, by rw [if_neg (fun z => z.1 c_6)]⟩ (Nat.le_of_ble_eq_true rfl) (Nat.le_of_ble_eq_true rfl) dX11_at_27
    · refine lv_iload_n hx hb dX11_at_9 rfl (lv_at hl 3 rfl) ?_
      refine lv_if_lt (tgt := 26) hx hb dX11_at_10 (by decide) (fun c_10 => ?_) (fun c_10 => ?_)
      · refine lv_iconst (v := (-1)) hx hb dX11_at_26 (by decide) ?_
        exact kr_i C G ⟨iv, av, rfl, sI.rf, sA.rf, hf14, by rw [if_neg (fun z => z.2.1 c_10)]⟩ (Nat.le_of_ble_eq_true rfl) (Nat.le_of_ble_eq_true rfl) dX11_at_27
      · refine lv_iload_n hx hb dX11_at_13 rfl (lv_at hl 3 rfl) ?_
        refine lv_iconst (v := 3) hx hb dX11_at_14 (by decide) ?_
        refine lv_icmp_gt (tgt := 26) hx hb dX11_at_15 (by decide) (fun c_15 => ?_) (fun c_15 => ?_)
        · refine lv_iconst (v := (-1)) hx hb dX11_at_26 (by decide) ?_
          exact kr_i C G ⟨iv, av, rfl, sI.rf, sA.rf, hf14, by rw [if_neg (fun z => z.2.2 c_15)]⟩ (Nat.le_of_ble_eq_true rfl) (Nat.le_of_ble_eq_true rfl) dX11_at_27
        · refine lv_aload_n hx hb dX11_at_18 rfl (lv_at hl 0 rfl) ?_
          refine lv_iload_n hx hb dX11_at_19 rfl (lv_at hl 1 rfl) ?_
          refine kcM_i G (krV 1 rfl (As := [.int x]) (rest := []) (ci := 12) (CC := RX11) (T := TX11) (N := 61) C G pmN (c_X11_reads Z l h ad iv av ob flo x ho hin h13 hflo _) (gdV ml_X11_280 im_X11_reads se_X11_reads ii_X11 co_X11_reads) (by decide +kernel) ⟨Nat.le_of_ble_eq_true rfl, Nat.le_of_ble_eq_true rfl⟩ rfl 0 rfl hl rfl (Nat.le_of_ble_eq_true rfl) ⟨Nat.le_of_ble_eq_true rfl, Nat.le_of_ble_eq_true rfl⟩ dX11_at_20) (fun r_20 u H locs hu G => ?_)
          obtain ⟨iv1_, av1_, rfl, hs1, ha1, hcs1⟩ := hu
          rcases hcs1 with ⟨r_20_e, F, hvr, hF⟩ | ⟨r_20_e, hvr⟩
          · subst r_20_e
            have hfl := hF.2.2.1
            refine lv_if_ne (tgt := 28) hx hb dX11_at_23 (by decide) (fun c_23 => ?_) (fun c_23 => ?_)
            · have n_23 := nb_ne (a := 1) (b := 0) c_23 (by omega) (by omega)
              refine lv_iconst (v := 0) hx hb dX11_at_28 (by decide) ?_
              refine k_topi (y := nI 0) (by rfl) ?_
              refine lv_istore (lv' := [(4, .int (nI 0)), (0, .ref h), (1, .int x), (2, .int y), (3, .int wh)]) hx hb dX11_at_29 hl (by decide) rfl (fun ls hl => ?_)
              refine lv_iconst (v := 0) hx hb dX11_at_31 (by decide) ?_
              refine k_topi (y := nI 0) (by rfl) ?_
              refine lv_istore (lv' := [(5, .int (nI 0)), (4, .int (nI 0)), (0, .ref h), (1, .int x), (2, .int y), (3, .int wh)]) hx hb dX11_at_32 hl (by decide) rfl (fun ls hl => ?_)
              obtain ⟨yn, hy31, hyn⟩ := nI_of c_6
              subst hyn
              exact lp_mat (iv0 := iv1_) (av0 := av1_) (res := atB (mW ob) wh F yn) C (ho.same hs1 ha1 (by decide) (by decide) (by decide) (by decide) (by decide) (by decide)) hF hy31 (wh_cols c_10 c_15) (fun iv2 av2 a1 a2 a3 r a4 => ⟨iv2, av2, rfl, (hs1.mo (by decide)).tr a1 (by decide), (ha1.mo (by decide)).tr a2 (by decide), a3, by rw [if_pos ⟨c_6, c_10, c_15⟩, hvr, a4, nI_clamp hy31]; rfl⟩) F.length 0 0 iv1_ av1_ (by omega) (by omega) (by omega) sI.rf sA.rf (by rw [ha1 14 (by decide)]; exact hf14) rfl _ _ _ G (lv_sub hl [0, 1, 2, 3, 4, 5] rfl)
            · exact absurd c_23 (by decide)
          · subst r_20_e
            refine lv_if_ne (tgt := 28) hx hb dX11_at_23 (by decide) (fun c_23 => ?_) (fun c_23 => ?_)
            · exact absurd c_23 (by decide)
            · have n_23 := nb_eq (a := 0) (b := 0) c_23 (by omega) (by omega)
              refine lv_iconst (v := (-1)) hx hb dX11_at_26 (by decide) ?_
              exact kr_i C G ⟨_, _, rfl, hs1.mo (by decide), ha1.mo (by decide), by rw [ha1 14 (by decide)]; exact hf14, by rw [hvr]; exact (ite_self _).symm⟩ (Nat.le_of_ble_eq_true rfl) (Nat.le_of_ble_eq_true rfl) dX11_at_27
