/-! MODEL (X11): readEntry. -/
theorem lcm_n {b c : Nat} (hb : b < 256) (hc : c < 256) (q : Int64) (hq : q = (nI c).toInt64) : lcm (nI b).toInt64 q = 0 ↔ b = c := by
  rw [lcm_z, hq]
  constructor
  · intro h
    exact (nI_eq (a := b) (b := c) (by omega) (by omega)).mp (i2l_inj h)
  · intro h; rw [h]
theorem l76 : (76 : Int64) = (nI 76).toInt64 := by decide
theorem l67 : (67 : Int64) = (nI 67).toInt64 := by decide
theorem lz76 : ¬ lcm 0 76 = 0 := by rw [lcm_z]; decide
theorem lz67 : ¬ lcm 0 67 = 0 := by rw [lcm_z]; decide
set_option maxRecDepth 100000 in
set_option maxHeartbeats 4000000 in
theorem c_X11_readEntry (Z : zT) (l : Launch) (h : Nat) (ad : Nat → Nat) (iv : ivT) (av : avT) (ob : List obT) (v : Int32) (ho : mo_ok iv av ob) : Ki Z l yX11_readEntry cX11_readEntry 5 (some .boolean) ({ frames := 2, cells := 0, slots := 0, locals := 70 }) [.ref h, .int v] (mdW Z h ad iv av) (fun r u => ∃ (iv2 : ivT) (av2 : avT), u = mdW Z h ad iv2 av2 ∧ sI [16, 17, 18, 26] iv iv2 ∧ sA [27, 28, 29] av av2 ∧ ((r = 1 ∧ ∃ bs, mLk ob 1 v = some bs ∧ enS (fnB bs) bs.length v ∧ iv2 26 = nI (ub (fnB bs 5)) ∧ ∀ j, j < ub (fnB bs 5) → av2 27 j = nI (aK (fnB bs) j) ∧ av2 28 j = aN (fnB bs) j ∧ av2 29 j = nI (aP (fnB bs) j)) ∨ (r = 0 ∧ ∀ bs, mLk ob 1 v = some bs → ¬ enS (fnB bs) bs.length v))) := by
  intro sz
  refine Met.ofK (cc := cX11_readEntry) (maxL := 5) (ret := (some .boolean)) (by decide) (Nat.le_of_ble_eq_true rfl) ?_
  intro p e s m below meth c ls C G hl
  generalize va_A _ sz = A at G ⊢
  have hx := C.1
  have hb := C.2.1
  have hown := C.2.2.2.2.2.1
  have hts := C.2.2.2.2.2.2.1
  have hob := ho.2.1
  refine lv_aload_n hx hb dX11_readEntry_0 rfl (lv_at hl 0 rfl) ?_
  refine lv_iconst (v := 1) hx hb dX11_readEntry_1 (by decide) ?_
  refine lv_iload_n hx hb dX11_readEntry_2 rfl (lv_at hl 1 rfl) ?_
  refine kcM_i G (krV 2 rfl (As := [.int 1, .int v]) (rest := []) (ci := 12) (CC := RX11) (T := TX11) (N := 61) C G pmN (c_X11_place Z l h ad iv av ob 1 v ho _) (gdV ml_X11_165 im_X11_place se_X11_place ii_X11 co_X11_place) (by decide +kernel) ⟨Nat.le_of_ble_eq_true rfl, Nat.le_of_ble_eq_true rfl⟩ rfl 0 rfl hl rfl (Nat.le_of_ble_eq_true rfl) ⟨Nat.le_of_ble_eq_true rfl, Nat.le_of_ble_eq_true rfl⟩ dX11_readEntry_3) (fun r_3 u H locs hu G => ?_)
  obtain ⟨r_3_e, rfl⟩ := hu
  rcases plR_cases ob 1 v with ⟨hn, hq⟩ | ⟨k, o, hk1, hk, ho1, ho2, hq⟩
  · rw [hq] at r_3_e
    subst r_3_e
    refine lv_istore_n (lv' := [(2, .int (-1)), (0, .ref h), (1, .int v)]) hx hb dX11_readEntry_6 rfl hl (by decide) rfl (fun ls hl => ?_)
    refine lv_iload_n hx hb dX11_readEntry_7 rfl (lv_at hl 0 rfl) ?_
    refine lv_if_ge (tgt := 13) hx hb dX11_readEntry_8 (by decide) (fun c_8 => ?_) (fun c_8 => ?_)
    · exact absurd c_8 (by decide)
    · refine lv_iconst (v := 0) hx hb dX11_readEntry_11 (by decide) ?_
      exact kr_z C G (by decide) ⟨iv, av, rfl, sI.rf, sA.rf, Or.inr ⟨rfl, fun bs hbs => by rw [mLk_n hn] at hbs; cases hbs⟩⟩ (Nat.le_of_ble_eq_true rfl) (Nat.le_of_ble_eq_true rfl) dX11_readEntry_12
  · rw [hq] at r_3_e
    subst r_3_e
    have hkl := (List.getElem?_eq_some_iff.mp hk).1
    have hol := (ho.2.2.2.1 k o hk).2.2.2.1
    have hou := (ho.2.2.2.1 k o hk).2.2.2.2.1
    refine lv_istore_n (lv' := [(2, .int (nI k)), (0, .ref h), (1, .int v)]) hx hb dX11_readEntry_6 rfl hl (by decide) rfl (fun ls hl => ?_)
    refine lv_iload_n hx hb dX11_readEntry_7 rfl (lv_at hl 0 rfl) ?_
    refine lv_if_ge (tgt := 13) hx hb dX11_readEntry_8 (by decide) (fun c_8 => ?_) (fun c_8 => ?_)
    · have n_8 := nb_le (a := 0) (b := k) c_8 (by omega) (by omega)
      refine lv_aload_n hx hb dX11_readEntry_13 rfl (lv_at hl 1 rfl) ?_
      refine lv_iload_n hx hb dX11_readEntry_14 rfl (lv_at hl 0 rfl) ?_
      refine kcM_v G (krV 1 rfl (As := [.int (nI k)]) (rest := []) (ci := 12) (CC := RX11) (T := TX11) (N := 61) C G pmN (c_X11_opens Z l h ad iv av ob k o ho.2.2.2 hob hk _) (gdV ml_X11_217 im_X11_opens se_X11_opens ii_X11 co_X11_opens) (by decide +kernel) ⟨Nat.le_of_ble_eq_true rfl, Nat.le_of_ble_eq_true rfl⟩ rfl 0 rfl hl rfl (Nat.le_of_ble_eq_true rfl) ⟨Nat.le_of_ble_eq_true rfl, Nat.le_of_ble_eq_true rfl⟩ dX11_readEntry_15) (fun u H locs hu G => ?_)
      obtain ⟨iv1_, rfl, hs1, h16_1, h17_1, hcs1⟩ := hu
      rcases hcs1 with ⟨hok, h18_1⟩ | ⟨hok, h18_1⟩
      · have hz1 := trivial
        refine lv_aload_n hx hb dX11_readEntry_18 rfl (lv_at hl 1 rfl) ?_
        refine lv_aload_n hx hb dX11_readEntry_19 rfl (lv_at hl 1 rfl) ?_
        refine k_mgi (v := 1) C G 18 (by decide) mr_18 h18_1 fl_X11_175 rfl dX11_readEntry_20 ?_
        refine lv_if_eq (tgt := 52) hx hb dX11_readEntry_23 (by decide) (fun c_23 => ?_) (fun c_23 => ?_)
        · exact absurd c_23 (by decide)
        · have n_23 := nb_ne (a := 1) (b := 0) c_23 (by omega) (by omega)
          refine lv_aload_n hx hb dX11_readEntry_26 rfl (lv_at hl 1 rfl) ?_
          refine lv_iconst (v := 1) hx hb dX11_readEntry_27 (by decide) ?_
          refine kcM_l G (krV 1 rfl (As := [.int 1]) (rest := [.ref h]) (ci := 12) (CC := RX11) (T := TX11) (N := 61) C G pmN (c_mt1 Z l h ad iv1_ av (1400 * k) (1400 * k + o.2.2.length - 4) 1 h16_1 h17_1 h18_1 (Or.inr rfl) (by omega) (by omega) _) (gdV ml_X11_213 im_X11_take se_X11_take ii_X11 co_X11_take) (by decide +kernel) ⟨Nat.le_of_ble_eq_true rfl, Nat.le_of_ble_eq_true rfl⟩ rfl 0 rfl hl rfl (Nat.le_of_ble_eq_true rfl) ⟨Nat.le_of_ble_eq_true rfl, Nat.le_of_ble_eq_true rfl⟩ dX11_readEntry_28) (fun r_28 u H locs hu G => ?_)
          obtain ⟨iv2_, rfl, hs2, h16_2, hcs2⟩ := hu
          have h17_2 : iv2_ 17 = nI (1400 * k + o.2.2.length - 4) := (hs2 17 (by decide)).trans h17_1
          rcases hcs2 with ⟨hg_2, hle_2, h18_2, r_28_e⟩ | ⟨hno_2, h18_2, r_28_e⟩
          · obtain ⟨bb_2, hbb_2⟩ : ∃ b, b = ub ((av 3) (1400 * k)) := ⟨_, rfl⟩
            have hlbb_2 : bb_2 < 256 := by rw [hbb_2]; exact ub_lt _
            replace r_28_e : r_28 = (nI bb_2).toInt64 := by rw [hbb_2]; exact r_28_e
            subst r_28_e
            refine lv_ldc2 (v := 76) hx hb hown (hts _ kl_X11_234) dX11_readEntry_31 ?_
            refine W.lcmp hx hb dX11_readEntry_34 ?_
            refine lv_if_ne (tgt := 52) hx hb dX11_readEntry_35 (by decide) (fun c_35 => ?_) (fun c_35 => ?_)
            · refine lv_iconst (v := 0) hx hb dX11_readEntry_52 (by decide) ?_
              refine k_mpi (v := 0) (ty := .boolean) C G 18 (by decide) mr_18 fl_X11_175 rfl rfl rfl rfl rfl dX11_readEntry_53 (fun H locs (G : wd Z A s (mdW Z h ad (upd iv2_ 18 0) av) H locs) => ?_)
              refine lv_aload_n hx hb dX11_readEntry_56 rfl (lv_at hl 1 rfl) ?_
              refine lv_aload_n hx hb dX11_readEntry_57 rfl (lv_at hl 1 rfl) ?_
              refine lv_iconst (v := 1) hx hb dX11_readEntry_58 (by decide) ?_
              refine kcM_l G (krV 1 rfl (As := [.int 1]) (rest := [.ref h]) (ci := 12) (CC := RX11) (T := TX11) (N := 61) C G pmN (c_mt1 Z l h ad (upd iv2_ 18 0) av (1400 * k + 1) (1400 * k + o.2.2.length - 4) 0 h16_2 h17_2 rfl (Or.inl rfl) (by omega) (by omega) _) (gdV ml_X11_213 im_X11_take se_X11_take ii_X11 co_X11_take) (by decide +kernel) ⟨Nat.le_of_ble_eq_true rfl, Nat.le_of_ble_eq_true rfl⟩ rfl 0 rfl hl rfl (Nat.le_of_ble_eq_true rfl) ⟨Nat.le_of_ble_eq_true rfl, Nat.le_of_ble_eq_true rfl⟩ dX11_readEntry_59) (fun r_59 u H locs hu G => ?_)
              obtain ⟨iv3_, rfl, hs3, h16_3, hcs3⟩ := hu
              have h17_3 : iv3_ 17 = nI (1400 * k + o.2.2.length - 4) := (hs3 17 (by decide)).trans h17_2
              rcases hcs3 with ⟨hg_3, _, _, _⟩ | ⟨hno_3, h18_3, r_59_e⟩
              · exact absurd hg_3 (by decide)
              · subst r_59_e
                refine lv_l2i (v := (0 : Int64).toInt32) hx hb dX11_readEntry_62 rfl ?_
                refine k_topi (y := nI 0) (by decide) ?_
                refine k_mpi (v := nI 0) (ty := .int) C G 26 (by decide) mr_26 fl_X11_236 rfl rfl rfl rfl rfl dX11_readEntry_63 (fun H locs (G : wd Z A s (mdW Z h ad (upd iv3_ 26 (nI 0)) av) H locs) => ?_)
                refine lv_iconst (v := 0) hx hb dX11_readEntry_66 (by decide) ?_
                refine k_topi (y := nI 0) (by rfl) ?_
                refine lv_istore_n (lv' := [(3, .int (nI 0)), (2, .int (nI k)), (0, .ref h), (1, .int v)]) hx hb dX11_readEntry_67 rfl hl (by decide) rfl (fun ls hl => ?_)
                exact lp_mre0 (iv := (upd iv3_ 26 (nI 0))) (av := av) C h18_3 ⟨(upd iv3_ 26 (nI 0)), av, rfl, (((((sI.rf.tr hs1 (by decide)).tr hs2 (by decide)).up (by decide) _).tr hs3 (by decide)).up (by decide) _), sA.rf, Or.inr ⟨rfl, fun bs hbs hen => by
                  rw [mLk_s hk1 hk] at hbs; cases hbs
                  have hfr := (frm_ok hol).mp hen.1
                  exact c_35 ((lcm_n hlbb_2 (by omega) _ l76).mpr (by have h9 := hfr.2.1; rw [hbb_2]; have h8 := mo_ub ho.2.2.2 hk (i := 0) (by omega); rw [Nat.add_zero] at h8; rw [h8]; exact (nI_eq (by have := ub_lt (fnB o.2.2 0); omega) (by omega)).mp h9))⟩⟩ G (lv_sub hl [0, 2, 3, 1] rfl)
            · refine lv_aload_n hx hb dX11_readEntry_38 rfl (lv_at hl 1 rfl) ?_
              refine lv_iconst (v := 4) hx hb dX11_readEntry_39 (by decide) ?_
              refine kcM_l G (krV 1 rfl (As := [.int 4]) (rest := [.ref h]) (ci := 12) (CC := RX11) (T := TX11) (N := 61) C G pmN (c_mt4 Z l h ad iv2_ av (1400 * k + 1) (1400 * k + o.2.2.length - 4) 1 h16_2 h17_2 h18_2 (Or.inr rfl) (by omega) (by omega) _) (gdV ml_X11_213 im_X11_take se_X11_take ii_X11 co_X11_take) (by decide +kernel) ⟨Nat.le_of_ble_eq_true rfl, Nat.le_of_ble_eq_true rfl⟩ rfl 0 rfl hl rfl (Nat.le_of_ble_eq_true rfl) ⟨Nat.le_of_ble_eq_true rfl, Nat.le_of_ble_eq_true rfl⟩ dX11_readEntry_40) (fun r_40 u H locs hu G => ?_)
              obtain ⟨iv4_, rfl, hs4, h16_4, hcs4⟩ := hu
              have h17_4 : iv4_ 17 = nI (1400 * k + o.2.2.length - 4) := (hs4 17 (by decide)).trans h17_2
              rcases hcs4 with ⟨hg_4, hle_4, h18_4, r_40_e⟩ | ⟨hno_4, h18_4⟩
              · refine lv_l2i (v := r_40.toInt32) hx hb dX11_readEntry_43 rfl ?_
                refine k_topi (y := r4 (av 3) (1400 * k + 1)) r_40_e ?_
                refine lv_iload_n hx hb dX11_readEntry_44 rfl (lv_at hl 2 rfl) ?_
                refine lv_icmp_ne (tgt := 52) hx hb dX11_readEntry_45 (by decide) (fun c_45 => ?_) (fun c_45 => ?_)
                · refine lv_iconst (v := 0) hx hb dX11_readEntry_52 (by decide) ?_
                  refine k_mpi (v := 0) (ty := .boolean) C G 18 (by decide) mr_18 fl_X11_175 rfl rfl rfl rfl rfl dX11_readEntry_53 (fun H locs (G : wd Z A s (mdW Z h ad (upd iv4_ 18 0) av) H locs) => ?_)
                  refine lv_aload_n hx hb dX11_readEntry_56 rfl (lv_at hl 1 rfl) ?_
                  refine lv_aload_n hx hb dX11_readEntry_57 rfl (lv_at hl 1 rfl) ?_
                  refine lv_iconst (v := 1) hx hb dX11_readEntry_58 (by decide) ?_
                  refine kcM_l G (krV 1 rfl (As := [.int 1]) (rest := [.ref h]) (ci := 12) (CC := RX11) (T := TX11) (N := 61) C G pmN (c_mt1 Z l h ad (upd iv4_ 18 0) av (1400 * k + 1 + 4) (1400 * k + o.2.2.length - 4) 0 h16_4 h17_4 rfl (Or.inl rfl) (by omega) (by omega) _) (gdV ml_X11_213 im_X11_take se_X11_take ii_X11 co_X11_take) (by decide +kernel) ⟨Nat.le_of_ble_eq_true rfl, Nat.le_of_ble_eq_true rfl⟩ rfl 0 rfl hl rfl (Nat.le_of_ble_eq_true rfl) ⟨Nat.le_of_ble_eq_true rfl, Nat.le_of_ble_eq_true rfl⟩ dX11_readEntry_59) (fun r_59_1 u H locs hu G => ?_)
                  obtain ⟨iv5_, rfl, hs5, h16_5, hcs5⟩ := hu
                  have h17_5 : iv5_ 17 = nI (1400 * k + o.2.2.length - 4) := (hs5 17 (by decide)).trans h17_4
                  rcases hcs5 with ⟨hg_5, _, _, _⟩ | ⟨hno_5, h18_5, r_59_1_e⟩
                  · exact absurd hg_5 (by decide)
                  · subst r_59_1_e
                    refine lv_l2i (v := (0 : Int64).toInt32) hx hb dX11_readEntry_62 rfl ?_
                    refine k_topi (y := nI 0) (by decide) ?_
                    refine k_mpi (v := nI 0) (ty := .int) C G 26 (by decide) mr_26 fl_X11_236 rfl rfl rfl rfl rfl dX11_readEntry_63 (fun H locs (G : wd Z A s (mdW Z h ad (upd iv5_ 26 (nI 0)) av) H locs) => ?_)
                    refine lv_iconst (v := 0) hx hb dX11_readEntry_66 (by decide) ?_
                    refine k_topi (y := nI 0) (by rfl) ?_
                    refine lv_istore_n (lv' := [(3, .int (nI 0)), (2, .int (nI k)), (0, .ref h), (1, .int v)]) hx hb dX11_readEntry_67 rfl hl (by decide) rfl (fun ls hl => ?_)
                    exact lp_mre0 (iv := (upd iv5_ 26 (nI 0))) (av := av) C h18_5 ⟨(upd iv5_ 26 (nI 0)), av, rfl, ((((((sI.rf.tr hs1 (by decide)).tr hs2 (by decide)).tr hs4 (by decide)).up (by decide) _).tr hs5 (by decide)).up (by decide) _), sA.rf, Or.inr ⟨rfl, fun bs hbs hen => by
                      rw [mLk_s hk1 hk] at hbs; cases hbs
                      have hfr := (frm_ok hol).mp hen.1
                      exact c_45 (by rw [mo_r4 ho.2.2.2 hk (i := 1) (by omega)]; exact hfr.2.2.1)⟩⟩ G (lv_sub hl [0, 2, 3, 1] rfl)
                · refine lv_iconst (v := 1) hx hb dX11_readEntry_48 (by decide) ?_
                  refine lv_goto (tgt := 53) hx hb dX11_readEntry_49 (by decide) ?_
                  refine k_mpi (v := 1) (ty := .boolean) C G 18 (by decide) mr_18 fl_X11_175 rfl rfl rfl rfl rfl dX11_readEntry_53 (fun H locs (G : wd Z A s (mdW Z h ad (upd iv4_ 18 1) av) H locs) => ?_)
                  refine lv_aload_n hx hb dX11_readEntry_56 rfl (lv_at hl 1 rfl) ?_
                  refine lv_aload_n hx hb dX11_readEntry_57 rfl (lv_at hl 1 rfl) ?_
                  refine lv_iconst (v := 1) hx hb dX11_readEntry_58 (by decide) ?_
                  refine kcM_l G (krV 1 rfl (As := [.int 1]) (rest := [.ref h]) (ci := 12) (CC := RX11) (T := TX11) (N := 61) C G pmN (c_mt1 Z l h ad (upd iv4_ 18 1) av (1400 * k + 1 + 4) (1400 * k + o.2.2.length - 4) 1 h16_4 h17_4 rfl (Or.inr rfl) (by omega) (by omega) _) (gdV ml_X11_213 im_X11_take se_X11_take ii_X11 co_X11_take) (by decide +kernel) ⟨Nat.le_of_ble_eq_true rfl, Nat.le_of_ble_eq_true rfl⟩ rfl 0 rfl hl rfl (Nat.le_of_ble_eq_true rfl) ⟨Nat.le_of_ble_eq_true rfl, Nat.le_of_ble_eq_true rfl⟩ dX11_readEntry_59) (fun r_59_2 u H locs hu G => ?_)
                  obtain ⟨iv6_, rfl, hs6, h16_6, hcs6⟩ := hu
                  have h17_6 : iv6_ 17 = nI (1400 * k + o.2.2.length - 4) := (hs6 17 (by decide)).trans h17_4
                  rcases hcs6 with ⟨hg_6, hle_6, h18_6, r_59_2_e⟩ | ⟨hno_6, h18_6, r_59_2_e⟩
                  · obtain ⟨bb_6, hbb_6⟩ : ∃ b, b = ub ((av 3) (1400 * k + 1 + 4)) := ⟨_, rfl⟩
                    have hlbb_6 : bb_6 < 256 := by rw [hbb_6]; exact ub_lt _
                    replace r_59_2_e : r_59_2 = (nI bb_6).toInt64 := by rw [hbb_6]; exact r_59_2_e
                    subst r_59_2_e
                    refine lv_l2i (v := ((nI bb_6).toInt64).toInt32) hx hb dX11_readEntry_62 rfl ?_
                    refine k_topi (y := nI bb_6) (l2i_i2l _) ?_
                    refine k_mpi (v := nI bb_6) (ty := .int) C G 26 (by decide) mr_26 fl_X11_236 rfl rfl rfl rfl rfl dX11_readEntry_63 (fun H locs (G : wd Z A s (mdW Z h ad (upd iv6_ 26 (nI bb_6)) av) H locs) => ?_)
                    refine lv_iconst (v := 0) hx hb dX11_readEntry_66 (by decide) ?_
                    refine k_topi (y := nI 0) (by rfl) ?_
                    refine lv_istore_n (lv' := [(3, .int (nI 0)), (2, .int (nI k)), (0, .ref h), (1, .int v)]) hx hb dX11_readEntry_67 rfl hl (by decide) rfl (fun ls hl => ?_)
                    have hA5 : bb_6 = ub (fnB o.2.2 5) := by rw [hbb_6, show 1400 * k + 1 + 4 = 1400 * k + 5 by omega]; exact mo_ub ho.2.2.2 hk (by omega)
                    have hfrm : o.2.2.length = 10 + 6 * bb_6 → frm (fnB o.2.2) o.2.2.length 6 76 v := fun hL => (frm_ok hol).mpr ⟨hok, by have h8 := mo_ub ho.2.2.2 hk (i := 0) (by omega); rw [Nat.add_zero] at h8; rw [← h8, ← hbb_2, (lcm_n hlbb_2 (by omega) _ l76).mp c_35]; rfl, by rw [← mo_r4 ho.2.2.2 hk (i := 1) (by omega)]; exact c_45, by rw [← hA5, hL]; omega⟩
                    exact lp_mre (iv0 := (upd iv6_ 26 (nI bb_6))) (av0 := av) C ho.2.2.2 hob hk hlbb_6 h17_6 rfl (fun iv2 av2 a1 a2 a3 => ⟨iv2, av2, rfl, (((((((sI.rf.tr hs1 (by decide)).tr hs2 (by decide)).tr hs4 (by decide)).up (by decide) _).tr hs6 (by decide)).up (by decide) _)).tr a1 (by decide), a2, Or.inr ⟨rfl, fun bs hbs hen => by
                      rw [mLk_s hk1 hk] at hbs; cases hbs
                      exact a3 ⟨by have h9 := ((frm_ok hol).mp hen.1).2.2.2; rw [← hA5] at h9; omega, fun j hj => hen.2 j (by rw [← hA5]; exact hj)⟩⟩⟩) (fun iv2 av2 a1 a2 a3 a4 => ⟨iv2, av2, rfl, (((((((sI.rf.tr hs1 (by decide)).tr hs2 (by decide)).tr hs4 (by decide)).up (by decide) _).tr hs6 (by decide)).up (by decide) _)).tr a1 (by decide), a2, Or.inl ⟨rfl, o.2.2, mLk_s hk1 hk, ⟨hfrm a3.1, fun j hj => a3.2 j (by rw [hA5]; exact hj)⟩, by rw [a1 26 (by decide), ← hA5]; rfl, fun j hj => a4 j (by rw [hA5]; exact hj)⟩⟩) bb_6 0 (upd iv6_ 26 (nI bb_6)) av (by omega) (h16_6.trans (congrArg nI (by omega))) h18_6 sI.rf sA.rf (fun j hj => absurd hj (by omega)) _ _ _ G (lv_sub hl [0, 2, 3, 1] rfl)
                  · subst r_59_2_e
                    refine lv_l2i (v := (0 : Int64).toInt32) hx hb dX11_readEntry_62 rfl ?_
                    refine k_topi (y := nI 0) (by decide) ?_
                    refine k_mpi (v := nI 0) (ty := .int) C G 26 (by decide) mr_26 fl_X11_236 rfl rfl rfl rfl rfl dX11_readEntry_63 (fun H locs (G : wd Z A s (mdW Z h ad (upd iv6_ 26 (nI 0)) av) H locs) => ?_)
                    refine lv_iconst (v := 0) hx hb dX11_readEntry_66 (by decide) ?_
                    refine k_topi (y := nI 0) (by rfl) ?_
                    refine lv_istore_n (lv' := [(3, .int (nI 0)), (2, .int (nI k)), (0, .ref h), (1, .int v)]) hx hb dX11_readEntry_67 rfl hl (by decide) rfl (fun ls hl => ?_)
                    exact lp_mre0 (iv := (upd iv6_ 26 (nI 0))) (av := av) C h18_6 ⟨(upd iv6_ 26 (nI 0)), av, rfl, ((((((sI.rf.tr hs1 (by decide)).tr hs2 (by decide)).tr hs4 (by decide)).up (by decide) _).tr hs6 (by decide)).up (by decide) _), sA.rf, Or.inr ⟨rfl, fun bs hbs hen => by
                      rw [mLk_s hk1 hk] at hbs; cases hbs
                      have hfr := (frm_ok hol).mp hen.1
                      exact absurd ⟨rfl, by have := hfr.2.2.2; omega⟩ hno_6⟩⟩ G (lv_sub hl [0, 2, 3, 1] rfl)
              · refine lv_l2i (v := r_40.toInt32) hx hb dX11_readEntry_43 rfl ?_
                refine lv_topi (fun x4_4 ex4_4 => ?_)
                refine lv_iload_n hx hb dX11_readEntry_44 rfl (lv_at hl 2 rfl) ?_
                refine lv_icmp_ne (tgt := 52) hx hb dX11_readEntry_45 (by decide) (fun c_45 => ?_) (fun c_45 => ?_)
                · refine lv_iconst (v := 0) hx hb dX11_readEntry_52 (by decide) ?_
                  refine k_mpi (v := 0) (ty := .boolean) C G 18 (by decide) mr_18 fl_X11_175 rfl rfl rfl rfl rfl dX11_readEntry_53 (fun H locs (G : wd Z A s (mdW Z h ad (upd iv4_ 18 0) av) H locs) => ?_)
                  refine lv_aload_n hx hb dX11_readEntry_56 rfl (lv_at hl 1 rfl) ?_
                  refine lv_aload_n hx hb dX11_readEntry_57 rfl (lv_at hl 1 rfl) ?_
                  refine lv_iconst (v := 1) hx hb dX11_readEntry_58 (by decide) ?_
                  refine kcM_l G (krV 1 rfl (As := [.int 1]) (rest := [.ref h]) (ci := 12) (CC := RX11) (T := TX11) (N := 61) C G pmN (c_mt1 Z l h ad (upd iv4_ 18 0) av (1400 * k + 1 + 4) (1400 * k + o.2.2.length - 4) 0 h16_4 h17_4 rfl (Or.inl rfl) (by omega) (by omega) _) (gdV ml_X11_213 im_X11_take se_X11_take ii_X11 co_X11_take) (by decide +kernel) ⟨Nat.le_of_ble_eq_true rfl, Nat.le_of_ble_eq_true rfl⟩ rfl 0 rfl hl rfl (Nat.le_of_ble_eq_true rfl) ⟨Nat.le_of_ble_eq_true rfl, Nat.le_of_ble_eq_true rfl⟩ dX11_readEntry_59) (fun r_59_3 u H locs hu G => ?_)
                  obtain ⟨iv7_, rfl, hs7, h16_7, hcs7⟩ := hu
                  have h17_7 : iv7_ 17 = nI (1400 * k + o.2.2.length - 4) := (hs7 17 (by decide)).trans h17_4
                  rcases hcs7 with ⟨hg_7, _, _, _⟩ | ⟨hno_7, h18_7, r_59_3_e⟩
                  · exact absurd hg_7 (by decide)
                  · subst r_59_3_e
                    refine lv_l2i (v := (0 : Int64).toInt32) hx hb dX11_readEntry_62 rfl ?_
                    refine k_topi (y := nI 0) (by decide) ?_
                    refine k_mpi (v := nI 0) (ty := .int) C G 26 (by decide) mr_26 fl_X11_236 rfl rfl rfl rfl rfl dX11_readEntry_63 (fun H locs (G : wd Z A s (mdW Z h ad (upd iv7_ 26 (nI 0)) av) H locs) => ?_)
                    refine lv_iconst (v := 0) hx hb dX11_readEntry_66 (by decide) ?_
                    refine k_topi (y := nI 0) (by rfl) ?_
                    refine lv_istore_n (lv' := [(3, .int (nI 0)), (2, .int (nI k)), (0, .ref h), (1, .int v)]) hx hb dX11_readEntry_67 rfl hl (by decide) rfl (fun ls hl => ?_)
                    exact absurd ⟨rfl, by omega⟩ hno_4
                · refine lv_iconst (v := 1) hx hb dX11_readEntry_48 (by decide) ?_
                  refine lv_goto (tgt := 53) hx hb dX11_readEntry_49 (by decide) ?_
                  refine k_mpi (v := 1) (ty := .boolean) C G 18 (by decide) mr_18 fl_X11_175 rfl rfl rfl rfl rfl dX11_readEntry_53 (fun H locs (G : wd Z A s (mdW Z h ad (upd iv4_ 18 1) av) H locs) => ?_)
                  refine lv_aload_n hx hb dX11_readEntry_56 rfl (lv_at hl 1 rfl) ?_
                  refine lv_aload_n hx hb dX11_readEntry_57 rfl (lv_at hl 1 rfl) ?_
                  refine lv_iconst (v := 1) hx hb dX11_readEntry_58 (by decide) ?_
                  refine kcM_l G (krV 1 rfl (As := [.int 1]) (rest := [.ref h]) (ci := 12) (CC := RX11) (T := TX11) (N := 61) C G pmN (c_mt1 Z l h ad (upd iv4_ 18 1) av (1400 * k + 1 + 4) (1400 * k + o.2.2.length - 4) 1 h16_4 h17_4 rfl (Or.inr rfl) (by omega) (by omega) _) (gdV ml_X11_213 im_X11_take se_X11_take ii_X11 co_X11_take) (by decide +kernel) ⟨Nat.le_of_ble_eq_true rfl, Nat.le_of_ble_eq_true rfl⟩ rfl 0 rfl hl rfl (Nat.le_of_ble_eq_true rfl) ⟨Nat.le_of_ble_eq_true rfl, Nat.le_of_ble_eq_true rfl⟩ dX11_readEntry_59) (fun r_59_4 u H locs hu G => ?_)
                  obtain ⟨iv8_, rfl, hs8, h16_8, hcs8⟩ := hu
                  have h17_8 : iv8_ 17 = nI (1400 * k + o.2.2.length - 4) := (hs8 17 (by decide)).trans h17_4
                  rcases hcs8 with ⟨hg_8, hle_8, h18_8, r_59_4_e⟩ | ⟨hno_8, h18_8, r_59_4_e⟩
                  · obtain ⟨bb_8, hbb_8⟩ : ∃ b, b = ub ((av 3) (1400 * k + 1 + 4)) := ⟨_, rfl⟩
                    have hlbb_8 : bb_8 < 256 := by rw [hbb_8]; exact ub_lt _
                    replace r_59_4_e : r_59_4 = (nI bb_8).toInt64 := by rw [hbb_8]; exact r_59_4_e
                    subst r_59_4_e
                    refine lv_l2i (v := ((nI bb_8).toInt64).toInt32) hx hb dX11_readEntry_62 rfl ?_
                    refine k_topi (y := nI bb_8) (l2i_i2l _) ?_
                    refine k_mpi (v := nI bb_8) (ty := .int) C G 26 (by decide) mr_26 fl_X11_236 rfl rfl rfl rfl rfl dX11_readEntry_63 (fun H locs (G : wd Z A s (mdW Z h ad (upd iv8_ 26 (nI bb_8)) av) H locs) => ?_)
                    refine lv_iconst (v := 0) hx hb dX11_readEntry_66 (by decide) ?_
                    refine k_topi (y := nI 0) (by rfl) ?_
                    refine lv_istore_n (lv' := [(3, .int (nI 0)), (2, .int (nI k)), (0, .ref h), (1, .int v)]) hx hb dX11_readEntry_67 rfl hl (by decide) rfl (fun ls hl => ?_)
                    exact absurd ⟨rfl, by omega⟩ hno_4
                  · subst r_59_4_e
                    refine lv_l2i (v := (0 : Int64).toInt32) hx hb dX11_readEntry_62 rfl ?_
                    refine k_topi (y := nI 0) (by decide) ?_
                    refine k_mpi (v := nI 0) (ty := .int) C G 26 (by decide) mr_26 fl_X11_236 rfl rfl rfl rfl rfl dX11_readEntry_63 (fun H locs (G : wd Z A s (mdW Z h ad (upd iv8_ 26 (nI 0)) av) H locs) => ?_)
                    refine lv_iconst (v := 0) hx hb dX11_readEntry_66 (by decide) ?_
                    refine k_topi (y := nI 0) (by rfl) ?_
                    refine lv_istore_n (lv' := [(3, .int (nI 0)), (2, .int (nI k)), (0, .ref h), (1, .int v)]) hx hb dX11_readEntry_67 rfl hl (by decide) rfl (fun ls hl => ?_)
                    exact absurd ⟨rfl, by omega⟩ hno_4
          · subst r_28_e
            refine lv_ldc2 (v := 76) hx hb hown (hts _ kl_X11_234) dX11_readEntry_31 ?_
            refine W.lcmp hx hb dX11_readEntry_34 ?_
            refine lv_if_ne (tgt := 52) hx hb dX11_readEntry_35 (by decide) (fun c_35 => ?_) (fun c_35 => ?_)
            · refine lv_iconst (v := 0) hx hb dX11_readEntry_52 (by decide) ?_
              refine k_mpi (v := 0) (ty := .boolean) C G 18 (by decide) mr_18 fl_X11_175 rfl rfl rfl rfl rfl dX11_readEntry_53 (fun H locs (G : wd Z A s (mdW Z h ad (upd iv2_ 18 0) av) H locs) => ?_)
              refine lv_aload_n hx hb dX11_readEntry_56 rfl (lv_at hl 1 rfl) ?_
              refine lv_aload_n hx hb dX11_readEntry_57 rfl (lv_at hl 1 rfl) ?_
              refine lv_iconst (v := 1) hx hb dX11_readEntry_58 (by decide) ?_
              refine kcM_l G (krV 1 rfl (As := [.int 1]) (rest := [.ref h]) (ci := 12) (CC := RX11) (T := TX11) (N := 61) C G pmN (c_mt1 Z l h ad (upd iv2_ 18 0) av (1400 * k + 1) (1400 * k + o.2.2.length - 4) 0 h16_2 h17_2 rfl (Or.inl rfl) (by omega) (by omega) _) (gdV ml_X11_213 im_X11_take se_X11_take ii_X11 co_X11_take) (by decide +kernel) ⟨Nat.le_of_ble_eq_true rfl, Nat.le_of_ble_eq_true rfl⟩ rfl 0 rfl hl rfl (Nat.le_of_ble_eq_true rfl) ⟨Nat.le_of_ble_eq_true rfl, Nat.le_of_ble_eq_true rfl⟩ dX11_readEntry_59) (fun r_59_5 u H locs hu G => ?_)
              obtain ⟨iv9_, rfl, hs9, h16_9, hcs9⟩ := hu
              have h17_9 : iv9_ 17 = nI (1400 * k + o.2.2.length - 4) := (hs9 17 (by decide)).trans h17_2
              rcases hcs9 with ⟨hg_9, _, _, _⟩ | ⟨hno_9, h18_9, r_59_5_e⟩
              · exact absurd hg_9 (by decide)
              · subst r_59_5_e
                refine lv_l2i (v := (0 : Int64).toInt32) hx hb dX11_readEntry_62 rfl ?_
                refine k_topi (y := nI 0) (by decide) ?_
                refine k_mpi (v := nI 0) (ty := .int) C G 26 (by decide) mr_26 fl_X11_236 rfl rfl rfl rfl rfl dX11_readEntry_63 (fun H locs (G : wd Z A s (mdW Z h ad (upd iv9_ 26 (nI 0)) av) H locs) => ?_)
                refine lv_iconst (v := 0) hx hb dX11_readEntry_66 (by decide) ?_
                refine k_topi (y := nI 0) (by rfl) ?_
                refine lv_istore_n (lv' := [(3, .int (nI 0)), (2, .int (nI k)), (0, .ref h), (1, .int v)]) hx hb dX11_readEntry_67 rfl hl (by decide) rfl (fun ls hl => ?_)
                exact lp_mre0 (iv := (upd iv9_ 26 (nI 0))) (av := av) C h18_9 ⟨(upd iv9_ 26 (nI 0)), av, rfl, (((((sI.rf.tr hs1 (by decide)).tr hs2 (by decide)).up (by decide) _).tr hs9 (by decide)).up (by decide) _), sA.rf, Or.inr ⟨rfl, fun bs hbs hen => by
                  rw [mLk_s hk1 hk] at hbs; cases hbs
                  have hfr := (frm_ok hol).mp hen.1
                  exact absurd ⟨rfl, by have := hfr.2.2.2; omega⟩ hno_2⟩⟩ G (lv_sub hl [0, 2, 3, 1] rfl)
            · exact absurd c_35 lz76
      · have hz1 := trivial
        refine lv_aload_n hx hb dX11_readEntry_18 rfl (lv_at hl 1 rfl) ?_
        refine lv_aload_n hx hb dX11_readEntry_19 rfl (lv_at hl 1 rfl) ?_
        refine k_mgi (v := 0) C G 18 (by decide) mr_18 h18_1 fl_X11_175 rfl dX11_readEntry_20 ?_
        refine lv_if_eq (tgt := 52) hx hb dX11_readEntry_23 (by decide) (fun c_23 => ?_) (fun c_23 => ?_)
        · have n_23 := nb_eq (a := 0) (b := 0) c_23 (by omega) (by omega)
          refine lv_iconst (v := 0) hx hb dX11_readEntry_52 (by decide) ?_
          refine k_mpi (v := 0) (ty := .boolean) C G 18 (by decide) mr_18 fl_X11_175 rfl rfl rfl rfl rfl dX11_readEntry_53 (fun H locs (G : wd Z A s (mdW Z h ad (upd iv1_ 18 0) av) H locs) => ?_)
          refine lv_aload_n hx hb dX11_readEntry_56 rfl (lv_at hl 1 rfl) ?_
          refine lv_aload_n hx hb dX11_readEntry_57 rfl (lv_at hl 1 rfl) ?_
          refine lv_iconst (v := 1) hx hb dX11_readEntry_58 (by decide) ?_
          refine kcM_l G (krV 1 rfl (As := [.int 1]) (rest := [.ref h]) (ci := 12) (CC := RX11) (T := TX11) (N := 61) C G pmN (c_mt1 Z l h ad (upd iv1_ 18 0) av (1400 * k) (1400 * k + o.2.2.length - 4) 0 h16_1 h17_1 rfl (Or.inl rfl) (by omega) (by omega) _) (gdV ml_X11_213 im_X11_take se_X11_take ii_X11 co_X11_take) (by decide +kernel) ⟨Nat.le_of_ble_eq_true rfl, Nat.le_of_ble_eq_true rfl⟩ rfl 0 rfl hl rfl (Nat.le_of_ble_eq_true rfl) ⟨Nat.le_of_ble_eq_true rfl, Nat.le_of_ble_eq_true rfl⟩ dX11_readEntry_59) (fun r_59_6 u H locs hu G => ?_)
          obtain ⟨iv10_, rfl, hs10, h16_10, hcs10⟩ := hu
          have h17_10 : iv10_ 17 = nI (1400 * k + o.2.2.length - 4) := (hs10 17 (by decide)).trans h17_1
          rcases hcs10 with ⟨hg_10, _, _, _⟩ | ⟨hno_10, h18_10, r_59_6_e⟩
          · exact absurd hg_10 (by decide)
          · subst r_59_6_e
            refine lv_l2i (v := (0 : Int64).toInt32) hx hb dX11_readEntry_62 rfl ?_
            refine k_topi (y := nI 0) (by decide) ?_
            refine k_mpi (v := nI 0) (ty := .int) C G 26 (by decide) mr_26 fl_X11_236 rfl rfl rfl rfl rfl dX11_readEntry_63 (fun H locs (G : wd Z A s (mdW Z h ad (upd iv10_ 26 (nI 0)) av) H locs) => ?_)
            refine lv_iconst (v := 0) hx hb dX11_readEntry_66 (by decide) ?_
            refine k_topi (y := nI 0) (by rfl) ?_
            refine lv_istore_n (lv' := [(3, .int (nI 0)), (2, .int (nI k)), (0, .ref h), (1, .int v)]) hx hb dX11_readEntry_67 rfl hl (by decide) rfl (fun ls hl => ?_)
            exact lp_mre0 (iv := (upd iv10_ 26 (nI 0))) (av := av) C h18_10 ⟨(upd iv10_ 26 (nI 0)), av, rfl, ((((sI.rf.tr hs1 (by decide)).up (by decide) _).tr hs10 (by decide)).up (by decide) _), sA.rf, Or.inr ⟨rfl, fun bs hbs hen => by
              rw [mLk_s hk1 hk] at hbs; cases hbs
              have hfr := (frm_ok hol).mp hen.1
              exact hok hfr.1⟩⟩ G (lv_sub hl [0, 2, 3, 1] rfl)
        · exact absurd c_23 (by decide)
    · exact absurd (nb_nle (a := 0) (b := k) c_8 (by omega) (by omega)) (by omega)
