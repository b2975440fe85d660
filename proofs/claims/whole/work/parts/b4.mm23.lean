/-! MODEL (X11): commit, at, find. -/
set_option maxRecDepth 100000 in
set_option maxHeartbeats 4000000 in
theorem c_X11_commit (Z : zT) (l : Launch) (h : Nat) (ad : Nat → Nat) (iv : ivT) (av : avT) (wn : Nat) (ob : List obT) (nr na : Nat) (ba wo tr pt ro cm lo fa : Int32) (hwn : wn < 4) (ho : mo_ok iv av ob) (hf14 : ∀ i, fits .byte (.int (av 14 i)) = true) (h6 : iv 6 = ro) (h9 : iv 9 = cm) (h10 : iv 10 = lo) (h11 : iv 11 = fa) (hnr : nr + na ≤ 200) (h36 : av 36 wn = ba) (h37 : av 37 wn = wo) (h38 : av 38 wn = tr) (h41 : av 41 wn = pt) (h48 : av 48 wn = nI na) (h54 : av 54 wn = nI nr) : Ki Z l yX11_commit cX11_commit 4 (some .int) ({ frames := 3, cells := 0, slots := 0, locals := 90 }) [.ref h, .int (nI wn)] (mdW Z h ad iv av) (fun r u => ∃ (iv2 : ivT) (av2 : avT), u = mdW Z h ad iv2 av2 ∧ (∀ i, fits .byte (.int (av2 14 i)) = true) ∧ sI [4, 5, 9, 10, 11, 15] iv iv2 ∧ sA [0, 1, 2, 3, 14, 33, 37, 39, 40] av av2 ∧ ((¬ mFi ob 1 (ba + 1) = none ∧ ¬ wo + 1 = tr ∧ r = 4 ∧ mo_ok iv2 av2 ob ∧ iv2 9 = cm ∧ iv2 10 = lo + 1 ∧ iv2 11 = fa ∧ av2 33 = av 33 ∧ av2 37 = upd (av 37) wn (wo + 1) ∧ av2 39 = av 39 ∧ av2 40 = upd (av 40) wn 1) ∨ (¬ mFi ob 1 (ba + 1) = none ∧ wo + 1 = tr ∧ r = -3 ∧ mo_ok iv2 av2 ob ∧ iv2 9 = cm ∧ iv2 10 = lo + 1 ∧ iv2 11 = fa + 1 ∧ av2 33 = upd (av 33) wn 0 ∧ av2 37 = upd (av 37) wn (wo + 1) ∧ av2 39 = av 39 ∧ av2 40 = av 40) ∨ (mFi ob 1 (ba + 1) = none ∧ ¬ (mFi ob 1 (ba + 1) = none ∧ ob.length < 100 ∧ nI (oSz ob + (enE (ba + 1) pt nr na (fun i => av 55 (200 * wn + i)) (fun i => av 52 (200 * wn + i)) (fun i => av 49 (200 * wn + i))).length) ≤ ro) ∧ r = -1 ∧ mo_ok iv2 av2 ob ∧ iv2 9 = cm ∧ iv2 10 = lo ∧ iv2 11 = fa + 1 ∧ av2 33 = upd (av 33) wn 0 ∧ av2 37 = av 37 ∧ av2 39 = av 39 ∧ av2 40 = av 40) ∨ ((mFi ob 1 (ba + 1) = none ∧ ob.length < 100 ∧ nI (oSz ob + (enE (ba + 1) pt nr na (fun i => av 55 (200 * wn + i)) (fun i => av 52 (200 * wn + i)) (fun i => av 49 (200 * wn + i))).length) ≤ ro) ∧ r = 3 ∧ mo_ok iv2 av2 (ob ++ [(1, ba + 1, (enE (ba + 1) pt nr na (fun i => av 55 (200 * wn + i)) (fun i => av 52 (200 * wn + i)) (fun i => av 49 (200 * wn + i))))]) ∧ iv2 9 = cm + 1 ∧ iv2 10 = lo ∧ iv2 11 = fa ∧ av2 33 = upd (av 33) wn 0 ∧ av2 37 = av 37 ∧ av2 39 = upd (av 39) wn (ba + 1) ∧ av2 40 = av 40))) := by
  intro sz
  refine Met.ofK (cc := cX11_commit) (maxL := 4) (ret := (some .int)) (by decide) (Nat.le_of_ble_eq_true rfl) ?_
  intro p e s m below meth c ls C G hl
  generalize va_A _ sz = A at G ⊢
  have hx := C.1
  have hb := C.2.1
  have hown := C.2.2.2.2.2.1
  have hts := C.2.2.2.2.2.2.1
  have hob := ho.2.1
  refine lv_aload_n hx hb dX11_commit_0 rfl (lv_at hl 0 rfl) ?_
  refine k_mga C G 36 (by decide) mr_36 fl_X11_74 rfl dX11_commit_1 ?_
  refine lv_iload_n hx hb dX11_commit_4 rfl (lv_at hl 1 rfl) ?_
  refine k_mil (v := ba) (i := wn) C G 18 (k := 36) (n := 4) mp_36 (by decide) (by omega) h36 dX11_commit_5 ?_
  refine lv_iconst (v := 1) hx hb dX11_commit_6 (by decide) ?_
  refine lv_iadd hx hb dX11_commit_7 ?_
  refine lv_istore_n (lv' := [(2, .int (ba + 1)), (0, .ref h), (1, .int (nI wn))]) hx hb dX11_commit_8 rfl hl (by decide) rfl (fun ls hl => ?_)
  refine lv_aload_n hx hb dX11_commit_9 rfl (lv_at hl 1 rfl) ?_
  refine lv_iconst (v := 1) hx hb dX11_commit_10 (by decide) ?_
  refine lv_iload_n hx hb dX11_commit_11 rfl (lv_at hl 0 rfl) ?_
  refine kcM_i G (krV 2 rfl (As := [.int 1, .int (ba + 1)]) (rest := []) (ci := 12) (CC := RX11) (T := TX11) (N := 61) C G pmN (c_X11_place Z l h ad iv av ob 1 (ba + 1) ho _) (gdV ml_X11_165 im_X11_place se_X11_place ii_X11 co_X11_place) (by decide +kernel) ⟨Nat.le_of_ble_eq_true rfl, Nat.le_of_ble_eq_true rfl⟩ rfl 0 rfl hl rfl (Nat.le_of_ble_eq_true rfl) ⟨Nat.le_of_ble_eq_true rfl, Nat.le_of_ble_eq_true rfl⟩ dX11_commit_12) (fun r_12 u H locs hu G => ?_)
  obtain ⟨r_12_e, rfl⟩ := hu
  rcases plR_cases ob 1 (ba + 1) with ⟨hn, hq⟩ | ⟨k, o, hk1, hk, ho1, ho2, hq⟩
  · rw [hq] at r_12_e
    subst r_12_e
    refine lv_if_lt (tgt := 69) hx hb dX11_commit_15 (by decide) (fun c_15 => ?_) (fun c_15 => ?_)
    · refine lv_aload_n hx hb dX11_commit_69 rfl (lv_at hl 1 rfl) ?_
      refine lv_iconst (v := 0) hx hb dX11_commit_70 (by decide) ?_
      refine k_mpi (v := 0) (ty := .int) C G 15 (by decide) mr_15 fl_X11_153 rfl rfl rfl rfl rfl dX11_commit_71 (fun H locs (G : wd Z A s (mdW Z h ad (upd iv 15 0) av) H locs) => ?_)
      have hmz : mk_at (upd iv 15 0) av [] := ⟨rfl, by_nil hf14⟩
      refine lv_aload_n hx hb dX11_commit_74 rfl (lv_at hl 1 rfl) ?_
      refine lv_ldc2 (v := 76) hx hb hown (hts _ kl_X11_234) dX11_commit_75 ?_
      refine k_topl (y := (76 : Int32).toInt64) (by decide) ?_
      refine lv_iconst (v := 1) hx hb dX11_commit_78 (by decide) ?_
      refine kcM_v G (krV 2 rfl (As := [.long ((76 : Int32).toInt64), .int 1]) (rest := []) (ci := 12) (CC := RX11) (T := TX11) (N := 61) C G pmN (c_mu1 Z l h ad (upd iv 15 0) av _ 76 hmz (by simp [u4b_len]) _) (gdV ml_X11_161 im_X11_u se_X11_u ii_X11 co_X11_u) (by decide +kernel) ⟨Nat.le_of_ble_eq_true rfl, Nat.le_of_ble_eq_true rfl⟩ rfl 0 rfl hl rfl (Nat.le_of_ble_eq_true rfl) ⟨Nat.le_of_ble_eq_true rfl, Nat.le_of_ble_eq_true rfl⟩ dX11_commit_79) (fun u H locs hu G => ?_)
      obtain ⟨iv1_, av1_, rfl, hm1, hs1, ha1⟩ := hu
      refine lv_aload_n hx hb dX11_commit_82 rfl (lv_at hl 1 rfl) ?_
      refine lv_iload_n hx hb dX11_commit_83 rfl (lv_at hl 0 rfl) ?_
      refine lv_i2l (v := (ba + 1).toInt64) hx hb dX11_commit_84 rfl ?_
      refine lv_iconst (v := 4) hx hb dX11_commit_85 (by decide) ?_
      refine kcM_v G (krV 2 rfl (As := [.long ((ba + 1).toInt64), .int 4]) (rest := []) (ci := 12) (CC := RX11) (T := TX11) (N := 61) C G pmN (c_mu4 Z l h ad iv1_ av1_ _ (ba + 1) hm1 (by simp [u4b_len]) _) (gdV ml_X11_161 im_X11_u se_X11_u ii_X11 co_X11_u) (by decide +kernel) ⟨Nat.le_of_ble_eq_true rfl, Nat.le_of_ble_eq_true rfl⟩ rfl 0 rfl hl rfl (Nat.le_of_ble_eq_true rfl) ⟨Nat.le_of_ble_eq_true rfl, Nat.le_of_ble_eq_true rfl⟩ dX11_commit_86) (fun u H locs hu G => ?_)
      obtain ⟨iv2_, av2_, rfl, hm2, hs2, ha2⟩ := hu
      refine lv_aload_n hx hb dX11_commit_89 rfl (lv_at hl 1 rfl) ?_
      refine lv_aload_n hx hb dX11_commit_90 rfl (lv_at hl 1 rfl) ?_
      refine k_mga C G 54 (by decide) mr_54 fl_X11_129 rfl dX11_commit_91 ?_
      refine lv_iload_n hx hb dX11_commit_94 rfl (lv_at hl 2 rfl) ?_
      refine k_mil (v := nI nr) (i := wn) C G 36 (k := 54) (n := 4) mp_54 (by decide) (by omega) ((congrFun (ha2 54 (by decide)) wn).trans ((congrFun (ha1 54 (by decide)) wn).trans h54)) dX11_commit_95 ?_
      refine lv_aload_n hx hb dX11_commit_96 rfl (lv_at hl 1 rfl) ?_
      refine k_mga C G 48 (by decide) mr_48 fl_X11_111 rfl dX11_commit_97 ?_
      refine lv_iload_n hx hb dX11_commit_100 rfl (lv_at hl 2 rfl) ?_
      refine k_mil (v := nI na) (i := wn) C G 30 (k := 48) (n := 4) mp_48 (by decide) (by omega) ((congrFun (ha2 48 (by decide)) wn).trans ((congrFun (ha1 48 (by decide)) wn).trans h48)) dX11_commit_101 ?_
      refine lv_iadd hx hb dX11_commit_102 ?_
      refine k_topi (y := nI (nr + na)) (nI_add nr na) ?_
      refine lv_i2l (v := (nI (nr + na)).toInt64) hx hb dX11_commit_103 rfl ?_
      refine lv_iconst (v := 1) hx hb dX11_commit_104 (by decide) ?_
      refine kcM_v G (krV 2 rfl (As := [.long ((nI (nr + na)).toInt64), .int 1]) (rest := []) (ci := 12) (CC := RX11) (T := TX11) (N := 61) C G pmN (c_mu1 Z l h ad iv2_ av2_ _ (nI (nr + na)) hm2 (by simp [u4b_len]) _) (gdV ml_X11_161 im_X11_u se_X11_u ii_X11 co_X11_u) (by decide +kernel) ⟨Nat.le_of_ble_eq_true rfl, Nat.le_of_ble_eq_true rfl⟩ rfl 0 rfl hl rfl (Nat.le_of_ble_eq_true rfl) ⟨Nat.le_of_ble_eq_true rfl, Nat.le_of_ble_eq_true rfl⟩ dX11_commit_105) (fun u H locs hu G => ?_)
      obtain ⟨iv3_, av3_, rfl, hm3, hs3, ha3⟩ := hu
      refine lv_iconst (v := 0) hx hb dX11_commit_108 (by decide) ?_
      refine k_topi (y := nI 0) (by rfl) ?_
      refine lv_istore_n (lv' := [(3, .int (nI 0)), (2, .int (ba + 1)), (0, .ref h), (1, .int (nI wn))]) hx hb dX11_commit_109 rfl hl (by decide) rfl (fun ls hl => ?_)
      refine lp_mcr (iv0 := iv3_) (av0 := av3_) (wn := wn) (nr := nr) (na := na) (pt := pt) C hwn hnr ((congrFun (ha3 54 (by decide)) wn).trans ((congrFun (ha2 54 (by decide)) wn).trans ((congrFun (ha1 54 (by decide)) wn).trans h54))) ((congrFun (ha3 48 (by decide)) wn).trans ((congrFun (ha2 48 (by decide)) wn).trans ((congrFun (ha1 48 (by decide)) wn).trans h48))) ((congrFun (ha3 41 (by decide)) wn).trans ((congrFun (ha2 41 (by decide)) wn).trans ((congrFun (ha1 41 (by decide)) wn).trans h41))) (fun iv4 av4 b1 b2 b3 H locs ls G hl => ?_) nr 0 iv3_ av3_ (by omega) (by rw [show rmB (fun i => av3_ 55 (200 * wn + i)) pt 0 = [] from rfl, List.append_nil]; exact hm3) sI.rf sA.rf _ _ _ G (lv_sub hl [0, 2, 3, 1] rfl)
      refine lv_iconst (v := 0) hx hb dX11_commit_164 (by decide) ?_
      refine k_topi (y := nI 0) (by rfl) ?_
      refine lv_istore_n (lv' := [(3, .int (nI 0)), (0, .ref h), (1, .int (nI wn)), (2, .int (ba + 1))]) hx hb dX11_commit_165 rfl hl (by decide) rfl (fun ls hl => ?_)
      refine lp_mca (iv0 := iv3_) (av0 := av3_) (wn := wn) (nr := nr) (na := na) (pt := pt) C hwn hnr ((congrFun (ha3 54 (by decide)) wn).trans ((congrFun (ha2 54 (by decide)) wn).trans ((congrFun (ha1 54 (by decide)) wn).trans h54))) ((congrFun (ha3 48 (by decide)) wn).trans ((congrFun (ha2 48 (by decide)) wn).trans ((congrFun (ha1 48 (by decide)) wn).trans h48))) ((congrFun (ha3 41 (by decide)) wn).trans ((congrFun (ha2 41 (by decide)) wn).trans ((congrFun (ha1 41 (by decide)) wn).trans h41))) (fun iv5 av5 d1 d2 d3 H locs ls G hl => ?_) na 0 iv4 av4 (by omega) (by rw [show adB (fun i => av3_ 52 (200 * wn + i)) (fun i => av3_ 49 (200 * wn + i)) 0 = [] from rfl, List.append_nil]; exact b1) b2 b3 _ _ _ G (lv_sub hl [0, 1, 2, 3] rfl)
      refine lv_aload_n hx hb dX11_commit_224 rfl (lv_at hl 0 rfl) ?_
      refine kcM_v G (krV 0 rfl (As := []) (rest := []) (ci := 12) (CC := RX11) (T := TX11) (N := 61) C G pmN (c_X11_ends Z l h ad iv5 av5 _ d1 (by simp only [List.length_append, rmB_len, adB_len, enH_len]; omega) _) (gdV ml_X11_203 im_X11_ends se_X11_ends ii_X11 co_X11_ends) (by decide +kernel) ⟨Nat.le_of_ble_eq_true rfl, Nat.le_of_ble_eq_true rfl⟩ rfl 0 rfl hl rfl (Nat.le_of_ble_eq_true rfl) ⟨Nat.le_of_ble_eq_true rfl, Nat.le_of_ble_eq_true rfl⟩ dX11_commit_225) (fun u H locs hu G => ?_)
      obtain ⟨iv7_, av7_, rfl, hm7, hs7, ha7⟩ := hu
      have hsI7 : sI [15] iv iv7_ := ((((((sI.rf.up (k := 15) (by decide) 0).tr hs1 (by decide)).tr hs2 (by decide)).tr hs3 (by decide)).tr d2 (by decide)).tr hs7 (by decide))
      have hsA7 : sA [14] av av7_ := ((((sA.rf.tr ha1 (by decide)).tr ha2 (by decide)).tr ha3 (by decide)).tr d3 (by decide)).tr ha7 (by decide)
      have e55 : av3_ 55 = av 55 := by rw [ha3 55 (by decide), ha2 55 (by decide), ha1 55 (by decide)]
      have e52 : av3_ 52 = av 52 := by rw [ha3 52 (by decide), ha2 52 (by decide), ha1 52 (by decide)]
      have e49 : av3_ 49 = av 49 := by rw [ha3 49 (by decide), ha2 49 (by decide), ha1 49 (by decide)]
      have hm7 : mk_at iv7_ av7_ (enE (ba + 1) pt nr na (fun i => av 55 (200 * wn + i)) (fun i => av 52 (200 * wn + i)) (fun i => av 49 (200 * wn + i))) := by rw [e55, e52, e49] at hm7; exact hm7
      have hok7 : mo_ok iv7_ av7_ ob := ho.same hsI7 hsA7 (by decide) (by decide) (by decide) (by decide) (by decide) (by decide)
      have hel := enE_len (ba + 1) pt nr na (fun i => av 55 (200 * wn + i)) (fun i => av 52 (200 * wn + i)) (fun i => av 49 (200 * wn + i))
      refine lv_aload_n hx hb dX11_commit_228 rfl (lv_at hl 0 rfl) ?_
      refine lv_iconst (v := 1) hx hb dX11_commit_229 (by decide) ?_
      refine lv_iload_n hx hb dX11_commit_230 rfl (lv_at hl 2 rfl) ?_
      refine kcM_i G (krV 2 rfl (As := [.int 1, .int (ba + 1)]) (rest := []) (ci := 12) (CC := RX11) (T := TX11) (N := 61) C G pmN (c_X11_put Z l h ad iv7_ av7_ ob (enE (ba + 1) pt nr na (fun i => av 55 (200 * wn + i)) (fun i => av 52 (200 * wn + i)) (fun i => av 49 (200 * wn + i))) 1 (ba + 1) ro hok7 hm7 (by omega) (by omega) ((hsI7 6 (by decide)).trans h6) _) (gdV ml_X11_310 im_X11_put se_X11_put ii_X11 co_X11_put) (by decide +kernel) ⟨Nat.le_of_ble_eq_true rfl, Nat.le_of_ble_eq_true rfl⟩ rfl 0 rfl hl rfl (Nat.le_of_ble_eq_true rfl) ⟨Nat.le_of_ble_eq_true rfl, Nat.le_of_ble_eq_true rfl⟩ dX11_commit_231) (fun r_231 u H locs hu G => ?_)
      obtain ⟨iv8_, av8_, rfl, hcs8⟩ := hu
      rcases hcs8 with ⟨hcan, r_231_e, hok8, hs8, ha8⟩ | ⟨hcan, r_231_e, e8, e9⟩
      · subst r_231_e
        refine lv_if_ne (tgt := 244) hx hb dX11_commit_234 (by decide) (fun c_234 => ?_) (fun c_234 => ?_)
        · have n_234 := nb_ne (a := 1) (b := 0) c_234 (by omega) (by omega)
          refine lv_aload_n hx hb dX11_commit_244 rfl (lv_at hl 0 rfl) ?_
          refine k_mga C G 33 (by decide) mr_33 fl_X11_65 rfl dX11_commit_245 ?_
          refine lv_iload_n hx hb dX11_commit_248 rfl (lv_at hl 1 rfl) ?_
          refine lv_iconst (v := 0) hx hb dX11_commit_249 (by decide) ?_
          refine k_mzs (x := 0) (i := wn) C G 15 (k := 33) (n := 4) mp_33 (by decide) (by omega) (by decide) dX11_commit_250 (fun H locs (G : wd Z A s (mdW Z h ad iv8_ (ua av8_ 33 (upd (av8_ 33) wn 0))) H locs) => ?_)
          refine lv_aload_n hx hb dX11_commit_251 rfl (lv_at hl 0 rfl) ?_
          refine k_mga C G 39 (by decide) mr_39 fl_X11_83 rfl dX11_commit_252 ?_
          refine lv_iload_n hx hb dX11_commit_255 rfl (lv_at hl 1 rfl) ?_
          refine lv_iload_n hx hb dX11_commit_256 rfl (lv_at hl 2 rfl) ?_
          refine k_mis (x := ba + 1) (i := wn) C G 21 (k := 39) (n := 4) mp_39 (by decide) (by omega) dX11_commit_257 (fun H locs (G : wd Z A s (mdW Z h ad iv8_ (ua (ua av8_ 33 (upd (av8_ 33) wn 0)) 39 (upd (av8_ 39) wn (ba + 1)))) H locs) => ?_)
          refine lv_aload_n hx hb dX11_commit_258 rfl (lv_at hl 0 rfl) ?_
          refine lv_dup hx hb dX11_commit_259 rfl ?_
          refine k_mgi (v := cm) C G 9 (by decide) mr_9 ((hs8 9 (by decide)).trans ((hsI7 9 (by decide)).trans h9)) fl_X11_318 rfl dX11_commit_260 ?_
          refine lv_iconst (v := 1) hx hb dX11_commit_263 (by decide) ?_
          refine lv_iadd hx hb dX11_commit_264 ?_
          refine k_mpi (v := cm + 1) (ty := .int) C G 9 (by decide) mr_9 fl_X11_318 rfl rfl rfl rfl rfl dX11_commit_265 (fun H locs (G : wd Z A s (mdW Z h ad (upd iv8_ 9 (cm + 1)) (ua (ua av8_ 33 (upd (av8_ 33) wn 0)) 39 (upd (av8_ 39) wn (ba + 1)))) H locs) => ?_)
          refine lv_iconst (v := 3) hx hb dX11_commit_268 (by decide) ?_
          exact kr_i C G ⟨_, _, rfl, by show ∀ i, fits .byte (.int (av8_ 14 i)) = true; rw [ha8 14 (by decide)]; exact hm7.2.2, ((hsI7.mo (by decide)).tr hs8 (by decide)).up (by decide) _, (((hsA7.mo (by decide)).tr ha8 (by decide)).up (by decide) _).up (by decide) _, Or.inr (Or.inr (Or.inr ⟨hcan, rfl, ⟨hok8.1, hok8.2.1, hok8.2.2.1, hok8.2.2.2⟩, rfl, (hs8 10 (by decide)).trans ((hsI7 10 (by decide)).trans h10), (hs8 11 (by decide)).trans ((hsI7 11 (by decide)).trans h11), by show upd (av8_ 33) wn 0 = _; rw [ha8 33 (by decide), hsA7 33 (by decide)], (ha8 37 (by decide)).trans (hsA7 37 (by decide)), by show upd (av8_ 39) wn (ba + 1) = _; rw [ha8 39 (by decide), hsA7 39 (by decide)], (ha8 40 (by decide)).trans (hsA7 40 (by decide))⟩))⟩ (Nat.le_of_ble_eq_true rfl) (Nat.le_of_ble_eq_true rfl) dX11_commit_269
        · exact absurd c_234 (by decide)
      · subst r_231_e
        rw [e8, e9] at G
        refine lv_if_ne (tgt := 244) hx hb dX11_commit_234 (by decide) (fun c_234 => ?_) (fun c_234 => ?_)
        · exact absurd c_234 (by decide)
        · have n_234 := nb_eq (a := 0) (b := 0) c_234 (by omega) (by omega)
          refine lv_aload_n hx hb dX11_commit_237 rfl (lv_at hl 0 rfl) ?_
          refine lv_iload_n hx hb dX11_commit_238 rfl (lv_at hl 1 rfl) ?_
          refine lv_iconst (v := 1) hx hb dX11_commit_239 (by decide) ?_
          refine kcM_i G (krV 2 rfl (As := [.int (nI wn), .int 1]) (rest := []) (ci := 12) (CC := RX11) (T := TX11) (N := 61) C G pmN (c_X11_fails Z l h ad iv7_ av7_ wn 1 fa hwn ((hsI7 11 (by decide)).trans h11) _) (gdV ml_X11_283 im_X11_fails se_X11_fails ii_X11 co_X11_fails) (by decide +kernel) ⟨Nat.le_of_ble_eq_true rfl, Nat.le_of_ble_eq_true rfl⟩ rfl 0 rfl hl rfl (Nat.le_of_ble_eq_true rfl) ⟨Nat.le_of_ble_eq_true rfl, Nat.le_of_ble_eq_true rfl⟩ dX11_commit_240) (fun r_240 u H locs hu G => ?_)
          obtain ⟨r_240_e, rfl⟩ := hu
          subst r_240_e
          exact kr_i C G ⟨_, _, rfl, hm7.2.2, (hsI7.mo (by decide)).up (by decide) _, (hsA7.mo (by decide)).up (by decide) _, Or.inr (Or.inr (Or.inl ⟨hn, hcan, rfl, ⟨hok7.1, hok7.2.1, hok7.2.2.1, hok7.2.2.2⟩, (hsI7 9 (by decide)).trans h9, (hsI7 10 (by decide)).trans h10, rfl, by show upd (av7_ 33) wn 0 = _; rw [hsA7 33 (by decide)], hsA7 37 (by decide), hsA7 39 (by decide), hsA7 40 (by decide)⟩))⟩ (Nat.le_of_ble_eq_true rfl) (Nat.le_of_ble_eq_true rfl) dX11_commit_243
    · exact absurd c_15 (by decide)
  · rw [hq] at r_12_e
    subst r_12_e
    have hkl := mFi_lt hk1
    have hne : ¬ mFi ob 1 (ba + 1) = none := fun z => by rw [z] at hk1; cases hk1
    refine lv_if_lt (tgt := 69) hx hb dX11_commit_15 (by decide) (fun c_15 => ?_) (fun c_15 => ?_)
    · exact absurd (nb_lt (a := k) (b := 0) c_15 (by omega) (by omega)) (by omega)
    · have n_15 := nb_nlt (a := k) (b := 0) c_15 (by omega) (by omega)
      refine lv_aload_n hx hb dX11_commit_18 rfl (lv_at hl 1 rfl) ?_
      refine k_mga C G 37 (by decide) mr_37 fl_X11_77 rfl dX11_commit_19 ?_
      refine lv_iload_n hx hb dX11_commit_22 rfl (lv_at hl 2 rfl) ?_
      refine lv_dup2_11 hx hb dX11_commit_23 rfl rfl ?_
      refine k_mil (v := wo) (i := wn) C G 19 (k := 37) (n := 4) mp_37 (by decide) (by omega) h37 dX11_commit_24 ?_
      refine lv_iconst (v := 1) hx hb dX11_commit_25 (by decide) ?_
      refine lv_iadd hx hb dX11_commit_26 ?_
      refine k_mis (x := wo + 1) (i := wn) C G 19 (k := 37) (n := 4) mp_37 (by decide) (by omega) dX11_commit_27 (fun H locs (G : wd Z A s (mdW Z h ad iv (ua av 37 (upd (av 37) wn (wo + 1)))) H locs) => ?_)
      refine lv_aload_n hx hb dX11_commit_28 rfl (lv_at hl 1 rfl) ?_
      refine lv_dup hx hb dX11_commit_29 rfl ?_
      refine k_mgi (v := lo) C G 10 (by decide) mr_10 h10 fl_X11_313 rfl dX11_commit_30 ?_
      refine lv_iconst (v := 1) hx hb dX11_commit_33 (by decide) ?_
      refine lv_iadd hx hb dX11_commit_34 ?_
      refine k_mpi (v := lo + 1) (ty := .int) C G 10 (by decide) mr_10 fl_X11_313 rfl rfl rfl rfl rfl dX11_commit_35 (fun H locs (G : wd Z A s (mdW Z h ad (upd iv 10 (lo + 1)) (ua av 37 (upd (av 37) wn (wo + 1)))) H locs) => ?_)
      refine lv_aload_n hx hb dX11_commit_38 rfl (lv_at hl 1 rfl) ?_
      refine k_mga C G 37 (by decide) mr_37 fl_X11_77 rfl dX11_commit_39 ?_
      refine lv_iload_n hx hb dX11_commit_42 rfl (lv_at hl 2 rfl) ?_
      refine k_mil (v := wo + 1) (i := wn) C G 19 (k := 37) (n := 4) mp_37 (by decide) (by omega) pk_us dX11_commit_43 ?_
      refine lv_aload_n hx hb dX11_commit_44 rfl (lv_at hl 1 rfl) ?_
      refine k_mga C G 38 (by decide) mr_38 fl_X11_80 rfl dX11_commit_45 ?_
      refine lv_iload_n hx hb dX11_commit_48 rfl (lv_at hl 2 rfl) ?_
      refine k_mil (v := tr) (i := wn) C G 20 (k := 38) (n := 4) mp_38 (by decide) (by omega) h38 dX11_commit_49 ?_
      refine lv_icmp_ne (tgt := 60) hx hb dX11_commit_50 (by decide) (fun c_50 => ?_) (fun c_50 => ?_)
      · refine lv_aload_n hx hb dX11_commit_60 rfl (lv_at hl 1 rfl) ?_
        refine k_mga C G 40 (by decide) mr_40 fl_X11_86 rfl dX11_commit_61 ?_
        refine lv_iload_n hx hb dX11_commit_64 rfl (lv_at hl 2 rfl) ?_
        refine lv_iconst (v := 1) hx hb dX11_commit_65 (by decide) ?_
        refine k_mzs (x := 1) (i := wn) C G 22 (k := 40) (n := 4) mp_40 (by decide) (by omega) (by decide) dX11_commit_66 (fun H locs (G : wd Z A s (mdW Z h ad (upd iv 10 (lo + 1)) (ua (ua av 37 (upd (av 37) wn (wo + 1))) 40 (upd (av 40) wn 1))) H locs) => ?_)
        refine lv_iconst (v := 4) hx hb dX11_commit_67 (by decide) ?_
        exact kr_i C G ⟨_, _, rfl, hf14, (sI.rf.up (by decide) _), ((sA.rf.up (by decide) _).up (by decide) _), Or.inl ⟨hne, c_50, rfl, ⟨ho.1, ho.2.1, ho.2.2.1, ho.2.2.2⟩, h9, rfl, h11, rfl, rfl, rfl, rfl⟩⟩ (Nat.le_of_ble_eq_true rfl) (Nat.le_of_ble_eq_true rfl) dX11_commit_68
      · refine lv_aload_n hx hb dX11_commit_53 rfl (lv_at hl 1 rfl) ?_
        refine lv_iload_n hx hb dX11_commit_54 rfl (lv_at hl 2 rfl) ?_
        refine lv_iconst (v := 3) hx hb dX11_commit_55 (by decide) ?_
        refine kcM_i G (krV 2 rfl (As := [.int (nI wn), .int 3]) (rest := []) (ci := 12) (CC := RX11) (T := TX11) (N := 61) C G pmN (c_X11_fails Z l h ad (upd iv 10 (lo + 1)) (ua av 37 (upd (av 37) wn (wo + 1))) wn 3 fa hwn h11 _) (gdV ml_X11_283 im_X11_fails se_X11_fails ii_X11 co_X11_fails) (by decide +kernel) ⟨Nat.le_of_ble_eq_true rfl, Nat.le_of_ble_eq_true rfl⟩ rfl 0 rfl hl rfl (Nat.le_of_ble_eq_true rfl) ⟨Nat.le_of_ble_eq_true rfl, Nat.le_of_ble_eq_true rfl⟩ dX11_commit_56) (fun r_56 u H locs hu G => ?_)
        obtain ⟨r_56_e, rfl⟩ := hu
        subst r_56_e
        exact kr_i C G ⟨_, _, rfl, hf14, ((sI.rf.up (by decide) _).up (by decide) _), ((sA.rf.up (by decide) _).up (by decide) _), Or.inr (Or.inl ⟨hne, c_50, rfl, ⟨ho.1, ho.2.1, ho.2.2.1, ho.2.2.2⟩, h9, rfl, rfl, rfl, rfl, rfl, rfl⟩)⟩ (Nat.le_of_ble_eq_true rfl) (Nat.le_of_ble_eq_true rfl) dX11_commit_59
