/-! MODEL (X11): vacuum. -/
/-- the OBJECTS with the CHECKPOINT of a VERSION -/
def vob (ob : List obT) (ro : Int32) (o0 : Nat) (F : flT) (ob1 : List obT) : Prop := (¬ mFi ob 2 (nI o0) = none ∧ ob1 = ob) ∨ ((mFi ob 2 (nI o0) = none ∧ ob.length < 100 ∧ nI (oSz ob + (ckE (nI o0) F).length) ≤ ro) ∧ ob1 = ob ++ [(2, nI o0, ckE (nI o0) F)])
def vall (ob : List obT) (flo : Int32) (o0 nw : Nat) (Fv : Nat → flT) : Prop := ∀ w, o0 ≤ w → w ≤ nw → mVr ob flo (nI w) = some (Fv w)
/-- the VERSIONS stay as they were -/
def vStb (ob : List obT) (flo ro : Int32) (av : avT) (o0 nw : Nat) : Prop := ∀ Fv, vall ob flo o0 nw Fv → ∀ ob1, vob ob ro o0 (Fv o0) ob1 → ∀ (kc : Nat) (q : obT), mFi ob1 2 (nI o0) = some kc → ob1[kc]? = some q → (ckS (fnB q.2.2) q.2.2.length q.2.1 → ∀ ob2, ob2.Perm (ob1.filter (kp1 av (nI o0))) → vall ob2 (nI o0) o0 nw Fv) ∧ (¬ ckS (fnB q.2.2) q.2.2.length q.2.1 → vall ob1 flo o0 nw Fv)
/-- why nothing is taken -/
def vno (ob : List obT) (flo ro : Int32) (fl : Nat) (x : Int32) : Prop := ∀ nw k o0, nw < 2 ^ 20 → mLt ob = nI nw → x = nI k → k ≤ 1000 → o0 = max fl (nw - k) → (∃ w, o0 ≤ w ∧ w ≤ nw ∧ mVr ob flo (nI w) = none) ∨ (∃ F, mVr ob flo (nI o0) = some F ∧ mFi ob 2 (nI o0) = none ∧ ¬ (mFi ob 2 (nI o0) = none ∧ ob.length < 100 ∧ nI (oSz ob + (ckE (nI o0) F).length) ≤ ro))
/-- what is taken -/
def vyes (ob : List obT) (flo ro : Int32) (fl : Nat) (x : Int32) (av : avT) (pn bn : Nat → Nat) (ob3 : List obT) (flo2 : Int32) (cc : Nat) : Prop := ∃ (nw k o0 : Nat) (Fv : Nat → flT) (ob1 ob2 : List obT) (kc : Nat) (q : obT), nw < 2 ^ 20 ∧ mLt ob = nI nw ∧ x = nI k ∧ k ≤ 1000 ∧ o0 = max fl (nw - k) ∧ vall ob flo o0 nw Fv ∧ vob ob ro o0 (Fv o0) ob1 ∧ mFi ob1 2 (nI o0) = some kc ∧ ob1[kc]? = some q ∧ ((ckS (fnB q.2.2) q.2.2.length q.2.1 ∧ flo2 = nI o0 ∧ ob2.Perm (ob1.filter (kp1 av (nI o0)))) ∨ (¬ ckS (fnB q.2.2) q.2.2.length q.2.1 ∧ flo2 = flo ∧ ob2 = ob1)) ∧ ob3.Perm (ob2.filter (kp2 (vnL Fv o0 (nw + 1 - o0) ++ wnS av pn bn 4))) ∧ cc + ob3.length = ob1.length
theorem nI_inj20 {a b : Nat} (ha : a < 2 ^ 20) (hb : b < 2 ^ 20) (h : nI a = nI b) : a = b := nb_eq h (by omega) (by omega)
set_option maxRecDepth 100000 in
set_option maxHeartbeats 4000000 in
theorem c_X11_vacuum (Z : zT) (l : Launch) (h : Nat) (ad : Nat → Nat) (iv : ivT) (av : avT) (ob : List obT) (flo x ro vc : Int32) (fl : Nat) (pn bn : Nat → Nat) (ho : mo_ok iv av ob) (hin : mo_in ob) (h13 : iv 13 = flo) (hfl : flo = nI fl) (hfl20 : fl < 2 ^ 20) (hflo : ¬ flo < 0) (hflw : ∀ nw, mLt ob = nI nw → fl ≤ nw) (h6 : iv 6 = ro) (h12 : iv 12 = vc) (hf14 : ∀ i, fits .byte (.int (av 14 i)) = true) (hw : ∀ j, j < 4 → ¬ av 33 j = 0 → av 53 j = nI (pn j) ∧ pn j ≤ 200 ∧ av 56 j = nI (bn j) ∧ bn j ≤ 200) (hst : ∀ nw, mLt ob = nI nw → nw < 2 ^ 20 → ∀ o0, o0 ≤ nw → vStb ob flo ro av o0 nw) : Ki Z l yX11_vacuum cX11_vacuum 8 (some .int) ({ frames := 7, cells := 0, slots := 0, locals := 200 }) [.ref h, .int x] (mdW Z h ad iv av) (fun r u => ∃ (iv2 : ivT) (av2 : avT), u = mdW Z h ad iv2 av2 ∧ (∀ i, fits .byte (.int (av2 14 i)) = true) ∧ sI [4, 5, 12, 13, 15, 16, 17, 18, 26, 30] iv iv2 ∧ sA [0, 1, 2, 3, 14, 27, 28, 29, 31, 32, 59] av av2 ∧ ((vno ob flo ro fl x ∧ r = -1 ∧ mo_ok iv2 av2 ob ∧ iv2 12 = vc ∧ iv2 13 = flo) ∨ (∃ (ob3 : List obT) (flo2 : Int32) (cc : Nat), vyes ob flo ro fl x av pn bn ob3 flo2 cc ∧ r = nI cc ∧ mo_ok iv2 av2 ob3 ∧ iv2 12 = vc + nI cc ∧ iv2 13 = flo2))) := by
  intro sz
  refine Met.ofK (cc := cX11_vacuum) (maxL := 8) (ret := (some .int)) (by decide) (Nat.le_of_ble_eq_true rfl) ?_
  intro p e s m below meth c ls C G hl
  generalize va_A _ sz = A at G ⊢
  have hx := C.1
  have hb := C.2.1
  have hown := C.2.2.2.2.2.1
  have hts := C.2.2.2.2.2.2.1
  refine lv_aload_n hx hb dX11_vacuum_0 rfl (lv_at hl 0 rfl) ?_
  refine kcM_i G (krV 0 rfl (As := []) (rest := []) (ci := 12) (CC := RX11) (T := TX11) (N := 61) C G pmN (c_X11_latest Z l h ad iv av ob ho _) (gdV ml_X11_251 im_X11_latest se_X11_latest ii_X11 co_X11_latest) (by decide +kernel) ⟨Nat.le_of_ble_eq_true rfl, Nat.le_of_ble_eq_true rfl⟩ rfl 0 rfl hl rfl (Nat.le_of_ble_eq_true rfl) ⟨Nat.le_of_ble_eq_true rfl, Nat.le_of_ble_eq_true rfl⟩ dX11_vacuum_1) (fun r_1 u H locs hu G => ?_)
  obtain ⟨r_1_e, rfl⟩ := hu
  subst r_1_e
  refine lv_istore_n (lv' := [(2, .int (mLt ob)), (0, .ref h), (1, .int x)]) hx hb dX11_vacuum_4 rfl hl (by decide) rfl (fun ls hl => ?_)
  refine lv_iload_n hx hb dX11_vacuum_5 rfl (lv_at hl 2 rfl) ?_
  refine lv_if_lt (tgt := 21) hx hb dX11_vacuum_6 (by decide) (fun c_6 => ?_) (fun c_6 => ?_)
  · refine lv_iconst (v := (-1)) hx hb dX11_vacuum_21 (by decide) ?_
    exact kr_i C G ⟨iv, av, rfl, hf14, sI.rf, sA.rf, Or.inl ⟨fun nw k o0 a1 a2 a3 a4 a5 => absurd c_6 (by rw [a3]; exact nI_pos (by omega)), rfl, ho, h12, h13⟩⟩ (Nat.le_of_ble_eq_true rfl) (Nat.le_of_ble_eq_true rfl) dX11_vacuum_22
  · refine lv_iload_n hx hb dX11_vacuum_9 rfl (lv_at hl 2 rfl) ?_
    refine lv_sipush (v := 1000) hx hb dX11_vacuum_10 (by decide) ?_
    refine lv_icmp_gt (tgt := 21) hx hb dX11_vacuum_13 (by decide) (fun c_13 => ?_) (fun c_13 => ?_)
    · refine lv_iconst (v := (-1)) hx hb dX11_vacuum_21 (by decide) ?_
      exact kr_i C G ⟨iv, av, rfl, hf14, sI.rf, sA.rf, Or.inl ⟨fun nw k o0 a1 a2 a3 a4 a5 => absurd c_13 (by rw [a3]; exact Int32.not_lt.mpr (nI_le (b := 1000) a4 (by omega))), rfl, ho, h12, h13⟩⟩ (Nat.le_of_ble_eq_true rfl) (Nat.le_of_ble_eq_true rfl) dX11_vacuum_22
    · refine lv_iload_n hx hb dX11_vacuum_16 rfl (lv_at hl 0 rfl) ?_
      refine lv_iconst (v := (-1)) hx hb dX11_vacuum_17 (by decide) ?_
      refine lv_icmp_ne (tgt := 23) hx hb dX11_vacuum_18 (by decide) (fun c_18 => ?_) (fun c_18 => ?_)
      · obtain ⟨k, hk31, hxk⟩ := nI_of c_6
        subst hxk
        have hk1 : k ≤ 1000 := nb_nlt (a := 1000) (b := k) c_13 (by omega) hk31
        obtain ⟨nw, hnw, hlat⟩ := (mLt_small hin.2.1).resolve_left c_18
        have hfw := hflw nw hlat
        obtain ⟨o0, ho0⟩ : ∃ o, o = max fl (nw - k) := ⟨_, rfl⟩
        have hmx := mx_nI hfl20 hnw hk1
        rw [← ho0] at hmx
        rw [hlat] at hl
        have ho0w : o0 ≤ nw := by omega
        refine lv_iload_n hx hb dX11_vacuum_23 rfl (lv_at hl 0 rfl) ?_
        refine lv_iload_n hx hb dX11_vacuum_24 rfl (lv_at hl 2 rfl) ?_
        refine lv_isub hx hb dX11_vacuum_25 ?_
        refine lv_aload_n hx hb dX11_vacuum_26 rfl (lv_at hl 1 rfl) ?_
        refine k_mgi (v := nI fl) C G 13 (by decide) mr_13 (h13.trans hfl) fl_X11_248 rfl dX11_vacuum_27 ?_
        refine lv_icmp_le (tgt := 39) hx hb dX11_vacuum_30 (by decide) (fun c_30 => ?_) (fun c_30 => ?_)
        · refine lv_aload_n hx hb dX11_vacuum_39 rfl (lv_at hl 1 rfl) ?_
          refine k_mgi (v := nI fl) C G 13 (by decide) mr_13 (h13.trans hfl) fl_X11_248 rfl dX11_vacuum_40 ?_
          refine k_topi (y := nI o0) (by rw [← hmx, if_neg (Int32.not_lt.mpr c_30)]) ?_
          refine lv_istore_n (lv' := [(3, .int (nI o0)), (2, .int (nI nw)), (0, .ref h), (1, .int (nI k))]) hx hb dX11_vacuum_43 rfl hl (by decide) rfl (fun ls hl => ?_)
          refine lv_iload_n hx hb dX11_vacuum_44 rfl (lv_at hl 0 rfl) ?_
          refine lv_istore (lv' := [(4, .int (nI o0)), (3, .int (nI o0)), (2, .int (nI nw)), (0, .ref h), (1, .int (nI k))]) hx hb dX11_vacuum_45 hl (by decide) rfl (fun ls hl => ?_)
          refine lp_mva1 (iv0 := iv) (av0 := av) (ob := ob) (flo := flo) C ho hin h13 hflo hnw (fun iv2 av2 b1 b2 b3 => ⟨iv2, av2, rfl, by rw [b2 14 (by decide)]; exact hf14, b1.mo (by decide), b2.mo (by decide), Or.inl ⟨fun nw2 k2 o2 a1 a2 a3 a4 a5 => by
            have e1 := nI_inj20 a1 hnw (a2.symm.trans hlat)
            have e2 := nb_eq (a := k) (b := k2) a3 (by omega) (by omega)
            subst e1
            subst e2
            rw [← ho0] at a5
            subst a5
            exact Or.inl b3, rfl, ho.same b1 b2 (by decide) (by decide) (by decide) (by decide) (by decide) (by decide), (b1 12 (by decide)).trans h12, (b1 13 (by decide)).trans h13⟩⟩) (fun iv1_ av1_ hs1 ha1 hal H locs ls G hl => ?_) (nw + 1 - o0) o0 iv av (by omega) (Nat.le_refl _) sI.rf sA.rf (fun w a b => absurd b (by omega)) _ _ _ G (lv_sub hl [0, 3, 4, 2, 1] rfl)
          have hok1 : mo_ok iv1_ av1_ ob := ho.same hs1 ha1 (by decide) (by decide) (by decide) (by decide) (by decide) (by decide)
          have h13_1 : iv1_ 13 = flo := (hs1 13 (by decide)).trans h13
          refine lv_aload_n hx hb dX11_vacuum_70 rfl (lv_at hl 0 rfl) ?_
          refine lv_iload_n hx hb dX11_vacuum_71 rfl (lv_at hl 3 rfl) ?_
          refine kcM_i G (krV 1 rfl (As := [.int (nI o0)]) (rest := []) (ci := 12) (CC := RX11) (T := TX11) (N := 61) C G pmN (c_X11_reads Z l h ad iv1_ av1_ ob flo (nI o0) hok1 hin h13_1 hflo _) (gdV ml_X11_280 im_X11_reads se_X11_reads ii_X11 co_X11_reads) (by decide +kernel) ⟨Nat.le_of_ble_eq_true rfl, Nat.le_of_ble_eq_true rfl⟩ rfl 0 rfl hl rfl (Nat.le_of_ble_eq_true rfl) ⟨Nat.le_of_ble_eq_true rfl, Nat.le_of_ble_eq_true rfl⟩ dX11_vacuum_72) (fun r_72 u H locs hu G => ?_)
          obtain ⟨iv2_, av2_, rfl, hs2, ha2, hcs2⟩ := hu
          obtain ⟨r_72_e, F, hvr, hF⟩ := hcs2.resolve_right (fun z => hal o0 (Nat.le_refl _) ho0w z.2)
          subst r_72_e
          have hS2 : sI [16, 17, 18, 26, 30] iv iv2_ := hs1.tr hs2 (fun j hj => hj)
          have hA2 : sA [27, 28, 29, 31, 32] av av2_ := ha1.tr ha2 (fun j hj => hj)
          have hok2 : mo_ok iv2_ av2_ ob := ho.same hS2 hA2 (by decide) (by decide) (by decide) (by decide) (by decide) (by decide)
          have hf2 : ∀ i, fits .byte (.int (av2_ 14 i)) = true := by rw [hA2 14 (by decide)]; exact hf14
          have hvl : vall ob flo o0 nw (fun w => (mVr ob flo (nI w)).getD []) := fun w a b => by
            have h9 := hal w a b
            cases h8 : mVr ob flo (nI w) with
            | none => exact absurd h8 h9
            | some f => exact congrArg some (by show f = (mVr ob flo (nI w)).getD []; rw [h8]; rfl)
          have hF0 : (fun w => (mVr ob flo (nI w)).getD []) o0 = F := by show (mVr ob flo (nI o0)).getD [] = F; rw [hvr]; rfl
          refine lv_istore (lv' := [(4, .int 1), (0, .ref h), (1, .int (nI k)), (2, .int (nI nw)), (3, .int (nI o0))]) hx hb dX11_vacuum_75 hl (by decide) rfl (fun ls hl => ?_)
          refine lv_aload_n hx hb dX11_vacuum_77 rfl (lv_at hl 1 rfl) ?_
          refine lv_iconst (v := 2) hx hb dX11_vacuum_78 (by decide) ?_
          refine lv_iload_n hx hb dX11_vacuum_79 rfl (lv_at hl 4 rfl) ?_
          refine kcM_i G (krV 2 rfl (As := [.int 2, .int (nI o0)]) (rest := []) (ci := 12) (CC := RX11) (T := TX11) (N := 61) C G pmN (c_X11_place Z l h ad iv2_ av2_ ob 2 (nI o0) hok2 _) (gdV ml_X11_165 im_X11_place se_X11_place ii_X11 co_X11_place) (by decide +kernel) ⟨Nat.le_of_ble_eq_true rfl, Nat.le_of_ble_eq_true rfl⟩ rfl 0 rfl hl rfl (Nat.le_of_ble_eq_true rfl) ⟨Nat.le_of_ble_eq_true rfl, Nat.le_of_ble_eq_true rfl⟩ dX11_vacuum_80) (fun r_80 u H locs hu G => ?_)
          obtain ⟨r_80_e, rfl⟩ := hu
          rcases plR_cases ob 2 (nI o0) with ⟨hpn, hpe⟩ | ⟨kc, q, hpn, hq, hq1, hq2, hpe⟩
          · rw [hpe] at r_80_e
            subst r_80_e
            refine lv_if_ge (tgt := 102) hx hb dX11_vacuum_83 (by decide) (fun c_83 => ?_) (fun c_83 => ?_)
            · exact absurd c_83 (by decide)
            · refine lv_aload_n hx hb dX11_vacuum_86 rfl (lv_at hl 1 rfl) ?_
              refine lv_iload_n hx hb dX11_vacuum_87 rfl (lv_at hl 4 rfl) ?_
              refine kcM_v G (krV 1 rfl (As := [.int (nI o0)]) (rest := []) (ci := 12) (CC := RX11) (T := TX11) (N := 61) C G pmN (c_X11_makeCheckpoint Z l h ad iv2_ av2_ F (nI o0) hF hf2 _) (gdV ml_X11_333 im_X11_makeCheckpoint se_X11_makeCheckpoint ii_X11 co_X11_makeCheckpoint) (by decide +kernel) ⟨Nat.le_of_ble_eq_true rfl, Nat.le_of_ble_eq_true rfl⟩ rfl 0 rfl hl rfl (Nat.le_of_ble_eq_true rfl) ⟨Nat.le_of_ble_eq_true rfl, Nat.le_of_ble_eq_true rfl⟩ dX11_vacuum_88) (fun u H locs hu G => ?_)
              obtain ⟨iv3_, av3_, rfl, hm3, hs3, ha3⟩ := hu
              have hlen := ckE_len (nI o0) F
              have hFl := hF.2.2.1
              refine lv_aload_n hx hb dX11_vacuum_91 rfl (lv_at hl 1 rfl) ?_
              refine lv_iconst (v := 2) hx hb dX11_vacuum_92 (by decide) ?_
              refine lv_iload_n hx hb dX11_vacuum_93 rfl (lv_at hl 4 rfl) ?_
              refine kcM_i G (krV 2 rfl (As := [.int 2, .int (nI o0)]) (rest := []) (ci := 12) (CC := RX11) (T := TX11) (N := 61) C G pmN (c_X11_put Z l h ad iv3_ av3_ ob (ckE (nI o0) F) 2 (nI o0) ro (hok2.same hs3 ha3 (by decide) (by decide) (by decide) (by decide) (by decide) (by decide)) hm3 (by omega) (by omega) ((hs3 6 (by decide)).trans ((hS2 6 (by decide)).trans h6)) _) (gdV ml_X11_310 im_X11_put se_X11_put ii_X11 co_X11_put) (by decide +kernel) ⟨Nat.le_of_ble_eq_true rfl, Nat.le_of_ble_eq_true rfl⟩ rfl 0 rfl hl rfl (Nat.le_of_ble_eq_true rfl) ⟨Nat.le_of_ble_eq_true rfl, Nat.le_of_ble_eq_true rfl⟩ dX11_vacuum_94) (fun r_94 u H locs hu G => ?_)
              obtain ⟨iv4_, av4_, rfl, hcs4⟩ := hu
              rcases hcs4 with ⟨hcan, r_94_e, hok4, hs4, ha4⟩ | ⟨hcan, r_94_e, hi4, ha4⟩
              · subst r_94_e
                refine lv_if_ne (tgt := 102) hx hb dX11_vacuum_97 (by decide) (fun c_97 => ?_) (fun c_97 => ?_)
                · have n_97 := nb_ne (a := 1) (b := 0) c_97 (by omega) (by omega)
                  have hvo : vob ob ro o0 ((fun w => (mVr ob flo (nI w)).getD []) o0) (ob ++ [(2, nI o0, ckE (nI o0) F)]) := by rw [hF0]; exact Or.inr ⟨hcan, rfl⟩
                  have hin4 : mo_in (ob ++ [(2, nI o0, ckE (nI o0) F)]) := mo_in_add hin hcan.1 (by omega) (fun _ => by omega)
                  obtain ⟨kc, q, hq, hpn⟩ : ∃ kc q, (ob ++ [(2, nI o0, ckE (nI o0) F)])[kc]? = some q ∧ mFi (ob ++ [(2, nI o0, ckE (nI o0) F)]) 2 (nI o0) = some kc := by
                    have h9 : (ob ++ [(2, nI o0, ckE (nI o0) F)])[ob.length]? = some (2, nI o0, ckE (nI o0) F) := by rw [List.getElem?_append_right (Nat.le_refl _), Nat.sub_self]; rfl
                    exact ⟨ob.length, _, h9, mFi_at hin4.1 h9⟩
                  have hsb := hst nw hlat hnw o0 ho0w _ hvl _ hvo kc q hpn hq
                  have hS4 : sI [4, 5, 15, 16, 17, 18, 26, 30] iv iv4_ := ((hS2.mo (by decide)).tr hs3 (by decide)).tr hs4 (by decide)
                  have hA4 : sA [0, 1, 2, 3, 14, 27, 28, 29, 31, 32] av av4_ := ((hA2.mo (by decide)).tr ha3 (by decide)).tr ha4 (by decide)
                  have hf4 : ∀ i, fits .byte (.int (av4_ 14 i)) = true := by rw [ha4 14 (by decide)]; exact hm3.2.2
                  have hkpe : kp1 av4_ (nI o0) = kp1 av (nI o0) := kp1_cong (hA4 33 (by decide)) (hA4 34 (by decide)) (hA4 36 (by decide))
                  exact lp_mv102 (iv := iv4_) (av := av4_) (ob := ob ++ [(2, nI o0, ckE (nI o0) F)]) (flo := flo) (vc := vc) (kc := kc) (ok0 := q) (pn := pn) (bn := bn) C hok4 hin4 ((hS4 13 (by decide)).trans h13) hflo hnw ho0w hpn hq (by rw [hkpe]; exact hsb.1) hsb.2 (fun j hj hne => by rw [hA4 53 (by decide), hA4 56 (by decide)]; rw [hA4 33 (by decide)] at hne; exact hw j hj hne) ((hS4 12 (by decide)).trans h12) (fun iv6 av6 ob2 ob3 flo2 cc e1 e2 e3 e4 e5 e6 e7 e8 => by
                    rw [hkpe] at e1
                    rw [wnS_cong (hA4 33 (by decide)) (hA4 52 (by decide)) (hA4 57 (by decide))] at e3
                    exact ⟨iv6, av6, rfl, by rw [e8 14 (by decide)]; exact hf4, (hS4.mo (by decide)).tr e7 (by decide), (hA4.mo (by decide)).tr e8 (by decide), Or.inr ⟨ob3, flo2, cc, ⟨nw, k, o0, _, _, ob2, kc, q, hnw, hlat, rfl, hk1, ho0, hvl, hvo, hpn, hq, e1, e3, e4⟩, rfl, e2, e5, e6⟩⟩) _ _ _ G (lv_sub hl [1, 2, 3, 4] rfl)
                · exact absurd c_97 (by decide)
              · subst r_94_e
                rw [hi4, ha4] at G
                refine lv_if_ne (tgt := 102) hx hb dX11_vacuum_97 (by decide) (fun c_97 => ?_) (fun c_97 => ?_)
                · exact absurd c_97 (by decide)
                · have n_97 := nb_eq (a := 0) (b := 0) c_97 (by omega) (by omega)
                  refine lv_iconst (v := (-1)) hx hb dX11_vacuum_100 (by decide) ?_
                  exact kr_i C G ⟨iv3_, av3_, rfl, hm3.2.2, (hS2.mo (by decide)).tr hs3 (by decide), (hA2.mo (by decide)).tr ha3 (by decide), Or.inl ⟨fun nw2 k2 o2 a1 a2 a3 a4 a5 => by
                    have e1 := nI_inj20 a1 hnw (a2.symm.trans hlat)
                    have e2 := nb_eq (a := k) (b := k2) a3 (by omega) (by omega)
                    subst e1
                    subst e2
                    rw [← ho0] at a5
                    subst a5
                    exact Or.inr ⟨F, hvr, hpn, hcan⟩, rfl, hok2.same hs3 ha3 (by decide) (by decide) (by decide) (by decide) (by decide) (by decide), (hs3 12 (by decide)).trans ((hS2 12 (by decide)).trans h12), (hs3 13 (by decide)).trans ((hS2 13 (by decide)).trans h13)⟩⟩ (Nat.le_of_ble_eq_true rfl) (Nat.le_of_ble_eq_true rfl) dX11_vacuum_101
          · rw [hpe] at r_80_e
            subst r_80_e
            have hkc1 := (List.getElem?_eq_some_iff.mp hq).1
            have hob1 := ho.2.1
            refine lv_if_ge (tgt := 102) hx hb dX11_vacuum_83 (by decide) (fun c_83 => ?_) (fun c_83 => ?_)
            · have n_83 := nb_le (a := 0) (b := kc) c_83 (by omega) (by omega)
              have hvo : vob ob ro o0 ((fun w => (mVr ob flo (nI w)).getD []) o0) ob := Or.inl ⟨fun z => (by rw [hpn] at z; cases z), rfl⟩
              have hsb := hst nw hlat hnw o0 ho0w _ hvl ob hvo kc q hpn hq
              have hkpe : kp1 av2_ (nI o0) = kp1 av (nI o0) := kp1_cong (hA2 33 (by decide)) (hA2 34 (by decide)) (hA2 36 (by decide))
              exact lp_mv102 (iv := iv2_) (av := av2_) (ob := ob) (flo := flo) (vc := vc) (kc := kc) (ok0 := q) (pn := pn) (bn := bn) C hok2 hin ((hS2 13 (by decide)).trans h13) hflo hnw ho0w hpn hq (by rw [hkpe]; exact hsb.1) hsb.2 (fun j hj hne => by rw [hA2 53 (by decide), hA2 56 (by decide)]; rw [hA2 33 (by decide)] at hne; exact hw j hj hne) ((hS2 12 (by decide)).trans h12) (fun iv6 av6 ob2 ob3 flo2 cc e1 e2 e3 e4 e5 e6 e7 e8 => by
                rw [hkpe] at e1
                rw [wnS_cong (hA2 33 (by decide)) (hA2 52 (by decide)) (hA2 57 (by decide))] at e3
                exact ⟨iv6, av6, rfl, by rw [e8 14 (by decide)]; exact hf2, (hS2.mo (by decide)).tr e7 (by decide), (hA2.mo (by decide)).tr e8 (by decide), Or.inr ⟨ob3, flo2, cc, ⟨nw, k, o0, _, ob, ob2, kc, q, hnw, hlat, rfl, hk1, ho0, hvl, hvo, hpn, hq, e1, e3, e4⟩, rfl, e2, e5, e6⟩⟩) _ _ _ G (lv_sub hl [1, 2, 3, 4] rfl)
            · exact absurd (nb_nle (a := 0) (b := kc) c_83 (by omega) (by omega)) (by omega)
        · refine lv_iload_n hx hb dX11_vacuum_33 rfl (lv_at hl 0 rfl) ?_
          refine lv_iload_n hx hb dX11_vacuum_34 rfl (lv_at hl 2 rfl) ?_
          refine lv_isub hx hb dX11_vacuum_35 ?_
          refine lv_goto (tgt := 43) hx hb dX11_vacuum_36 (by decide) ?_
          refine k_topi (y := nI o0) (by rw [← hmx, if_pos (Int32.not_le.mp c_30)]) ?_
          refine lv_istore_n (lv' := [(3, .int (nI o0)), (2, .int (nI nw)), (0, .ref h), (1, .int (nI k))]) hx hb dX11_vacuum_43 rfl hl (by decide) rfl (fun ls hl => ?_)
          refine lv_iload_n hx hb dX11_vacuum_44 rfl (lv_at hl 0 rfl) ?_
          refine lv_istore (lv' := [(4, .int (nI o0)), (3, .int (nI o0)), (2, .int (nI nw)), (0, .ref h), (1, .int (nI k))]) hx hb dX11_vacuum_45 hl (by decide) rfl (fun ls hl => ?_)
          refine lp_mva1 (iv0 := iv) (av0 := av) (ob := ob) (flo := flo) C ho hin h13 hflo hnw (fun iv2 av2 b1 b2 b3 => ⟨iv2, av2, rfl, by rw [b2 14 (by decide)]; exact hf14, b1.mo (by decide), b2.mo (by decide), Or.inl ⟨fun nw2 k2 o2 a1 a2 a3 a4 a5 => by
            have e1 := nI_inj20 a1 hnw (a2.symm.trans hlat)
            have e2 := nb_eq (a := k) (b := k2) a3 (by omega) (by omega)
            subst e1
            subst e2
            rw [← ho0] at a5
            subst a5
            exact Or.inl b3, rfl, ho.same b1 b2 (by decide) (by decide) (by decide) (by decide) (by decide) (by decide), (b1 12 (by decide)).trans h12, (b1 13 (by decide)).trans h13⟩⟩) (fun iv1_ av1_ hs1 ha1 hal H locs ls G hl => ?_) (nw + 1 - o0) o0 iv av (by omega) (Nat.le_refl _) sI.rf sA.rf (fun w a b => absurd b (by omega)) _ _ _ G (lv_sub hl [0, 3, 4, 2, 1] rfl)
          have hok1 : mo_ok iv1_ av1_ ob := ho.same hs1 ha1 (by decide) (by decide) (by decide) (by decide) (by decide) (by decide)
          have h13_1 : iv1_ 13 = flo := (hs1 13 (by decide)).trans h13
          refine lv_aload_n hx hb dX11_vacuum_70 rfl (lv_at hl 0 rfl) ?_
          refine lv_iload_n hx hb dX11_vacuum_71 rfl (lv_at hl 3 rfl) ?_
          refine kcM_i G (krV 1 rfl (As := [.int (nI o0)]) (rest := []) (ci := 12) (CC := RX11) (T := TX11) (N := 61) C G pmN (c_X11_reads Z l h ad iv1_ av1_ ob flo (nI o0) hok1 hin h13_1 hflo _) (gdV ml_X11_280 im_X11_reads se_X11_reads ii_X11 co_X11_reads) (by decide +kernel) ⟨Nat.le_of_ble_eq_true rfl, Nat.le_of_ble_eq_true rfl⟩ rfl 0 rfl hl rfl (Nat.le_of_ble_eq_true rfl) ⟨Nat.le_of_ble_eq_true rfl, Nat.le_of_ble_eq_true rfl⟩ dX11_vacuum_72) (fun r_72_1 u H locs hu G => ?_)
          obtain ⟨iv2_, av2_, rfl, hs2, ha2, hcs2⟩ := hu
          obtain ⟨r_72_1_e, F, hvr, hF⟩ := hcs2.resolve_right (fun z => hal o0 (Nat.le_refl _) ho0w z.2)
          subst r_72_1_e
          have hS2 : sI [16, 17, 18, 26, 30] iv iv2_ := hs1.tr hs2 (fun j hj => hj)
          have hA2 : sA [27, 28, 29, 31, 32] av av2_ := ha1.tr ha2 (fun j hj => hj)
          have hok2 : mo_ok iv2_ av2_ ob := ho.same hS2 hA2 (by decide) (by decide) (by decide) (by decide) (by decide) (by decide)
          have hf2 : ∀ i, fits .byte (.int (av2_ 14 i)) = true := by rw [hA2 14 (by decide)]; exact hf14
          have hvl : vall ob flo o0 nw (fun w => (mVr ob flo (nI w)).getD []) := fun w a b => by
            have h9 := hal w a b
            cases h8 : mVr ob flo (nI w) with
            | none => exact absurd h8 h9
            | some f => exact congrArg some (by show f = (mVr ob flo (nI w)).getD []; rw [h8]; rfl)
          have hF0 : (fun w => (mVr ob flo (nI w)).getD []) o0 = F := by show (mVr ob flo (nI o0)).getD [] = F; rw [hvr]; rfl
          refine lv_istore (lv' := [(4, .int 1), (0, .ref h), (1, .int (nI k)), (2, .int (nI nw)), (3, .int (nI o0))]) hx hb dX11_vacuum_75 hl (by decide) rfl (fun ls hl => ?_)
          refine lv_aload_n hx hb dX11_vacuum_77 rfl (lv_at hl 1 rfl) ?_
          refine lv_iconst (v := 2) hx hb dX11_vacuum_78 (by decide) ?_
          refine lv_iload_n hx hb dX11_vacuum_79 rfl (lv_at hl 4 rfl) ?_
          refine kcM_i G (krV 2 rfl (As := [.int 2, .int (nI o0)]) (rest := []) (ci := 12) (CC := RX11) (T := TX11) (N := 61) C G pmN (c_X11_place Z l h ad iv2_ av2_ ob 2 (nI o0) hok2 _) (gdV ml_X11_165 im_X11_place se_X11_place ii_X11 co_X11_place) (by decide +kernel) ⟨Nat.le_of_ble_eq_true rfl, Nat.le_of_ble_eq_true rfl⟩ rfl 0 rfl hl rfl (Nat.le_of_ble_eq_true rfl) ⟨Nat.le_of_ble_eq_true rfl, Nat.le_of_ble_eq_true rfl⟩ dX11_vacuum_80) (fun r_80_1 u H locs hu G => ?_)
          obtain ⟨r_80_1_e, rfl⟩ := hu
          rcases plR_cases ob 2 (nI o0) with ⟨hpn, hpe⟩ | ⟨kc, q, hpn, hq, hq1, hq2, hpe⟩
          · rw [hpe] at r_80_1_e
            subst r_80_1_e
            refine lv_if_ge (tgt := 102) hx hb dX11_vacuum_83 (by decide) (fun c_83 => ?_) (fun c_83 => ?_)
            · exact absurd c_83 (by decide)
            · refine lv_aload_n hx hb dX11_vacuum_86 rfl (lv_at hl 1 rfl) ?_
              refine lv_iload_n hx hb dX11_vacuum_87 rfl (lv_at hl 4 rfl) ?_
              refine kcM_v G (krV 1 rfl (As := [.int (nI o0)]) (rest := []) (ci := 12) (CC := RX11) (T := TX11) (N := 61) C G pmN (c_X11_makeCheckpoint Z l h ad iv2_ av2_ F (nI o0) hF hf2 _) (gdV ml_X11_333 im_X11_makeCheckpoint se_X11_makeCheckpoint ii_X11 co_X11_makeCheckpoint) (by decide +kernel) ⟨Nat.le_of_ble_eq_true rfl, Nat.le_of_ble_eq_true rfl⟩ rfl 0 rfl hl rfl (Nat.le_of_ble_eq_true rfl) ⟨Nat.le_of_ble_eq_true rfl, Nat.le_of_ble_eq_true rfl⟩ dX11_vacuum_88) (fun u H locs hu G => ?_)
              obtain ⟨iv3_, av3_, rfl, hm3, hs3, ha3⟩ := hu
              have hlen := ckE_len (nI o0) F
              have hFl := hF.2.2.1
              refine lv_aload_n hx hb dX11_vacuum_91 rfl (lv_at hl 1 rfl) ?_
              refine lv_iconst (v := 2) hx hb dX11_vacuum_92 (by decide) ?_
              refine lv_iload_n hx hb dX11_vacuum_93 rfl (lv_at hl 4 rfl) ?_
              refine kcM_i G (krV 2 rfl (As := [.int 2, .int (nI o0)]) (rest := []) (ci := 12) (CC := RX11) (T := TX11) (N := 61) C G pmN (c_X11_put Z l h ad iv3_ av3_ ob (ckE (nI o0) F) 2 (nI o0) ro (hok2.same hs3 ha3 (by decide) (by decide) (by decide) (by decide) (by decide) (by decide)) hm3 (by omega) (by omega) ((hs3 6 (by decide)).trans ((hS2 6 (by decide)).trans h6)) _) (gdV ml_X11_310 im_X11_put se_X11_put ii_X11 co_X11_put) (by decide +kernel) ⟨Nat.le_of_ble_eq_true rfl, Nat.le_of_ble_eq_true rfl⟩ rfl 0 rfl hl rfl (Nat.le_of_ble_eq_true rfl) ⟨Nat.le_of_ble_eq_true rfl, Nat.le_of_ble_eq_true rfl⟩ dX11_vacuum_94) (fun r_94_1 u H locs hu G => ?_)
              obtain ⟨iv4_, av4_, rfl, hcs4⟩ := hu
              rcases hcs4 with ⟨hcan, r_94_1_e, hok4, hs4, ha4⟩ | ⟨hcan, r_94_1_e, hi4, ha4⟩
              · subst r_94_1_e
                refine lv_if_ne (tgt := 102) hx hb dX11_vacuum_97 (by decide) (fun c_97 => ?_) (fun c_97 => ?_)
                · have n_97 := nb_ne (a := 1) (b := 0) c_97 (by omega) (by omega)
                  have hvo : vob ob ro o0 ((fun w => (mVr ob flo (nI w)).getD []) o0) (ob ++ [(2, nI o0, ckE (nI o0) F)]) := by rw [hF0]; exact Or.inr ⟨hcan, rfl⟩
                  have hin4 : mo_in (ob ++ [(2, nI o0, ckE (nI o0) F)]) := mo_in_add hin hcan.1 (by omega) (fun _ => by omega)
                  obtain ⟨kc, q, hq, hpn⟩ : ∃ kc q, (ob ++ [(2, nI o0, ckE (nI o0) F)])[kc]? = some q ∧ mFi (ob ++ [(2, nI o0, ckE (nI o0) F)]) 2 (nI o0) = some kc := by
                    have h9 : (ob ++ [(2, nI o0, ckE (nI o0) F)])[ob.length]? = some (2, nI o0, ckE (nI o0) F) := by rw [List.getElem?_append_right (Nat.le_refl _), Nat.sub_self]; rfl
                    exact ⟨ob.length, _, h9, mFi_at hin4.1 h9⟩
                  have hsb := hst nw hlat hnw o0 ho0w _ hvl _ hvo kc q hpn hq
                  have hS4 : sI [4, 5, 15, 16, 17, 18, 26, 30] iv iv4_ := ((hS2.mo (by decide)).tr hs3 (by decide)).tr hs4 (by decide)
                  have hA4 : sA [0, 1, 2, 3, 14, 27, 28, 29, 31, 32] av av4_ := ((hA2.mo (by decide)).tr ha3 (by decide)).tr ha4 (by decide)
                  have hf4 : ∀ i, fits .byte (.int (av4_ 14 i)) = true := by rw [ha4 14 (by decide)]; exact hm3.2.2
                  have hkpe : kp1 av4_ (nI o0) = kp1 av (nI o0) := kp1_cong (hA4 33 (by decide)) (hA4 34 (by decide)) (hA4 36 (by decide))
                  exact lp_mv102 (iv := iv4_) (av := av4_) (ob := ob ++ [(2, nI o0, ckE (nI o0) F)]) (flo := flo) (vc := vc) (kc := kc) (ok0 := q) (pn := pn) (bn := bn) C hok4 hin4 ((hS4 13 (by decide)).trans h13) hflo hnw ho0w hpn hq (by rw [hkpe]; exact hsb.1) hsb.2 (fun j hj hne => by rw [hA4 53 (by decide), hA4 56 (by decide)]; rw [hA4 33 (by decide)] at hne; exact hw j hj hne) ((hS4 12 (by decide)).trans h12) (fun iv6 av6 ob2 ob3 flo2 cc e1 e2 e3 e4 e5 e6 e7 e8 => by
                    rw [hkpe] at e1
                    rw [wnS_cong (hA4 33 (by decide)) (hA4 52 (by decide)) (hA4 57 (by decide))] at e3
                    exact ⟨iv6, av6, rfl, by rw [e8 14 (by decide)]; exact hf4, (hS4.mo (by decide)).tr e7 (by decide), (hA4.mo (by decide)).tr e8 (by decide), Or.inr ⟨ob3, flo2, cc, ⟨nw, k, o0, _, _, ob2, kc, q, hnw, hlat, rfl, hk1, ho0, hvl, hvo, hpn, hq, e1, e3, e4⟩, rfl, e2, e5, e6⟩⟩) _ _ _ G (lv_sub hl [1, 2, 3, 4] rfl)
                · exact absurd c_97 (by decide)
              · subst r_94_1_e
                rw [hi4, ha4] at G
                refine lv_if_ne (tgt := 102) hx hb dX11_vacuum_97 (by decide) (fun c_97 => ?_) (fun c_97 => ?_)
                · exact absurd c_97 (by decide)
                · have n_97 := nb_eq (a := 0) (b := 0) c_97 (by omega) (by omega)
                  refine lv_iconst (v := (-1)) hx hb dX11_vacuum_100 (by decide) ?_
                  exact kr_i C G ⟨iv3_, av3_, rfl, hm3.2.2, (hS2.mo (by decide)).tr hs3 (by decide), (hA2.mo (by decide)).tr ha3 (by decide), Or.inl ⟨fun nw2 k2 o2 a1 a2 a3 a4 a5 => by
                    have e1 := nI_inj20 a1 hnw (a2.symm.trans hlat)
                    have e2 := nb_eq (a := k) (b := k2) a3 (by omega) (by omega)
                    subst e1
                    subst e2
                    rw [← ho0] at a5
                    subst a5
                    exact Or.inr ⟨F, hvr, hpn, hcan⟩, rfl, hok2.same hs3 ha3 (by decide) (by decide) (by decide) (by decide) (by decide) (by decide), (hs3 12 (by decide)).trans ((hS2 12 (by decide)).trans h12), (hs3 13 (by decide)).trans ((hS2 13 (by decide)).trans h13)⟩⟩ (Nat.le_of_ble_eq_true rfl) (Nat.le_of_ble_eq_true rfl) dX11_vacuum_101
          · rw [hpe] at r_80_1_e
            subst r_80_1_e
            have hkc1 := (List.getElem?_eq_some_iff.mp hq).1
            have hob1 := ho.2.1
            refine lv_if_ge (tgt := 102) hx hb dX11_vacuum_83 (by decide) (fun c_83 => ?_) (fun c_83 => ?_)
            · have n_83 := nb_le (a := 0) (b := kc) c_83 (by omega) (by omega)
              have hvo : vob ob ro o0 ((fun w => (mVr ob flo (nI w)).getD []) o0) ob := Or.inl ⟨fun z => (by rw [hpn] at z; cases z), rfl⟩
              have hsb := hst nw hlat hnw o0 ho0w _ hvl ob hvo kc q hpn hq
              have hkpe : kp1 av2_ (nI o0) = kp1 av (nI o0) := kp1_cong (hA2 33 (by decide)) (hA2 34 (by decide)) (hA2 36 (by decide))
              exact lp_mv102 (iv := iv2_) (av := av2_) (ob := ob) (flo := flo) (vc := vc) (kc := kc) (ok0 := q) (pn := pn) (bn := bn) C hok2 hin ((hS2 13 (by decide)).trans h13) hflo hnw ho0w hpn hq (by rw [hkpe]; exact hsb.1) hsb.2 (fun j hj hne => by rw [hA2 53 (by decide), hA2 56 (by decide)]; rw [hA2 33 (by decide)] at hne; exact hw j hj hne) ((hS2 12 (by decide)).trans h12) (fun iv6 av6 ob2 ob3 flo2 cc e1 e2 e3 e4 e5 e6 e7 e8 => by
                rw [hkpe] at e1
                rw [wnS_cong (hA2 33 (by decide)) (hA2 52 (by decide)) (hA2 57 (by decide))] at e3
                exact ⟨iv6, av6, rfl, by rw [e8 14 (by decide)]; exact hf2, (hS2.mo (by decide)).tr e7 (by decide), (hA2.mo (by decide)).tr e8 (by decide), Or.inr ⟨ob3, flo2, cc, ⟨nw, k, o0, _, ob, ob2, kc, q, hnw, hlat, rfl, hk1, ho0, hvl, hvo, hpn, hq, e1, e3, e4⟩, rfl, e2, e5, e6⟩⟩) _ _ _ G (lv_sub hl [1, 2, 3, 4] rfl)
            · exact absurd (nb_nle (a := 0) (b := kc) c_83 (by omega) (by omega)) (by omega)
      · refine lv_iconst (v := (-1)) hx hb dX11_vacuum_21 (by decide) ?_
        exact kr_i C G ⟨iv, av, rfl, hf14, sI.rf, sA.rf, Or.inl ⟨fun nw k o0 a1 a2 a3 a4 a5 => absurd (a2.symm.trans c_18) (nI_neg1 (by omega)), rfl, ho, h12, h13⟩⟩ (Nat.le_of_ble_eq_true rfl) (Nat.le_of_ble_eq_true rfl) dX11_vacuum_22
