/-! MODEL (X11): checkpoint, look. -/
set_option maxRecDepth 100000 in
set_option maxHeartbeats 4000000 in
theorem c_X11_checkpoint (Z : zT) (l : Launch) (h : Nat) (ad : Nat → Nat) (iv : ivT) (av : avT) (ob : List obT) (flo x ro : Int32) (ho : mo_ok iv av ob) (hin : mo_in ob) (h13 : iv 13 = flo) (hflo : ¬ flo < 0) (h6 : iv 6 = ro) (hf14 : ∀ i, fits .byte (.int (av 14 i)) = true) : Ki Z l yX11_checkpoint cX11_checkpoint 2 (some .int) ({ frames := 4, cells := 0, slots := 0, locals := 130 }) [.ref h, .int x] (mdW Z h ad iv av) (fun r u => ∃ (iv2 : ivT) (av2 : avT) (ob2 : List obT), u = mdW Z h ad iv2 av2 ∧ mo_ok iv2 av2 ob2 ∧ (∀ i, fits .byte (.int (av2 14 i)) = true) ∧ sI [4, 5, 15, 16, 17, 18, 26, 30] iv iv2 ∧ sA [0, 1, 2, 3, 14, 27, 28, 29, 31, 32] av av2 ∧ ((¬ (¬ x < 0 ∧ x ≤ mLt ob) ∧ r = -1 ∧ ob2 = ob) ∨ ((¬ x < 0 ∧ x ≤ mLt ob) ∧ ((¬ mFi ob 2 x = none ∧ r = 0 ∧ ob2 = ob) ∨ (mFi ob 2 x = none ∧ mVr ob flo x = none ∧ r = -1 ∧ ob2 = ob) ∨ (∃ F, mFi ob 2 x = none ∧ mVr ob flo x = some F ∧ F.length ≤ 200 ∧ (((mFi ob 2 x = none ∧ ob.length < 100 ∧ nI (oSz ob + (ckE x F).length) ≤ ro) ∧ r = 1 ∧ ob2 = ob ++ [(2, x, ckE x F)]) ∨ (¬ (mFi ob 2 x = none ∧ ob.length < 100 ∧ nI (oSz ob + (ckE x F).length) ≤ ro) ∧ r = -2 ∧ ob2 = ob))))))) := by
  intro sz
  refine Met.ofK (cc := cX11_checkpoint) (maxL := 2) (ret := (some .int)) (by decide) (Nat.le_of_ble_eq_true rfl) ?_
  intro p e s m below meth c ls C G hl
  generalize va_A _ sz = A at G ⊢
  have hx := C.1
  have hb := C.2.1
  have hown := C.2.2.2.2.2.1
  have hts := C.2.2.2.2.2.2.1
  have hob := ho.2.1
  refine lv_iload_n hx hb dX11_checkpoint_0 rfl (lv_at hl 1 rfl) ?_
  refine lv_if_lt (tgt := 12) hx hb dX11_checkpoint_1 (by decide) (fun c_1 => ?_) (fun c_1 => ?_)
  · refine lv_iconst (v := (-1)) hx hb dX11_checkpoint_12 (by decide) ?_
    exact kr_i C G ⟨iv, av, ob, rfl, ho, hf14, sI.rf, sA.rf, Or.inl ⟨fun z => z.1 c_1, rfl, rfl⟩⟩ (Nat.le_of_ble_eq_true rfl) (Nat.le_of_ble_eq_true rfl) dX11_checkpoint_13
  · refine lv_iload_n hx hb dX11_checkpoint_4 rfl (lv_at hl 1 rfl) ?_
    refine lv_aload_n hx hb dX11_checkpoint_5 rfl (lv_at hl 0 rfl) ?_
    refine kcM_i G (krV 0 rfl (As := []) (rest := [.int x]) (ci := 12) (CC := RX11) (T := TX11) (N := 61) C G pmN (c_X11_latest Z l h ad iv av ob ho _) (gdV ml_X11_251 im_X11_latest se_X11_latest ii_X11 co_X11_latest) (by decide +kernel) ⟨Nat.le_of_ble_eq_true rfl, Nat.le_of_ble_eq_true rfl⟩ rfl 0 rfl hl rfl (Nat.le_of_ble_eq_true rfl) ⟨Nat.le_of_ble_eq_true rfl, Nat.le_of_ble_eq_true rfl⟩ dX11_checkpoint_6) (fun r_6 u H locs hu G => ?_)
    obtain ⟨r_6_e, rfl⟩ := hu
    subst r_6_e
    refine lv_icmp_le (tgt := 14) hx hb dX11_checkpoint_9 (by decide) (fun c_9 => ?_) (fun c_9 => ?_)
    · refine lv_aload_n hx hb dX11_checkpoint_14 rfl (lv_at hl 0 rfl) ?_
      refine lv_iconst (v := 2) hx hb dX11_checkpoint_15 (by decide) ?_
      refine lv_iload_n hx hb dX11_checkpoint_16 rfl (lv_at hl 1 rfl) ?_
      refine kcM_i G (krV 2 rfl (As := [.int 2, .int x]) (rest := []) (ci := 12) (CC := RX11) (T := TX11) (N := 61) C G pmN (c_X11_place Z l h ad iv av ob 2 x ho _) (gdV ml_X11_165 im_X11_place se_X11_place ii_X11 co_X11_place) (by decide +kernel) ⟨Nat.le_of_ble_eq_true rfl, Nat.le_of_ble_eq_true rfl⟩ rfl 0 rfl hl rfl (Nat.le_of_ble_eq_true rfl) ⟨Nat.le_of_ble_eq_true rfl, Nat.le_of_ble_eq_true rfl⟩ dX11_checkpoint_17) (fun r_17 u H locs hu G => ?_)
      obtain ⟨r_17_e, rfl⟩ := hu
      rcases plR_cases ob 2 x with ⟨hn, hq⟩ | ⟨k, o, hk1, hk, ho1, ho2, hq⟩
      · rw [hq] at r_17_e
        subst r_17_e
        refine lv_if_lt (tgt := 25) hx hb dX11_checkpoint_20 (by decide) (fun c_20 => ?_) (fun c_20 => ?_)
        · refine lv_aload_n hx hb dX11_checkpoint_25 rfl (lv_at hl 0 rfl) ?_
          refine lv_iload_n hx hb dX11_checkpoint_26 rfl (lv_at hl 1 rfl) ?_
          refine kcM_i G (krV 1 rfl (As := [.int x]) (rest := []) (ci := 12) (CC := RX11) (T := TX11) (N := 61) C G pmN (c_X11_reads Z l h ad iv av ob flo x ho hin h13 hflo _) (gdV ml_X11_280 im_X11_reads se_X11_reads ii_X11 co_X11_reads) (by decide +kernel) ⟨Nat.le_of_ble_eq_true rfl, Nat.le_of_ble_eq_true rfl⟩ rfl 0 rfl hl rfl (Nat.le_of_ble_eq_true rfl) ⟨Nat.le_of_ble_eq_true rfl, Nat.le_of_ble_eq_true rfl⟩ dX11_checkpoint_27) (fun r_27 u H locs hu G => ?_)
          obtain ⟨iv1_, av1_, rfl, hs1, ha1, hcs1⟩ := hu
          rcases hcs1 with ⟨r_27_e, F, hvr, hF⟩ | ⟨r_27_e, hvr⟩
          · subst r_27_e
            have hfl := hF.2.2.1
            refine lv_if_ne (tgt := 35) hx hb dX11_checkpoint_30 (by decide) (fun c_30 => ?_) (fun c_30 => ?_)
            · have n_30 := nb_ne (a := 1) (b := 0) c_30 (by omega) (by omega)
              refine lv_aload_n hx hb dX11_checkpoint_35 rfl (lv_at hl 0 rfl) ?_
              refine lv_iload_n hx hb dX11_checkpoint_36 rfl (lv_at hl 1 rfl) ?_
              refine kcM_v G (krV 1 rfl (As := [.int x]) (rest := []) (ci := 12) (CC := RX11) (T := TX11) (N := 61) C G pmN (c_X11_makeCheckpoint Z l h ad iv1_ av1_ F x hF (by rw [ha1 14 (by decide)]; exact hf14) _) (gdV ml_X11_333 im_X11_makeCheckpoint se_X11_makeCheckpoint ii_X11 co_X11_makeCheckpoint) (by decide +kernel) ⟨Nat.le_of_ble_eq_true rfl, Nat.le_of_ble_eq_true rfl⟩ rfl 0 rfl hl rfl (Nat.le_of_ble_eq_true rfl) ⟨Nat.le_of_ble_eq_true rfl, Nat.le_of_ble_eq_true rfl⟩ dX11_checkpoint_37) (fun u H locs hu G => ?_)
              obtain ⟨iv2_, av2_, rfl, hm2, hs2, ha2⟩ := hu
              have hok2 : mo_ok iv2_ av2_ ob := (ho.same hs1 ha1 (by decide) (by decide) (by decide) (by decide) (by decide) (by decide)).same hs2 ha2 (by decide) (by decide) (by decide) (by decide) (by decide) (by decide)
              have hcl := ckE_len x F
              refine lv_aload_n hx hb dX11_checkpoint_40 rfl (lv_at hl 0 rfl) ?_
              refine lv_iconst (v := 2) hx hb dX11_checkpoint_41 (by decide) ?_
              refine lv_iload_n hx hb dX11_checkpoint_42 rfl (lv_at hl 1 rfl) ?_
              refine kcM_i G (krV 2 rfl (As := [.int 2, .int x]) (rest := []) (ci := 12) (CC := RX11) (T := TX11) (N := 61) C G pmN (c_X11_put Z l h ad iv2_ av2_ ob (ckE x F) 2 x ro hok2 hm2 (by omega) (by omega) ((hs2 6 (by decide)).trans ((hs1 6 (by decide)).trans h6)) _) (gdV ml_X11_310 im_X11_put se_X11_put ii_X11 co_X11_put) (by decide +kernel) ⟨Nat.le_of_ble_eq_true rfl, Nat.le_of_ble_eq_true rfl⟩ rfl 0 rfl hl rfl (Nat.le_of_ble_eq_true rfl) ⟨Nat.le_of_ble_eq_true rfl, Nat.le_of_ble_eq_true rfl⟩ dX11_checkpoint_43) (fun r_43 u H locs hu G => ?_)
              obtain ⟨iv3_, av3_, rfl, hcs3⟩ := hu
              rcases hcs3 with ⟨hcan, r_43_e, hok3, hs3, ha3⟩ | ⟨hcan, r_43_e, e8, e9⟩
              · subst r_43_e
                refine lv_if_eq (tgt := 53) hx hb dX11_checkpoint_46 (by decide) (fun c_46 => ?_) (fun c_46 => ?_)
                · exact absurd c_46 (by decide)
                · have n_46 := nb_ne (a := 1) (b := 0) c_46 (by omega) (by omega)
                  refine lv_iconst (v := 1) hx hb dX11_checkpoint_49 (by decide) ?_
                  refine lv_goto (tgt := 55) hx hb dX11_checkpoint_50 (by decide) ?_
                  exact kr_i C G ⟨_, _, _, rfl, hok3, by rw [ha3 14 (by decide)]; exact hm2.2.2, ((hs1.mo (by decide)).tr hs2 (by decide)).tr hs3 (by decide), ((ha1.mo (by decide)).tr ha2 (by decide)).tr ha3 (by decide), Or.inr ⟨⟨c_1, c_9⟩, Or.inr (Or.inr ⟨F, hn, hvr, hfl, Or.inl ⟨hcan, rfl, rfl⟩⟩)⟩⟩ (Nat.le_of_ble_eq_true rfl) (Nat.le_of_ble_eq_true rfl) dX11_checkpoint_55
              · subst r_43_e
                rw [e8, e9] at G
                refine lv_if_eq (tgt := 53) hx hb dX11_checkpoint_46 (by decide) (fun c_46 => ?_) (fun c_46 => ?_)
                · have n_46 := nb_eq (a := 0) (b := 0) c_46 (by omega) (by omega)
                  refine lv_bipush (v := (-2)) hx hb dX11_checkpoint_53 (by decide) ?_
                  exact kr_i C G ⟨_, _, ob, rfl, hok2, hm2.2.2, (hs1.mo (by decide)).tr hs2 (by decide), (ha1.mo (by decide)).tr ha2 (by decide), Or.inr ⟨⟨c_1, c_9⟩, Or.inr (Or.inr ⟨F, hn, hvr, hfl, Or.inr ⟨hcan, rfl, rfl⟩⟩)⟩⟩ (Nat.le_of_ble_eq_true rfl) (Nat.le_of_ble_eq_true rfl) dX11_checkpoint_55
                · exact absurd c_46 (by decide)
            · exact absurd c_30 (by decide)
          · subst r_27_e
            refine lv_if_ne (tgt := 35) hx hb dX11_checkpoint_30 (by decide) (fun c_30 => ?_) (fun c_30 => ?_)
            · exact absurd c_30 (by decide)
            · have n_30 := nb_eq (a := 0) (b := 0) c_30 (by omega) (by omega)
              refine lv_iconst (v := (-1)) hx hb dX11_checkpoint_33 (by decide) ?_
              exact kr_i C G ⟨_, _, ob, rfl, ho.same hs1 ha1 (by decide) (by decide) (by decide) (by decide) (by decide) (by decide), by rw [ha1 14 (by decide)]; exact hf14, hs1.mo (by decide), ha1.mo (by decide), Or.inr ⟨⟨c_1, c_9⟩, Or.inr (Or.inl ⟨hn, hvr, rfl, rfl⟩)⟩⟩ (Nat.le_of_ble_eq_true rfl) (Nat.le_of_ble_eq_true rfl) dX11_checkpoint_34
        · exact absurd c_20 (by decide)
      · rw [hq] at r_17_e
        subst r_17_e
        have hkl := mFi_lt hk1
        refine lv_if_lt (tgt := 25) hx hb dX11_checkpoint_20 (by decide) (fun c_20 => ?_) (fun c_20 => ?_)
        · exact absurd (nb_lt (a := k) (b := 0) c_20 (by omega) (by omega)) (by omega)
        · have n_20 := nb_nlt (a := k) (b := 0) c_20 (by omega) (by omega)
          refine lv_iconst (v := 0) hx hb dX11_checkpoint_23 (by decide) ?_
          exact kr_i C G ⟨iv, av, ob, rfl, ho, hf14, sI.rf, sA.rf, Or.inr ⟨⟨c_1, c_9⟩, Or.inl ⟨fun z => (by rw [z] at hk1; cases hk1), rfl, rfl⟩⟩⟩ (Nat.le_of_ble_eq_true rfl) (Nat.le_of_ble_eq_true rfl) dX11_checkpoint_24
    · refine lv_iconst (v := (-1)) hx hb dX11_checkpoint_12 (by decide) ?_
      exact kr_i C G ⟨iv, av, ob, rfl, ho, hf14, sI.rf, sA.rf, Or.inl ⟨fun z => c_9 z.2, rfl, rfl⟩⟩ (Nat.le_of_ble_eq_true rfl) (Nat.le_of_ble_eq_true rfl) dX11_checkpoint_13
noncomputable def lkM (ob : List obT) (x ki pt : Int32) : Int32 := (mLk ob 1 x).elim (-4) (fun bs => @ite _ (enS (fnB bs) bs.length x) (Classical.propDecidable _) (@ite _ (¬ ki = 0 ∧ ∃ k, k < ub (fnB bs 5) ∧ nI (aP (fnB bs) k) = pt) (Classical.propDecidable _) (-2) 5) (-4))
theorem lkM_no {ob : List obT} {x ki pt : Int32} (h : ∀ bs, mLk ob 1 x = some bs → ¬ enS (fnB bs) bs.length x) : lkM ob x ki pt = -4 := by
  unfold lkM
  cases hb : mLk ob 1 x with
  | none => rfl
  | some bs => exact if_neg (h bs hb)
theorem lkM_2 {ob : List obT} {x ki pt : Int32} {bs : List Int8} (h : mLk ob 1 x = some bs) (he : enS (fnB bs) bs.length x) (h2 : ¬ ki = 0 ∧ ∃ k, k < ub (fnB bs 5) ∧ nI (aP (fnB bs) k) = pt) : lkM ob x ki pt = -2 := by
  unfold lkM; rw [h]; exact (if_pos he).trans (if_pos h2)
theorem lkM_5 {ob : List obT} {x ki pt : Int32} {bs : List Int8} (h : mLk ob 1 x = some bs) (he : enS (fnB bs) bs.length x) (h2 : ¬ (¬ ki = 0 ∧ ∃ k, k < ub (fnB bs 5) ∧ nI (aP (fnB bs) k) = pt)) : lkM ob x ki pt = 5 := by
  unfold lkM; rw [h]; exact (if_pos he).trans (if_neg h2)
set_option maxRecDepth 100000 in
set_option maxHeartbeats 4000000 in
theorem lp_mlook {p : Program} {l : Launch} {e : Env} {s : State} {m : MethodId} {args : Array Value} {below : List Frame} {meth : Method} {c : Code} {Z : zT} {A : Nat → Prop} {h : Nat} {ad : Nat → Nat} {iv : ivT} {av : avT} {wn nA : Nat} {f : Nat → Int32} {ki pt fa : Int32} {post : Int32 → va_W → Prop} (C : cx p s m args meth c cX11_look 3 (some .int) RX11 "look") (hwn : wn < 4) (hnA : nA < 256) (h26 : iv 26 = nI nA) (h11 : iv 11 = fa) (h35 : av 35 wn = ki) (h41 : av 41 wn = pt) (h29 : ∀ j, j < nA → av 29 j = nI (aP f j)) (hp5 : ¬ (¬ ki = 0 ∧ ∃ k, k < nA ∧ nI (aP f k) = pt) → post 5 (mdW Z h ad iv av)) (hp2 : (¬ ki = 0 ∧ ∃ k, k < nA ∧ nI (aP f k) = pt) → post (-2) (mdW Z h ad (upd iv 11 (fa + 1)) (ua av 33 (upd (av 33) wn 0)))) : ∀ (n i : Nat), i + n = nA → (∀ j, j < i → ¬ (¬ ki = 0 ∧ nI (aP f j) = pt)) → ∀ (H : Heap) (locs : List Loc) (ls : Array Slot), wd Z A s (mdW Z h ad iv av) H locs → lv_has ls 3 [(2, .int (nI i)), (0, .ref h), (1, .int (nI wn))] → W p l e ({ frames := 3, cells := 0, slots := 0, locals := 100 }) s m args below meth c H locs 0 0 (MQ below (va_Qi post (mB Z A) A) args s 0 0 A) (F0 m 39 ls []) := by
  have hx := C.1
  have hb := C.2.1
  have hown := C.2.2.2.2.2.1
  have hts := C.2.2.2.2.2.2.1
  intro n
  induction n with
  | zero =>
    intro i hi hno H locs ls G hl
    refine lv_iload_n hx hb dX11_look_39 rfl (lv_at hl 0 rfl) ?_
    refine lv_aload_n hx hb dX11_look_40 rfl (lv_at hl 1 rfl) ?_
    refine k_mgi (v := nI nA) C G 26 (by decide) mr_26 h26 fl_X11_236 rfl dX11_look_41 ?_
    refine lv_icmp_ge (tgt := 84) hx hb dX11_look_44 (by decide) (fun c_44 => ?_) (fun c_44 => ?_)
    · have n_44 := nb_le (a := nA) (b := i) c_44 (by omega) (by omega)
      refine lv_iconst (v := 5) hx hb dX11_look_84 (by decide) ?_
      exact kr_i C G (hp5 (fun z => by obtain ⟨z1, k, z2, z3⟩ := z; exact hno k (by omega) ⟨z1, z3⟩)) (Nat.le_of_ble_eq_true rfl) (Nat.le_of_ble_eq_true rfl) dX11_look_85
    · exact absurd (nb_nle (a := nA) (b := i) c_44 (by omega) (by omega)) (by omega)
  | succ n ih =>
    intro i hi hno H locs ls G hl
    refine lv_iload_n hx hb dX11_look_39 rfl (lv_at hl 0 rfl) ?_
    refine lv_aload_n hx hb dX11_look_40 rfl (lv_at hl 1 rfl) ?_
    refine k_mgi (v := nI nA) C G 26 (by decide) mr_26 h26 fl_X11_236 rfl dX11_look_41 ?_
    refine lv_icmp_ge (tgt := 84) hx hb dX11_look_44 (by decide) (fun c_44 => ?_) (fun c_44 => ?_)
    · exact absurd (nb_le (a := nA) (b := i) c_44 (by omega) (by omega)) (by omega)
    · have n_44 := nb_nle (a := nA) (b := i) c_44 (by omega) (by omega)
      refine lv_aload_n hx hb dX11_look_47 rfl (lv_at hl 1 rfl) ?_
      refine k_mga C G 35 (by decide) mr_35 fl_X11_71 rfl dX11_look_48 ?_
      refine lv_iload_n hx hb dX11_look_51 rfl (lv_at hl 2 rfl) ?_
      refine k_mil (v := ki) (i := wn) C G 17 (k := 35) (n := 4) mp_35 (by decide) (by omega) h35 dX11_look_52 ?_
      refine lv_if_eq (tgt := 78) hx hb dX11_look_53 (by decide) (fun c_53 => ?_) (fun c_53 => ?_)
      · refine lv_iinc (v := nI (i + 1)) (lv' := [(2, .int (nI (i + 1))), (0, .ref h), (1, .int (nI wn))]) hx hb dX11_look_78 hl (k := 0) rfl (nI_1 _) (by decide) rfl (fun ls hl => ?_)
        refine lv_goto (tgt := 39) hx hb dX11_look_81 (by decide) ?_
        exact ih (i + 1) (by omega) (fun j hj => by
          by_cases e : j = i
          · subst e; exact fun z => z.1 c_53
          · exact hno j (by omega)) _ _ _ G (lv_sub hl [0, 1, 2] rfl)
      · refine lv_aload_n hx hb dX11_look_56 rfl (lv_at hl 1 rfl) ?_
        refine k_mga C G 29 (by decide) mr_29 fl_X11_56 rfl dX11_look_57 ?_
        refine lv_iload_n hx hb dX11_look_60 rfl (lv_at hl 0 rfl) ?_
        refine k_mil (v := nI (aP f i)) (i := i) C G 12 (k := 29) (n := 256) mp_29 (by decide) (by omega) (h29 i (by omega)) dX11_look_61 ?_
        refine lv_aload_n hx hb dX11_look_62 rfl (lv_at hl 1 rfl) ?_
        refine k_mga C G 41 (by decide) mr_41 fl_X11_89 rfl dX11_look_63 ?_
        refine lv_iload_n hx hb dX11_look_66 rfl (lv_at hl 2 rfl) ?_
        refine k_mil (v := pt) (i := wn) C G 23 (k := 41) (n := 4) mp_41 (by decide) (by omega) h41 dX11_look_67 ?_
        refine lv_icmp_ne (tgt := 78) hx hb dX11_look_68 (by decide) (fun c_68 => ?_) (fun c_68 => ?_)
        · refine lv_iinc (v := nI (i + 1)) (lv' := [(2, .int (nI (i + 1))), (0, .ref h), (1, .int (nI wn))]) hx hb dX11_look_78 hl (k := 0) rfl (nI_1 _) (by decide) rfl (fun ls hl => ?_)
          refine lv_goto (tgt := 39) hx hb dX11_look_81 (by decide) ?_
          exact ih (i + 1) (by omega) (fun j hj => by
            by_cases e : j = i
            · subst e; exact fun z => c_68 z.2
            · exact hno j (by omega)) _ _ _ G (lv_sub hl [0, 1, 2] rfl)
        · refine lv_aload_n hx hb dX11_look_71 rfl (lv_at hl 1 rfl) ?_
          refine lv_iload_n hx hb dX11_look_72 rfl (lv_at hl 2 rfl) ?_
          refine lv_iconst (v := 2) hx hb dX11_look_73 (by decide) ?_
          refine kcM_i G (krV 2 rfl (As := [.int (nI wn), .int 2]) (rest := []) (ci := 12) (CC := RX11) (T := TX11) (N := 61) C G pmN (c_X11_fails Z l h ad iv av wn 2 fa hwn h11 _) (gdV ml_X11_283 im_X11_fails se_X11_fails ii_X11 co_X11_fails) (by decide +kernel) ⟨Nat.le_of_ble_eq_true rfl, Nat.le_of_ble_eq_true rfl⟩ rfl 0 rfl hl rfl (Nat.le_of_ble_eq_true rfl) ⟨Nat.le_of_ble_eq_true rfl, Nat.le_of_ble_eq_true rfl⟩ dX11_look_74) (fun r_74 u H locs hu G => ?_)
          obtain ⟨r_74_e, rfl⟩ := hu
          subst r_74_e
          exact kr_i C G (hp2 ⟨c_53, i, by omega, c_68⟩) (Nat.le_of_ble_eq_true rfl) (Nat.le_of_ble_eq_true rfl) dX11_look_77
set_option maxRecDepth 100000 in
set_option maxHeartbeats 4000000 in
theorem c_X11_look (Z : zT) (l : Launch) (h : Nat) (ad : Nat → Nat) (iv : ivT) (av : avT) (wn : Nat) (ob : List obT) (ba ki pt fa : Int32) (hwn : wn < 4) (ho : mo_ok iv av ob) (h11 : iv 11 = fa) (h35 : av 35 wn = ki) (h36 : av 36 wn = ba) (h41 : av 41 wn = pt) : Ki Z l yX11_look cX11_look 3 (some .int) ({ frames := 3, cells := 0, slots := 0, locals := 100 }) [.ref h, .int (nI wn)] (mdW Z h ad iv av) (fun r u => ∃ (iv2 : ivT) (av2 : avT), u = mdW Z h ad iv2 av2 ∧ sI [11, 16, 17, 18, 26] iv iv2 ∧ sA [27, 28, 29, 33, 36, 40] av av2 ∧ av2 36 = upd (av 36) wn (ba + 1) ∧ av2 40 = upd (av 40) wn 0 ∧ ((lkM ob (ba + 1) ki pt = 5 ∧ r = 5 ∧ iv2 11 = fa ∧ av2 33 = av 33) ∨ (¬ lkM ob (ba + 1) ki pt = 5 ∧ r = lkM ob (ba + 1) ki pt ∧ iv2 11 = fa + 1 ∧ av2 33 = upd (av 33) wn 0))) := by
  intro sz
  refine Met.ofK (cc := cX11_look) (maxL := 3) (ret := (some .int)) (by decide) (Nat.le_of_ble_eq_true rfl) ?_
  intro p e s m below meth c ls C G hl
  generalize va_A _ sz = A at G ⊢
  have hx := C.1
  have hb := C.2.1
  have hown := C.2.2.2.2.2.1
  have hts := C.2.2.2.2.2.2.1
  refine lv_aload_n hx hb dX11_look_0 rfl (lv_at hl 0 rfl) ?_
  refine k_mga C G 40 (by decide) mr_40 fl_X11_86 rfl dX11_look_1 ?_
  refine lv_iload_n hx hb dX11_look_4 rfl (lv_at hl 1 rfl) ?_
  refine lv_iconst (v := 0) hx hb dX11_look_5 (by decide) ?_
  refine k_mzs (x := 0) (i := wn) C G 22 (k := 40) (n := 4) mp_40 (by decide) (by omega) (by decide) dX11_look_6 (fun H locs (G : wd Z A s (mdW Z h ad iv (ua av 40 (upd (av 40) wn 0))) H locs) => ?_)
  refine lv_aload_n hx hb dX11_look_7 rfl (lv_at hl 0 rfl) ?_
  refine k_mga C G 36 (by decide) mr_36 fl_X11_74 rfl dX11_look_8 ?_
  refine lv_iload_n hx hb dX11_look_11 rfl (lv_at hl 1 rfl) ?_
  refine lv_dup2_11 hx hb dX11_look_12 rfl rfl ?_
  refine k_mil (v := ba) (i := wn) C G 18 (k := 36) (n := 4) mp_36 (by decide) (by omega) h36 dX11_look_13 ?_
  refine lv_iconst (v := 1) hx hb dX11_look_14 (by decide) ?_
  refine lv_iadd hx hb dX11_look_15 ?_
  refine k_mis (x := ba + 1) (i := wn) C G 18 (k := 36) (n := 4) mp_36 (by decide) (by omega) dX11_look_16 (fun H locs (G : wd Z A s (mdW Z h ad iv (ua (ua av 40 (upd (av 40) wn 0)) 36 (upd (av 36) wn (ba + 1)))) H locs) => ?_)
  refine lv_aload_n hx hb dX11_look_17 rfl (lv_at hl 0 rfl) ?_
  refine lv_aload_n hx hb dX11_look_18 rfl (lv_at hl 0 rfl) ?_
  refine k_mga C G 36 (by decide) mr_36 fl_X11_74 rfl dX11_look_19 ?_
  refine lv_iload_n hx hb dX11_look_22 rfl (lv_at hl 1 rfl) ?_
  refine k_mil (v := ba + 1) (i := wn) C G 18 (k := 36) (n := 4) mp_36 (by decide) (by omega) pk_us dX11_look_23 ?_
  refine kcM_i G (krV 1 rfl (As := [.int (ba + 1)]) (rest := []) (ci := 12) (CC := RX11) (T := TX11) (N := 61) C G pmN (c_X11_readEntry Z l h ad iv (ua (ua av 40 (upd (av 40) wn 0)) 36 (upd (av 36) wn (ba + 1))) ob (ba + 1) ⟨ho.1, ho.2.1, ho.2.2.1, ho.2.2.2⟩ _) (gdV ml_X11_257 im_X11_readEntry se_X11_readEntry ii_X11 co_X11_readEntry) (by decide +kernel) ⟨Nat.le_of_ble_eq_true rfl, Nat.le_of_ble_eq_true rfl⟩ rfl 0 rfl hl rfl (Nat.le_of_ble_eq_true rfl) ⟨Nat.le_of_ble_eq_true rfl, Nat.le_of_ble_eq_true rfl⟩ dX11_look_24) (fun r_24 u H locs hu G => ?_)
  obtain ⟨iv1_, av1_, rfl, hs1, ha1, hcs1⟩ := hu
  have hs1 : sI [16, 17, 18, 26] iv iv1_ := hs1
  rcases hcs1 with ⟨r_24_e, bs, hlk, hen, h26c, hfc⟩ | ⟨r_24_e, hen⟩
  · subst r_24_e
    refine lv_if_ne (tgt := 37) hx hb dX11_look_27 (by decide) (fun c_27 => ?_) (fun c_27 => ?_)
    · have n_27 := nb_ne (a := 1) (b := 0) c_27 (by omega) (by omega)
      refine lv_iconst (v := 0) hx hb dX11_look_37 (by decide) ?_
      refine k_topi (y := nI 0) (by rfl) ?_
      refine lv_istore_n (lv' := [(2, .int (nI 0)), (0, .ref h), (1, .int (nI wn))]) hx hb dX11_look_38 rfl hl (by decide) rfl (fun ls hl => ?_)
      exact lp_mlook (f := fnB bs) (ki := ki) (pt := pt) (fa := fa) C hwn (ub_lt _) h26c ((hs1 11 (by decide)).trans h11) ((congrFun (ha1 35 (by decide)) wn).trans h35) ((congrFun (ha1 41 (by decide)) wn).trans h41) (fun j hj => (hfc j hj).2.2) (fun z => ⟨_, _, rfl, hs1.mo (by decide), (((sA.rf.up (k := 40) (by decide) (upd (av 40) wn 0)).up (k := 36) (by decide) (upd (av 36) wn (ba + 1)))).tr ha1 (by decide), (ha1 36 (by decide)).trans rfl, (ha1 40 (by decide)).trans rfl, Or.inl ⟨lkM_5 hlk hen z, rfl, (hs1 11 (by decide)).trans h11, ha1 33 (by decide)⟩⟩) (fun z => ⟨_, _, rfl, (hs1.mo (by decide)).up (by decide) _, ((((sA.rf.up (k := 40) (by decide) (upd (av 40) wn 0)).up (k := 36) (by decide) (upd (av 36) wn (ba + 1)))).tr ha1 (by decide)).up (by decide) _, (ha1 36 (by decide)).trans rfl, (ha1 40 (by decide)).trans rfl, Or.inr ⟨by rw [lkM_2 hlk hen z]; decide, (lkM_2 hlk hen z).symm, rfl, by show upd (av1_ 33) wn 0 = _; rw [ha1 33 (by decide)]; rfl⟩⟩) _ 0 (Nat.zero_add _) (fun j hj => absurd hj (by omega)) _ _ _ G (lv_sub hl [0, 1, 2] rfl)
    · exact absurd c_27 (by decide)
  · subst r_24_e
    refine lv_if_ne (tgt := 37) hx hb dX11_look_27 (by decide) (fun c_27 => ?_) (fun c_27 => ?_)
    · exact absurd c_27 (by decide)
    · have n_27 := nb_eq (a := 0) (b := 0) c_27 (by omega) (by omega)
      refine lv_aload_n hx hb dX11_look_30 rfl (lv_at hl 0 rfl) ?_
      refine lv_iload_n hx hb dX11_look_31 rfl (lv_at hl 1 rfl) ?_
      refine lv_iconst (v := 4) hx hb dX11_look_32 (by decide) ?_
      refine kcM_i G (krV 2 rfl (As := [.int (nI wn), .int 4]) (rest := []) (ci := 12) (CC := RX11) (T := TX11) (N := 61) C G pmN (c_X11_fails Z l h ad iv1_ av1_ wn 4 fa hwn ((hs1 11 (by decide)).trans h11) _) (gdV ml_X11_283 im_X11_fails se_X11_fails ii_X11 co_X11_fails) (by decide +kernel) ⟨Nat.le_of_ble_eq_true rfl, Nat.le_of_ble_eq_true rfl⟩ rfl 0 rfl hl rfl (Nat.le_of_ble_eq_true rfl) ⟨Nat.le_of_ble_eq_true rfl, Nat.le_of_ble_eq_true rfl⟩ dX11_look_33) (fun r_33 u H locs hu G => ?_)
      obtain ⟨r_33_e, rfl⟩ := hu
      subst r_33_e
      have hl4 := lkM_no (ki := ki) (pt := pt) hen
      exact kr_i C G ⟨_, _, rfl, (hs1.mo (by decide)).up (by decide) _, ((((sA.rf.up (k := 40) (by decide) (upd (av 40) wn 0)).up (k := 36) (by decide) (upd (av 36) wn (ba + 1)))).tr ha1 (by decide)).up (by decide) _, (ha1 36 (by decide)).trans rfl, (ha1 40 (by decide)).trans rfl, Or.inr ⟨by rw [hl4]; decide, by rw [hl4], rfl, by show upd (av1_ 33) wn 0 = _; rw [ha1 33 (by decide)]; rfl⟩⟩ (Nat.le_of_ble_eq_true rfl) (Nat.le_of_ble_eq_true rfl) dX11_look_36
