/-! MODEL (X11): vacuum, its end. -/
set_option maxRecDepth 100000 in
set_option maxHeartbeats 4000000 in
theorem lp_mv209 {p : Program} {l : Launch} {e : Env} {s : State} {m : MethodId} {args : Array Value} {below : List Frame} {meth : Method} {c : Code} {Z : zT} {A : Nat → Prop} {h : Nat} {ad : Nat → Nat} {iv : ivT} {av : avT} {ob : List obT} {flo x vc : Int32} {nw o0 c1 : Nat} {Fv : Nat → flT} {pn bn : Nat → Nat} {post : Int32 → va_W → Prop} (C : cx p s m args meth c cX11_vacuum 8 (some .int) RX11 "vacuum") (ho : mo_ok iv av ob) (hin : mo_in ob) (h13 : iv 13 = flo) (hflo : ¬ flo < 0) (hnw : nw < 2 ^ 20) (ho0 : o0 ≤ nw) (hst : ∀ w, o0 ≤ w → w ≤ nw → mVr ob flo (nI w) = some (Fv w)) (hw : ∀ j, j < 4 → ¬ av 33 j = 0 → av 53 j = nI (pn j) ∧ pn j ≤ 200 ∧ av 56 j = nI (bn j) ∧ bn j ≤ 200) (h12 : iv 12 = vc + nI c1) (hp : ∀ (iv5 : ivT) (av5 : avT) (oc : List obT) (cc : Nat), mo_ok iv5 av5 oc → oc.Perm (ob.filter (kp2 (vnL Fv o0 (nw + 1 - o0) ++ wnS av pn bn 4))) → cc + oc.length = ob.length → iv5 12 = vc + nI (c1 + cc) → sI [4, 5, 12, 16, 17, 18, 26, 30] iv iv5 → sA [0, 1, 2, 3, 27, 28, 29, 31, 32, 59] av av5 → post (nI (c1 + cc)) (mdW Z h ad iv5 av5)) : ∀ (H : Heap) (locs : List Loc) (ls : Array Slot), wd Z A s (mdW Z h ad iv av) H locs → lv_has ls 8 [(0, .ref h), (1, .int x), (2, .int (nI nw)), (3, .int (nI o0)), (5, .int vc)] → W p l e ({ frames := 7, cells := 0, slots := 0, locals := 200 }) s m args below meth c H locs 0 0 (MQ below (va_Qi post (mB Z A) A) args s 0 0 A) (F0 m 209 ls []) := by
  have hx := C.1
  have hb := C.2.1
  have hown := C.2.2.2.2.2.1
  have hts := C.2.2.2.2.2.2.1
  intro H locs ls G hl
  refine lv_iconst (v := 0) hx hb dX11_vacuum_209 (by decide) ?_
  refine k_topi (y := nI 0) (by rfl) ?_
  refine lv_istore (lv' := [(6, .int (nI 0)), (0, .ref h), (1, .int x), (2, .int (nI nw)), (3, .int (nI o0)), (5, .int vc)]) hx hb dX11_vacuum_210 hl (by decide) rfl (fun ls hl => ?_)
  refine lp_mva2 (iv := iv) (av := av) C (fun T hT H locs ls G hl => ?_) 100 0 (av 59) (by omega) (fun j hj => absurd hj (by omega)) _ _ _ (by rw [ua_self]; exact G) (lv_sub hl [0, 1, 2, 3, 4, 5] rfl)
  refine lv_iload_n hx hb dX11_vacuum_233 rfl (lv_at hl 3 rfl) ?_
  refine lv_istore (lv' := [(6, .int (nI o0)), (0, .ref h), (1, .int x), (2, .int (nI nw)), (3, .int (nI o0)), (5, .int vc)]) hx hb dX11_vacuum_234 hl (by decide) rfl (fun ls hl => ?_)
  have hok2 : mo_ok iv (ua av 59 T) ob := ho.same (L := []) (M := [59]) sI.rf (sA.rf.up (by decide) _) (by decide) (by decide) (by decide) (by decide) (by decide) (by decide)
  have hnd0 : nd_at (ua av 59 T) ob [] := fun k o hk _ => by
    have hk1 := (List.getElem?_eq_some_iff.mp hk).1
    have hk2 := ho.2.1
    show T k = _
    rw [hT k (by omega)]
    rfl
  refine lp_mvd (iv0 := iv) (av0 := ua av 59 T) (ob := ob) (Fv := Fv) C hok2 hin h13 hflo hnw ho0 hst (fun iv3 av3 a1 a2 a3 H locs ls G hl => ?_) (nw + 1 - o0) 0 o0 iv _ (by omega) rfl sI.rf sA.rf hnd0 _ _ _ G (lv_sub hl [0, 1, 2, 3, 4, 5] rfl)
  have hA3 : sA [27, 28, 29, 31, 32, 59] av av3 := ((sA.rf (L := [27, 28, 29, 31, 32, 59])).up (k := 59) (by decide) T).tr a2 (by decide)
  refine lv_iconst (v := 0) hx hb dX11_vacuum_285 (by decide) ?_
  refine k_topi (y := nI 0) (by rfl) ?_
  refine lv_istore (lv' := [(6, .int (nI 0)), (0, .ref h), (1, .int x), (2, .int (nI nw)), (3, .int (nI o0)), (5, .int vc)]) hx hb dX11_vacuum_286 hl (by decide) rfl (fun ls hl => ?_)
  have hok3 : mo_ok iv3 av3 ob := ho.same a1 hA3 (by decide) (by decide) (by decide) (by decide) (by decide) (by decide)
  refine lp_mve (iv := iv3) (av0 := av3) (ob := ob) (pn := pn) (bn := bn) C hok3 hin.1 (fun j hj hne => by rw [hA3 53 (by decide), hA3 56 (by decide)]; rw [hA3 33 (by decide)] at hne; exact hw j hj hne) (fun av4 b1 b2 H locs ls G hl => ?_) 4 0 av3 (by omega) sA.rf (by rw [show wnS av3 pn bn 0 = [] from rfl, List.append_nil]; exact a3) _ _ _ G (lv_sub hl [0, 1, 2, 3, 4, 5] rfl)
  rw [wnS_cong (hA3 33 (by decide)) (hA3 52 (by decide)) (hA3 57 (by decide))] at b2
  have hA4 : sA [27, 28, 29, 31, 32, 59] av av4 := hA3.tr b1 (by decide)
  have hok4 : mo_ok iv3 av4 ob := ho.same a1 hA4 (by decide) (by decide) (by decide) (by decide) (by decide) (by decide)
  refine lv_aload_n hx hb dX11_vacuum_391 rfl (lv_at hl 0 rfl) ?_
  refine k_mgi (v := nI ob.length) C G 4 (by decide) mr_4 hok4.1 fl_X11_150 rfl dX11_vacuum_392 ?_
  refine lv_iconst (v := 1) hx hb dX11_vacuum_395 (by decide) ?_
  refine lv_isub hx hb dX11_vacuum_396 ?_
  refine k_topi (y := dn ob.length) (by exact dn_sub _) ?_
  refine lv_istore (lv' := [(6, .int (dn ob.length)), (0, .ref h), (1, .int x), (2, .int (nI nw)), (3, .int (nI o0)), (5, .int vc)]) hx hb dX11_vacuum_397 hl (by decide) rfl (fun ls hl => ?_)
  refine lp_mvr2 (iv0 := iv3) (av0 := av4) (ob := ob) (vc := vc + nI c1) (NL := (vnL Fv o0 (nw + 1 - o0) ++ wnS av pn bn 4)) C b2 ho.2.1 (fun oc cc iv5 av5 d1 d2 d3 d4 d5 d6 H locs ls G hl => ?_) ob.length ob 0 iv3 av4 (Nat.le_refl _) (rmI_0 _ _) hok4 sI.rf sA.rf (by rw [a1 12 (by decide), h12]; exact (Int32.add_zero _).symm) (by omega) _ _ _ G (lv_sub hl [0, 1, 2, 3, 4, 5] rfl)
  refine lv_aload_n hx hb dX11_vacuum_436 rfl (lv_at hl 0 rfl) ?_
  refine k_mgi (v := vc + nI c1 + nI cc) C G 12 (by decide) mr_12 d5 fl_X11_172 rfl dX11_vacuum_437 ?_
  refine lv_iload hx hb dX11_vacuum_440 (lv_at hl 4 rfl) ?_
  refine lv_isub hx hb dX11_vacuum_442 ?_
  refine k_topi (y := nI (c1 + cc)) (by rw [Int32.add_assoc, nI_add]; exact sub_back _ _) ?_
  exact kr_i C G (hp iv5 av5 oc cc d2 (rmI_e d1) d6 (by rw [d5, Int32.add_assoc, nI_add]) ((a1.mo (by decide)).tr d3 (by decide)) ((hA4.mo (by decide)).tr d4 (by decide))) (Nat.le_of_ble_eq_true rfl) (Nat.le_of_ble_eq_true rfl) dX11_vacuum_443
theorem kp1_cong {av av2 : avT} {v : Int32} (h33 : av2 33 = av 33) (h34 : av2 34 = av 34) (h36 : av2 36 = av 36) : kp1 av2 v = kp1 av v := by
  funext o
  unfold kp1 wtd
  rw [h33, h34, h36]
set_option maxRecDepth 100000 in
set_option maxHeartbeats 4000000 in
theorem lp_mv102 {p : Program} {l : Launch} {e : Env} {s : State} {m : MethodId} {args : Array Value} {below : List Frame} {meth : Method} {c : Code} {Z : zT} {A : Nat → Prop} {h : Nat} {ad : Nat → Nat} {iv : ivT} {av : avT} {ob : List obT} {flo x vc : Int32} {nw o0 kc : Nat} {ok0 : obT} {Fv : Nat → flT} {pn bn : Nat → Nat} {post : Int32 → va_W → Prop} (C : cx p s m args meth c cX11_vacuum 8 (some .int) RX11 "vacuum") (ho : mo_ok iv av ob) (hin : mo_in ob) (h13 : iv 13 = flo) (hflo : ¬ flo < 0) (hnw : nw < 2 ^ 20) (ho0 : o0 ≤ nw) (hkc : mFi ob 2 (nI o0) = some kc) (hk0 : ob[kc]? = some ok0) (hst1 : ckS (fnB ok0.2.2) ok0.2.2.length ok0.2.1 → ∀ ob2, ob2.Perm (ob.filter (kp1 av (nI o0))) → ∀ w, o0 ≤ w → w ≤ nw → mVr ob2 (nI o0) (nI w) = some (Fv w)) (hst0 : ¬ ckS (fnB ok0.2.2) ok0.2.2.length ok0.2.1 → ∀ w, o0 ≤ w → w ≤ nw → mVr ob flo (nI w) = some (Fv w)) (hw : ∀ j, j < 4 → ¬ av 33 j = 0 → av 53 j = nI (pn j) ∧ pn j ≤ 200 ∧ av 56 j = nI (bn j) ∧ bn j ≤ 200) (h12 : iv 12 = vc) (hp : ∀ (iv6 : ivT) (av6 : avT) (ob2 ob3 : List obT) (flo2 : Int32) (cc : Nat), ((ckS (fnB ok0.2.2) ok0.2.2.length ok0.2.1 ∧ flo2 = nI o0 ∧ ob2.Perm (ob.filter (kp1 av (nI o0)))) ∨ (¬ ckS (fnB ok0.2.2) ok0.2.2.length ok0.2.1 ∧ flo2 = flo ∧ ob2 = ob)) → mo_ok iv6 av6 ob3 → ob3.Perm (ob2.filter (kp2 (vnL Fv o0 (nw + 1 - o0) ++ wnS av pn bn 4))) → cc + ob3.length = ob.length → iv6 12 = vc + nI cc → iv6 13 = flo2 → sI [4, 5, 12, 13, 16, 17, 18, 26, 30] iv iv6 → sA [0, 1, 2, 3, 27, 28, 29, 31, 32, 59] av av6 → post (nI cc) (mdW Z h ad iv6 av6)) : ∀ (H : Heap) (locs : List Loc) (ls : Array Slot), wd Z A s (mdW Z h ad iv av) H locs → lv_has ls 8 [(0, .ref h), (1, .int x), (2, .int (nI nw)), (3, .int (nI o0))] → W p l e ({ frames := 7, cells := 0, slots := 0, locals := 200 }) s m args below meth c H locs 0 0 (MQ below (va_Qi post (mB Z A) A) args s 0 0 A) (F0 m 102 ls []) := by
  have hx := C.1
  have hb := C.2.1
  have hown := C.2.2.2.2.2.1
  have hts := C.2.2.2.2.2.2.1
  intro H locs ls G hl
  refine lv_aload_n hx hb dX11_vacuum_102 rfl (lv_at hl 0 rfl) ?_
  refine k_mgi (v := vc) C G 12 (by decide) mr_12 h12 fl_X11_172 rfl dX11_vacuum_103 ?_
  refine lv_istore (lv' := [(5, .int vc), (0, .ref h), (1, .int x), (2, .int (nI nw)), (3, .int (nI o0))]) hx hb dX11_vacuum_106 hl (by decide) rfl (fun ls hl => ?_)
  refine lv_aload_n hx hb dX11_vacuum_108 rfl (lv_at hl 1 rfl) ?_
  refine lv_aload_n hx hb dX11_vacuum_109 rfl (lv_at hl 1 rfl) ?_
  refine lv_iconst (v := 2) hx hb dX11_vacuum_110 (by decide) ?_
  refine lv_iload_n hx hb dX11_vacuum_111 rfl (lv_at hl 4 rfl) ?_
  refine kcM_i G (krV 2 rfl (As := [.int 2, .int (nI o0)]) (rest := [.ref h]) (ci := 12) (CC := RX11) (T := TX11) (N := 61) C G pmN (c_X11_place Z l h ad iv av ob 2 (nI o0) ho _) (gdV ml_X11_165 im_X11_place se_X11_place ii_X11 co_X11_place) (by decide +kernel) ⟨Nat.le_of_ble_eq_true rfl, Nat.le_of_ble_eq_true rfl⟩ rfl 0 rfl hl rfl (Nat.le_of_ble_eq_true rfl) ⟨Nat.le_of_ble_eq_true rfl, Nat.le_of_ble_eq_true rfl⟩ dX11_vacuum_112) (fun r_112 u H locs hu G => ?_)
  obtain ⟨r_112_e, rfl⟩ := hu
  rw [hkc] at r_112_e
  replace r_112_e : r_112 = nI kc := r_112_e
  subst r_112_e
  refine kcM_i G (krV 1 rfl (As := [.int (nI kc)]) (rest := []) (ci := 12) (CC := RX11) (T := TX11) (N := 61) C G pmN (c_X11_readCheckpoint Z l h ad iv av ob kc ok0 ho hk0 _) (gdV ml_X11_254 im_X11_readCheckpoint se_X11_readCheckpoint ii_X11 co_X11_readCheckpoint) (by decide +kernel) ⟨Nat.le_of_ble_eq_true rfl, Nat.le_of_ble_eq_true rfl⟩ rfl 0 rfl hl rfl (Nat.le_of_ble_eq_true rfl) ⟨Nat.le_of_ble_eq_true rfl, Nat.le_of_ble_eq_true rfl⟩ dX11_vacuum_115) (fun r_115 u H locs hu G => ?_)
  obtain ⟨iv1_, av1_, rfl, hs1, ha1, hcs1⟩ := hu
  have hok1 : mo_ok iv1_ av1_ ob := ho.same hs1 ha1 (by decide) (by decide) (by decide) (by decide) (by decide) (by decide)
  have h12_1 : iv1_ 12 = vc := (hs1 12 (by decide)).trans h12
  have hw1 : ∀ j, j < 4 → ¬ av1_ 33 j = 0 → av1_ 53 j = nI (pn j) ∧ pn j ≤ 200 ∧ av1_ 56 j = nI (bn j) ∧ bn j ≤ 200 := fun j hj hne => by rw [ha1 53 (by decide), ha1 56 (by decide)]; rw [ha1 33 (by decide)] at hne; exact hw j hj hne
  rcases hcs1 with ⟨r_115_e, hck, _⟩ | ⟨r_115_e, hck⟩
  · subst r_115_e
    refine lv_if_eq (tgt := 209) hx hb dX11_vacuum_118 (by decide) (fun c_118 => ?_) (fun c_118 => ?_)
    · exact absurd c_118 (by decide)
    · have n_118 := nb_ne (a := 1) (b := 0) c_118 (by omega) (by omega)
      refine lv_aload_n hx hb dX11_vacuum_121 rfl (lv_at hl 1 rfl) ?_
      refine lv_iload_n hx hb dX11_vacuum_122 rfl (lv_at hl 4 rfl) ?_
      refine k_mpi (v := nI o0) (ty := .int) C G 13 (by decide) mr_13 fl_X11_248 rfl rfl rfl rfl rfl dX11_vacuum_123 (fun H locs (G : wd Z A s (mdW Z h ad (upd iv1_ 13 (nI o0)) av1_) H locs) => ?_)
      refine lv_aload_n hx hb dX11_vacuum_126 rfl (lv_at hl 1 rfl) ?_
      refine k_mgi (v := nI ob.length) C G 4 (by decide) mr_4 hok1.1 fl_X11_150 rfl dX11_vacuum_127 ?_
      refine lv_iconst (v := 1) hx hb dX11_vacuum_130 (by decide) ?_
      refine lv_isub hx hb dX11_vacuum_131 ?_
      refine k_topi (y := dn ob.length) (by exact dn_sub _) ?_
      refine lv_istore (lv' := [(6, .int (dn ob.length)), (5, .int vc), (0, .ref h), (1, .int x), (2, .int (nI nw)), (3, .int (nI o0))]) hx hb dX11_vacuum_132 hl (by decide) rfl (fun ls hl => ?_)
      refine lp_mvr1 (iv0 := upd iv1_ 13 (nI o0)) (av0 := av1_) (ob := ob) (vc := vc) (v := nI o0) C ho.2.1 (fun oc cc iv5 av5 d1 d2 d3 d4 d5 d6 H locs ls G hl => ?_) ob.length ob 0 (upd iv1_ 13 (nI o0)) av1_ (Nat.le_refl _) (rmI_0 _ _) ⟨hok1.1, hok1.2.1, hok1.2.2.1, hok1.2.2.2⟩ sI.rf sA.rf (by show iv1_ 12 = _; rw [h12_1]; exact (Int32.add_zero _).symm) (by omega) _ _ _ G (lv_sub hl [0, 2, 3, 4, 5, 1] rfl)
      have hpm := rmI_e d1
      rw [show kp1 av1_ (nI o0) = kp1 av (nI o0) from kp1_cong (ha1 33 (by decide)) (ha1 34 (by decide)) (ha1 36 (by decide))] at hpm
      have h13_5 : iv5 13 = nI o0 := (d3 13 (by decide)).trans pk_us
      have hA5 : sA [0, 1, 2, 3, 31, 32] av av5 := (ha1.mo (by decide)).tr d4 (by decide)
      have hS5 : sI [4, 5, 12, 13, 16, 17, 18, 30] iv iv5 := ((hs1.mo (by decide)).up (k := 13) (by decide) (nI o0)).tr d3 (by decide)
      have hw5 : ∀ j, j < 4 → ¬ av5 33 j = 0 → av5 53 j = nI (pn j) ∧ pn j ≤ 200 ∧ av5 56 j = nI (bn j) ∧ bn j ≤ 200 := fun j hj hne => by rw [d4 53 (by decide), d4 56 (by decide)]; rw [d4 33 (by decide)] at hne; exact hw1 j hj hne
      exact lp_mv209 (iv := iv5) (av := av5) (ob := oc) (flo := nI o0) (c1 := cc) (Fv := Fv) (pn := pn) (bn := bn) C d2 (mo_in_perm hin hpm) h13_5 (nI_pos (by omega)) hnw ho0 (hst1 hck oc hpm) hw5 d5 (fun iv6 av6 oc6 c6 e1 e2 e3 e4 e5 e6 => hp iv6 av6 oc oc6 (nI o0) (cc + c6) (Or.inl ⟨hck, rfl, hpm⟩) e1 (by rw [wnS_cong (hA5 33 (by decide)) (hA5 52 (by decide)) (hA5 57 (by decide))] at e2; exact e2) (by omega) e4 ((e5 13 (by decide)).trans h13_5) ((hS5.mo (by decide)).tr e5 (by decide)) ((hA5.mo (by decide)).tr e6 (by decide))) _ _ _ G (lv_sub hl [0, 1, 2, 3, 4] rfl)
  · subst r_115_e
    refine lv_if_eq (tgt := 209) hx hb dX11_vacuum_118 (by decide) (fun c_118 => ?_) (fun c_118 => ?_)
    · have n_118 := nb_eq (a := 0) (b := 0) c_118 (by omega) (by omega)
      have h13_1 : iv1_ 13 = flo := (hs1 13 (by decide)).trans h13
      exact lp_mv209 (iv := iv1_) (av := av1_) (ob := ob) (flo := flo) (c1 := 0) (Fv := Fv) (pn := pn) (bn := bn) C hok1 hin h13_1 hflo hnw ho0 (hst0 hck) hw1 (by rw [h12_1]; exact (Int32.add_zero _).symm) (fun iv6 av6 oc6 c6 e1 e2 e3 e4 e5 e6 => hp iv6 av6 ob oc6 flo (0 + c6) (Or.inr ⟨hck, rfl, rfl⟩) e1 (by rw [wnS_cong (ha1 33 (by decide)) (ha1 52 (by decide)) (ha1 57 (by decide))] at e2; exact e2) (by omega) e4 ((e5 13 (by decide)).trans h13_1) ((hs1.mo (by decide)).tr e5 (by decide)) ((ha1.mo (by decide)).tr e6 (by decide))) _ _ _ G (lv_sub hl [1, 2, 3, 4, 0] rfl)
    · exact absurd c_118 (by decide)
