/-! MODEL (X11): at, find. -/
abbrev rdT : Type := Int32 → Int32 → Option rwT
/-- a ROW of a version -/
def atB (D : rdT) (wh : Int32) : flT → Nat → Int32
  | [], _ => -1
  | q :: F, i => (D q.1 q.2).elim (atB D wh F i) (fun w => if i < w.2.1.length then (if wh = 0 then w.1 else (rwC w (wh - 1).toNatClampNeg).getD i 0) else atB D wh F (i - w.2.1.length))
theorem atA_B (dl : List blT) (wh : Int32) : ∀ (F : flT) (i : Nat), atA dl wh F i = atB (dW dl) wh F i
  | [], _ => rfl
  | q :: F, i => by
    rw [atA, atB]
    cases dW dl q.1 q.2 with
    | none => exact atA_B dl wh F i
    | some w => simp only [Option.elim_some]; rw [atA_B dl wh F (i - w.2.1.length)]
def fdB (D : rdT) (c : Nat) (wh nu : Int32) (s : Int32 × (Nat → Int32)) (q : Int32 × Int32) : Int32 × (Nat → Int32) :=
  (D q.1 q.2).elim (s.1, upd s.2 2 (s.2 2 + 1)) (fun w => if mhF wh nu (rwC w c) = 0 then (s.1, upd s.2 1 (s.2 1 + 1)) else (s.1 + nI (hitF wh nu (rwC w c)), upd (upd s.2 0 (s.2 0 + 1)) 3 (upd s.2 0 (s.2 0 + 1) 3 + sumF wh nu (rwC w c))))
theorem fdS_B (dl : List blT) : fdS dl = fdB (dW dl) := rfl
theorem flget {iv : ivT} {av : avT} {F : flT} {k : Nat} (h : flS iv av F) (hk : k < F.length) : F.drop k = (av 31 k, av 32 k) :: F.drop (k + 1) := fl_get h.2.1 hk
set_option maxRecDepth 100000 in
set_option maxHeartbeats 4000000 in
theorem lp_mat {p : Program} {l : Launch} {e : Env} {s : State} {m : MethodId} {args : Array Value} {below : List Frame} {meth : Method} {c : Code} {Z : zT} {A : Nat → Prop} {h : Nat} {ad : Nat → Nat} {iv0 : ivT} {av0 : avT} {ob : List obT} {F : flT} {yn : Nat} {x wh res : Int32} {post : Int32 → va_W → Prop} (C : cx p s m args meth c cX11_at 6 (some .int) RX11 "at") (ho : mo_ok iv0 av0 ob) (hF : flS iv0 av0 F) (hyn : yn < 2 ^ 31) (hwh : ¬ wh = 0 → ∃ wn, wn < 3 ∧ wh - 1 = nI wn) (hp : ∀ (iv : ivT) (av : avT), sI [15, 16, 17, 18, 19, 20] iv0 iv → sA [14, 21, 22, 23, 24, 25] av0 av → (∀ i, fits .byte (.int (av 14 i)) = true) → ∀ r, r = res → post r (mdW Z h ad iv av)) : ∀ (n k fr : Nat) (iv : ivT) (av : avT), k + n = F.length → fr ≤ 48 * k → fr ≤ yn → sI [15, 16, 17, 18, 19, 20] iv0 iv → sA [14, 21, 22, 23, 24, 25] av0 av → (∀ i, fits .byte (.int (av 14 i)) = true) → atB (mW ob) wh (F.drop k) (yn - fr) = res → ∀ (H : Heap) (locs : List Loc) (ls : Array Slot), wd Z A s (mdW Z h ad iv av) H locs → lv_has ls 6 [(5, .int (nI k)), (4, .int (nI fr)), (0, .ref h), (1, .int x), (2, .int (nI yn)), (3, .int wh)] → W p l e ({ frames := 6, cells := 0, slots := 0, locals := 200 }) s m args below meth c H locs 0 0 (MQ below (va_Qi post (mB Z A) A) args s 0 0 A) (F0 m 34 ls []) := by
  have hx := C.1
  have hb := C.2.1
  have hown := C.2.2.2.2.2.1
  have hts := C.2.2.2.2.2.2.1
  have hfl := hF.2.2.1
  intro n
  induction n with
  | zero =>
    intro k fr iv av hk hfr hfy hsI hsA hfv hres H locs ls G hl
    have h30v : iv 30 = nI F.length := (hsI 30 (by decide)).trans hF.1
    have hok : mo_ok iv av ob := ho.same hsI hsA (by decide) (by decide) (by decide) (by decide) (by decide) (by decide)
    have e31 : av 31 = av0 31 := hsA 31 (by decide)
    have e32 : av 32 = av0 32 := hsA 32 (by decide)
    refine lv_iload hx hb dX11_at_34 (lv_at hl 0 rfl) ?_
    refine lv_aload_n hx hb dX11_at_36 rfl (lv_at hl 2 rfl) ?_
    refine k_mgi (v := nI F.length) C G 30 (by decide) mr_30 h30v fl_X11_245 rfl dX11_at_37 ?_
    refine lv_icmp_ge (tgt := 108) hx hb dX11_at_40 (by decide) (fun c_40 => ?_) (fun c_40 => ?_)
    · have n_40 := nb_le (a := F.length) (b := k) c_40 (by omega) (by omega)
      refine lv_iconst (v := (-1)) hx hb dX11_at_108 (by decide) ?_
      exact kr_i C G (hp iv av hsI hsA hfv _ (by rw [← hres, List.drop_eq_nil_of_le (by omega)]; rfl)) (Nat.le_of_ble_eq_true rfl) (Nat.le_of_ble_eq_true rfl) dX11_at_109
    · exact absurd (nb_nle (a := F.length) (b := k) c_40 (by omega) (by omega)) (by omega)
  | succ n ih =>
    intro k fr iv av hk hfr hfy hsI hsA hfv hres H locs ls G hl
    have h30v : iv 30 = nI F.length := (hsI 30 (by decide)).trans hF.1
    have hok : mo_ok iv av ob := ho.same hsI hsA (by decide) (by decide) (by decide) (by decide) (by decide) (by decide)
    have e31 : av 31 = av0 31 := hsA 31 (by decide)
    have e32 : av 32 = av0 32 := hsA 32 (by decide)
    have hfk := flget hF (show k < F.length by omega)
    refine lv_iload hx hb dX11_at_34 (lv_at hl 0 rfl) ?_
    refine lv_aload_n hx hb dX11_at_36 rfl (lv_at hl 2 rfl) ?_
    refine k_mgi (v := nI F.length) C G 30 (by decide) mr_30 h30v fl_X11_245 rfl dX11_at_37 ?_
    refine lv_icmp_ge (tgt := 108) hx hb dX11_at_40 (by decide) (fun c_40 => ?_) (fun c_40 => ?_)
    · exact absurd (nb_le (a := F.length) (b := k) c_40 (by omega) (by omega)) (by omega)
    · have n_40 := nb_nle (a := F.length) (b := k) c_40 (by omega) (by omega)
      refine lv_aload_n hx hb dX11_at_43 rfl (lv_at hl 2 rfl) ?_
      refine lv_iload hx hb dX11_at_44 (lv_at hl 0 rfl) ?_
      refine kcM_i G (krV 1 rfl (As := [.int (nI k)]) (rest := []) (ci := 12) (CC := RX11) (T := TX11) (N := 61) C G pmN (c_X11_readFile Z l h ad iv av ob k (av0 31 k) (av0 32 k) hok (by omega) (congrFun e31 k) (congrFun e32 k) hfv _) (gdV ml_X11_286 im_X11_readFile se_X11_readFile ii_X11 co_X11_readFile) (by decide +kernel) ⟨Nat.le_of_ble_eq_true rfl, Nat.le_of_ble_eq_true rfl⟩ rfl 0 rfl hl rfl (Nat.le_of_ble_eq_true rfl) ⟨Nat.le_of_ble_eq_true rfl, Nat.le_of_ble_eq_true rfl⟩ dX11_at_46) (fun r_46 u H locs hu G => ?_)
      obtain ⟨iv1_, av1_, rfl, hs1, ha1, hf1, hcs1⟩ := hu
      rcases hcs1 with ⟨r_46_e, p0, N, hp8, hN1, hN48, h19, h20, hmw, hbd⟩ | ⟨r_46_e, hmw⟩
      · subst r_46_e
        refine lv_if_ne (tgt := 55) hx hb dX11_at_49 (by decide) (fun c_49 => ?_) (fun c_49 => ?_)
        · have n_49 := nb_ne (a := 1) (b := 0) c_49 (by omega) (by omega)
          refine lv_iload_n hx hb dX11_at_55 rfl (lv_at hl 4 rfl) ?_
          refine lv_iload hx hb dX11_at_56 (lv_at hl 1 rfl) ?_
          refine lv_aload_n hx hb dX11_at_58 rfl (lv_at hl 2 rfl) ?_
          refine k_mgi (v := nI N) C G 20 (by decide) mr_20 h20 fl_X11_196 rfl dX11_at_59 ?_
          refine lv_iadd hx hb dX11_at_62 ?_
          refine k_topi (y := nI (fr + N)) (nI_add fr N) ?_
          refine lv_icmp_ge (tgt := 93) hx hb dX11_at_63 (by decide) (fun c_63 => ?_) (fun c_63 => ?_)
          · have n_63 := nb_le (a := fr + N) (b := yn) c_63 (by omega) (by omega)
            refine lv_iload hx hb dX11_at_93 (lv_at hl 1 rfl) ?_
            refine lv_aload_n hx hb dX11_at_95 rfl (lv_at hl 2 rfl) ?_
            refine k_mgi (v := nI N) C G 20 (by decide) mr_20 h20 fl_X11_196 rfl dX11_at_96 ?_
            refine lv_iadd hx hb dX11_at_99 ?_
            refine k_topi (y := nI (fr + N)) (nI_add fr N) ?_
            refine lv_istore (lv' := [(4, .int (nI (fr + N))), (5, .int (nI k)), (0, .ref h), (1, .int x), (2, .int (nI yn)), (3, .int wh)]) hx hb dX11_at_100 hl (by decide) rfl (fun ls hl => ?_)
            refine lv_iinc (v := nI (k + 1)) (lv' := [(5, .int (nI (k + 1))), (4, .int (nI (fr + N))), (0, .ref h), (1, .int x), (2, .int (nI yn)), (3, .int wh)]) hx hb dX11_at_102 hl (k := 1) rfl (nI_1 _) (by decide) rfl (fun ls hl => ?_)
            refine lv_goto (tgt := 34) hx hb dX11_at_105 (by decide) ?_
            exact ih (k + 1) (fr + N) iv1_ av1_ (by omega) (by omega) (by omega) (hsI.tr hs1 (by decide)) (hsA.tr ha1 (by decide)) hf1 (by rw [← hres, hfk, atB, hmw, Option.elim_some, show (rwOf (nI p0) N (mV av1_)).2.1.length = N from col_len _ _ _, if_neg (by omega), show yn - fr - N = yn - (fr + N) by omega]) _ _ _ G (lv_sub hl [0, 1, 2, 3, 4, 5] rfl)
          · have n_63 := nb_nle (a := fr + N) (b := yn) c_63 (by omega) (by omega)
            refine lv_iload_n hx hb dX11_at_66 rfl (lv_at hl 5 rfl) ?_
            refine lv_if_ne (tgt := 77) hx hb dX11_at_67 (by decide) (fun c_67 => ?_) (fun c_67 => ?_)
            · obtain ⟨wn0, hwn, ewn⟩ := hwh c_67
              have ewh : wh = nI (wn0 + 1) := by rw [← nI_1, ← ewn, Int32.sub_add_cancel]
              refine lv_aload_n hx hb dX11_at_77 rfl (lv_at hl 2 rfl) ?_
              refine k_mga C G 21 (by decide) mr_21 fl_X11_34 rfl dX11_at_78 ?_
              refine lv_iconst (v := 3) hx hb dX11_at_81 (by decide) ?_
              refine lv_iload_n hx hb dX11_at_82 rfl (lv_at hl 4 rfl) ?_
              refine lv_iload hx hb dX11_at_83 (lv_at hl 1 rfl) ?_
              refine lv_isub hx hb dX11_at_85 ?_
              refine k_topi (y := nI (yn - fr)) (pk_sub (a := yn) (b := fr) (by omega)) ?_
              refine lv_imul hx hb dX11_at_86 ?_
              refine k_topi (y := nI (3 * (yn - fr))) (pk_mul 3 (yn - fr)) ?_
              refine lv_iload_n hx hb dX11_at_87 rfl (lv_at hl 5 rfl) ?_
              refine k_topi (y := nI (wn0 + 1)) ewh ?_
              refine lv_iadd hx hb dX11_at_88 ?_
              refine k_topi (y := nI (3 * (yn - fr) + (wn0 + 1))) ((nI_add (3 * (yn - fr)) (wn0 + 1)).trans (by rfl)) ?_
              refine lv_iconst (v := 1) hx hb dX11_at_89 (by decide) ?_
              refine lv_isub hx hb dX11_at_90 ?_
              refine k_topi (y := nI ((3 * (yn - fr) + (wn0 + 1)) - 1)) (pk_sub (a := 3 * (yn - fr) + (wn0 + 1)) (b := 1) (by omega)) ?_
              refine k_topi (y := nI (3 * (yn - fr) + wn0)) (by congr 1) ?_
              refine k_mil (v := (av1_ 21) (3 * (yn - fr) + wn0)) (i := 3 * (yn - fr) + wn0) C G 5 (k := 21) (n := 144) mp_21 (by decide) (by omega) rfl dX11_at_91 ?_
              exact kr_i C G (hp iv1_ av1_ (hsI.tr hs1 (by decide)) (hsA.tr ha1 (by decide)) hf1 _ (by rw [← hres, hfk, atB, hmw, Option.elim_some, show (rwOf (nI p0) N (mV av1_)).2.1.length = N from col_len _ _ _, if_pos (by omega), if_neg c_67, ewn, nI_clamp (by omega), rwC_of _ _ _ hwn, col_getD (by omega), mV_at av1_ (by omega)])) (Nat.le_of_ble_eq_true rfl) (Nat.le_of_ble_eq_true rfl) dX11_at_92
            · refine lv_aload_n hx hb dX11_at_70 rfl (lv_at hl 2 rfl) ?_
              refine k_mgi (v := nI p0) C G 19 (by decide) mr_19 h19 fl_X11_193 rfl dX11_at_71 ?_
              refine lv_goto (tgt := 92) hx hb dX11_at_74 (by decide) ?_
              exact kr_i C G (hp iv1_ av1_ (hsI.tr hs1 (by decide)) (hsA.tr ha1 (by decide)) hf1 _ (by rw [← hres, hfk, atB, hmw, Option.elim_some, show (rwOf (nI p0) N (mV av1_)).2.1.length = N from col_len _ _ _, if_pos (by omega), if_pos c_67]; rfl)) (Nat.le_of_ble_eq_true rfl) (Nat.le_of_ble_eq_true rfl) dX11_at_92
        · exact absurd c_49 (by decide)
      · subst r_46_e
        refine lv_if_ne (tgt := 55) hx hb dX11_at_49 (by decide) (fun c_49 => ?_) (fun c_49 => ?_)
        · exact absurd c_49 (by decide)
        · have n_49 := nb_eq (a := 0) (b := 0) c_49 (by omega) (by omega)
          refine lv_goto (tgt := 102) hx hb dX11_at_52 (by decide) ?_
          refine lv_iinc (v := nI (k + 1)) (lv' := [(5, .int (nI (k + 1))), (4, .int (nI fr)), (0, .ref h), (1, .int x), (2, .int (nI yn)), (3, .int wh)]) hx hb dX11_at_102 hl (k := 0) rfl (nI_1 _) (by decide) rfl (fun ls hl => ?_)
          refine lv_goto (tgt := 34) hx hb dX11_at_105 (by decide) ?_
          exact ih (k + 1) fr iv1_ av1_ (by omega) (by omega) (by omega) (hsI.tr hs1 (by decide)) (hsA.tr ha1 (by decide)) hf1 (by rw [← hres, hfk, atB, hmw]; rfl) _ _ _ G (lv_sub hl [0, 1, 2, 3, 4, 5] rfl)
