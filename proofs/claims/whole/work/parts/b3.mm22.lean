/-! MODEL (X11): write, commit. -/
set_option maxRecDepth 100000 in
set_option maxHeartbeats 4000000 in
theorem lp_mwr {p : Program} {l : Launch} {e : Env} {s : State} {m : MethodId} {args : Array Value} {below : List Frame} {meth : Method} {c : Code} {Z : zT} {A : Nat → Prop} {Q : State → Prop} {h : Nat} {ad : Nat → Nat} {iv : ivT} {av : avT} {wn np N fi : Nat} {P : Int32} (C : cx p s m args meth c cX11_write 4 (some .int) RX11 "write") (hwn : wn < 4) (hnp : np < 200) (hN : N ≤ 48) (hfi : fi + N ≤ 4800) (h50 : av 50 (200 * wn + np) = nI fi) (kk : ∀ (T : Nat → Int32), (∀ j, j < 3 * N → T j = av 45 (14400 * wn + 3 * fi + j)) → ∀ (H : Heap) (locs : List Loc) (ls : Array Slot), wd Z A s (mdW Z h ad (upd (upd iv 19 P) 20 (nI N)) (ua av 21 T)) H locs → lv_has ls 4 [(2, .int (nI (200 * wn + np))), (0, .ref h), (1, .int (nI wn))] → W p l e ({ frames := 4, cells := 0, slots := 0, locals := 130 }) s m args below meth c H locs 0 0 Q (F0 m 78 ls [])) : ∀ (n i : Nat) (T : Nat → Int32), i + n = 3 * N → (∀ j, j < i → T j = av 45 (14400 * wn + 3 * fi + j)) → ∀ (H : Heap) (locs : List Loc) (ls : Array Slot), wd Z A s (mdW Z h ad (upd (upd iv 19 P) 20 (nI N)) (ua av 21 T)) H locs → lv_has ls 4 [(3, .int (nI i)), (2, .int (nI (200 * wn + np))), (0, .ref h), (1, .int (nI wn))] → W p l e ({ frames := 4, cells := 0, slots := 0, locals := 130 }) s m args below meth c H locs 0 0 Q (F0 m 35 ls []) := by
  have hx := C.1
  have hb := C.2.1
  have hown := C.2.2.2.2.2.1
  have hts := C.2.2.2.2.2.2.1
  intro n
  induction n with
  | zero =>
    intro i T hi hT H locs ls G hl
    refine lv_iload_n hx hb dX11_write_35 rfl (lv_at hl 0 rfl) ?_
    refine lv_iconst (v := 3) hx hb dX11_write_36 (by decide) ?_
    refine lv_aload_n hx hb dX11_write_37 rfl (lv_at hl 2 rfl) ?_
    refine k_mgi (v := nI N) C G 20 (by decide) mr_20 rfl fl_X11_196 rfl dX11_write_38 ?_
    refine lv_imul hx hb dX11_write_41 ?_
    refine k_topi (y := nI (3 * N)) (pk_mul 3 N) ?_
    refine lv_icmp_ge (tgt := 78) hx hb dX11_write_42 (by decide) (fun c_42 => ?_) (fun c_42 => ?_)
    · have n_42 := nb_le (a := 3 * N) (b := i) c_42 (by omega) (by omega)
      have hi3 : i = 3 * N := by omega
      subst hi3
      exact kk T hT _ _ _ G (lv_sub hl [1, 2, 3] rfl)
    · exact absurd (nb_nle (a := 3 * N) (b := i) c_42 (by omega) (by omega)) (by omega)
  | succ n ih =>
    intro i T hi hT H locs ls G hl
    refine lv_iload_n hx hb dX11_write_35 rfl (lv_at hl 0 rfl) ?_
    refine lv_iconst (v := 3) hx hb dX11_write_36 (by decide) ?_
    refine lv_aload_n hx hb dX11_write_37 rfl (lv_at hl 2 rfl) ?_
    refine k_mgi (v := nI N) C G 20 (by decide) mr_20 rfl fl_X11_196 rfl dX11_write_38 ?_
    refine lv_imul hx hb dX11_write_41 ?_
    refine k_topi (y := nI (3 * N)) (pk_mul 3 N) ?_
    refine lv_icmp_ge (tgt := 78) hx hb dX11_write_42 (by decide) (fun c_42 => ?_) (fun c_42 => ?_)
    · exact absurd (nb_le (a := 3 * N) (b := i) c_42 (by omega) (by omega)) (by omega)
    · have n_42 := nb_nle (a := 3 * N) (b := i) c_42 (by omega) (by omega)
      refine lv_aload_n hx hb dX11_write_45 rfl (lv_at hl 2 rfl) ?_
      refine k_mga C G 21 (by decide) mr_21 fl_X11_34 rfl dX11_write_46 ?_
      refine lv_iload_n hx hb dX11_write_49 rfl (lv_at hl 0 rfl) ?_
      refine lv_aload_n hx hb dX11_write_50 rfl (lv_at hl 2 rfl) ?_
      refine k_mga C G 45 (by decide) mr_45 fl_X11_102 rfl dX11_write_51 ?_
      refine lv_sipush (v := 14400) hx hb dX11_write_54 (by decide) ?_
      refine lv_iload_n hx hb dX11_write_57 rfl (lv_at hl 3 rfl) ?_
      refine lv_imul hx hb dX11_write_58 ?_
      refine k_topi (y := nI (14400 * wn)) (pk_mul 14400 wn) ?_
      refine lv_iconst (v := 3) hx hb dX11_write_59 (by decide) ?_
      refine lv_aload_n hx hb dX11_write_60 rfl (lv_at hl 2 rfl) ?_
      refine k_mga C G 50 (by decide) mr_50 fl_X11_117 rfl dX11_write_61 ?_
      refine lv_iload_n hx hb dX11_write_64 rfl (lv_at hl 1 rfl) ?_
      refine k_mil (v := nI fi) (i := 200 * wn + np) C G 32 (k := 50) (n := 800) mp_50 (by decide) (by omega) h50 dX11_write_65 ?_
      refine lv_imul hx hb dX11_write_66 ?_
      refine k_topi (y := nI (3 * fi)) (pk_mul 3 fi) ?_
      refine lv_iadd hx hb dX11_write_67 ?_
      refine k_topi (y := nI (14400 * wn + 3 * fi)) (nI_add (14400 * wn) (3 * fi)) ?_
      refine lv_iload_n hx hb dX11_write_68 rfl (lv_at hl 0 rfl) ?_
      refine lv_iadd hx hb dX11_write_69 ?_
      refine k_topi (y := nI (14400 * wn + 3 * fi + i)) (nI_add (14400 * wn + 3 * fi) i) ?_
      refine k_mil (v := (av 45) (14400 * wn + 3 * fi + i)) (i := 14400 * wn + 3 * fi + i) C G 27 (k := 45) (n := 57600) mp_45 (by decide) (by omega) rfl dX11_write_70 ?_
      refine k_mis (x := (av 45) (14400 * wn + 3 * fi + i)) (i := i) C G 5 (k := 21) (n := 144) mp_21 (by decide) (by omega) dX11_write_71 (fun H locs (G : wd Z A s (mdW Z h ad (upd (upd iv 19 P) 20 (nI N)) (ua (ua av 21 T) 21 (upd T i ((av 45) (14400 * wn + 3 * fi + i))))) H locs) => ?_)
      refine lv_iinc (v := nI (i + 1)) (lv' := [(3, .int (nI (i + 1))), (2, .int (nI (200 * wn + np))), (0, .ref h), (1, .int (nI wn))]) hx hb dX11_write_72 hl (k := 0) rfl (nI_1 _) (by decide) rfl (fun ls hl => ?_)
      refine lv_goto (tgt := 35) hx hb dX11_write_75 (by decide) ?_
      rw [ua_ua] at G
      exact ih (i + 1) _ (by omega) (fun j hj => by
        by_cases e : j = i
        · subst e; exact pk_us
        · rw [pk_un e]; exact hT j (by omega)) _ _ _ G (lv_sub hl [0, 1, 2, 3] rfl)
/-- the VALUES of ROWS that a writer holds, column by column -/
def wV (av : avT) (wn fi : Nat) : Nat → Int32 := fun j => av 45 (14400 * wn + 3 * (fi + j % 48) + j / 48)
noncomputable def wB (av : avT) (wn fi N : Nat) (P : Int32) : List Int8 := encB P N (wV av wn fi) (leF (wV av wn fi) N) (grF (wV av wn fi) N)
theorem wB_le (av : avT) (wn fi N : Nat) (P : Int32) (hN : N ≤ 48) : (wB av wn fi N P).length ≤ 628 := encB_le _ _ _ _ _ hN
theorem wB_ge (av : avT) (wn fi N : Nat) (P : Int32) : 10 ≤ (wB av wn fi N P).length := by
  unfold wB
  rw [encB_len, enc_len]; omega
set_option maxRecDepth 100000 in
set_option maxHeartbeats 4000000 in
theorem c_X11_write (Z : zT) (l : Launch) (h : Nat) (ad : Nat → Nat) (iv : ivT) (av : avT) (wn : Nat) (ob : List obT) (np N fi : Nat) (P nd ro fa : Int32) (hwn : wn < 4) (ho : mo_ok iv av ob) (hf14 : ∀ i, fits .byte (.int (av 14 i)) = true) (h6 : iv 6 = ro) (h8 : iv 8 = nd) (h11 : iv 11 = fa) (hnp : np < 200) (hN : N ≤ 48) (hfi : fi + N ≤ 4800) (h53 : av 53 wn = nI np) (h49 : av 49 (200 * wn + np) = P) (h51 : av 51 (200 * wn + np) = nI N) (h50 : av 50 (200 * wn + np) = nI fi) : Ki Z l yX11_write cX11_write 4 (some .int) ({ frames := 4, cells := 0, slots := 0, locals := 130 }) [.ref h, .int (nI wn)] (mdW Z h ad iv av) (fun r u => ∃ (iv2 : ivT) (av2 : avT), u = mdW Z h ad iv2 av2 ∧ (∀ i, fits .byte (.int (av2 14 i)) = true) ∧ sI [4, 5, 8, 11, 15, 19, 20] iv iv2 ∧ sA [0, 1, 2, 3, 14, 21, 22, 23, 24, 25, 33, 52, 53] av av2 ∧ (((mFi ob 0 nd = none ∧ ob.length < 100 ∧ nI (oSz ob + (wB av wn fi N P).length) ≤ ro) ∧ r = 2 ∧ mo_ok iv2 av2 (ob ++ [(0, nd, wB av wn fi N P)]) ∧ iv2 8 = nd + 1 ∧ iv2 11 = fa ∧ av2 33 = av 33 ∧ av2 52 = upd (av 52) (200 * wn + np) nd ∧ av2 53 = upd (av 53) wn (nI (np + 1))) ∨ (¬ (mFi ob 0 nd = none ∧ ob.length < 100 ∧ nI (oSz ob + (wB av wn fi N P).length) ≤ ro) ∧ r = -1 ∧ mo_ok iv2 av2 ob ∧ iv2 8 = nd ∧ iv2 11 = fa + 1 ∧ av2 33 = upd (av 33) wn 0 ∧ av2 52 = av 52 ∧ av2 53 = av 53))) := by
  intro sz
  refine Met.ofK (cc := cX11_write) (maxL := 4) (ret := (some .int)) (by decide) (Nat.le_of_ble_eq_true rfl) ?_
  intro p e s m below meth c ls C G hl
  generalize va_A _ sz = A at G ⊢
  have hx := C.1
  have hb := C.2.1
  have hown := C.2.2.2.2.2.1
  have hts := C.2.2.2.2.2.2.1
  refine lv_sipush (v := 200) hx hb dX11_write_0 (by decide) ?_
  refine lv_iload_n hx hb dX11_write_3 rfl (lv_at hl 1 rfl) ?_
  refine lv_imul hx hb dX11_write_4 ?_
  refine k_topi (y := nI (200 * wn)) (pk_mul 200 wn) ?_
  refine lv_aload_n hx hb dX11_write_5 rfl (lv_at hl 0 rfl) ?_
  refine k_mga C G 53 (by decide) mr_53 fl_X11_126 rfl dX11_write_6 ?_
  refine lv_iload_n hx hb dX11_write_9 rfl (lv_at hl 1 rfl) ?_
  refine k_mil (v := nI np) (i := wn) C G 35 (k := 53) (n := 4) mp_53 (by decide) (by omega) h53 dX11_write_10 ?_
  refine lv_iadd hx hb dX11_write_11 ?_
  refine k_topi (y := nI (200 * wn + np)) (nI_add (200 * wn) np) ?_
  refine lv_istore_n (lv' := [(2, .int (nI (200 * wn + np))), (0, .ref h), (1, .int (nI wn))]) hx hb dX11_write_12 rfl hl (by decide) rfl (fun ls hl => ?_)
  refine lv_aload_n hx hb dX11_write_13 rfl (lv_at hl 1 rfl) ?_
  refine lv_aload_n hx hb dX11_write_14 rfl (lv_at hl 1 rfl) ?_
  refine k_mga C G 49 (by decide) mr_49 fl_X11_114 rfl dX11_write_15 ?_
  refine lv_iload_n hx hb dX11_write_18 rfl (lv_at hl 0 rfl) ?_
  refine k_mil (v := P) (i := 200 * wn + np) C G 31 (k := 49) (n := 800) mp_49 (by decide) (by omega) h49 dX11_write_19 ?_
  refine k_mpi (v := P) (ty := .int) C G 19 (by decide) mr_19 fl_X11_193 rfl rfl rfl rfl rfl dX11_write_20 (fun H locs (G : wd Z A s (mdW Z h ad (upd iv 19 P) av) H locs) => ?_)
  refine lv_aload_n hx hb dX11_write_23 rfl (lv_at hl 1 rfl) ?_
  refine lv_aload_n hx hb dX11_write_24 rfl (lv_at hl 1 rfl) ?_
  refine k_mga C G 51 (by decide) mr_51 fl_X11_120 rfl dX11_write_25 ?_
  refine lv_iload_n hx hb dX11_write_28 rfl (lv_at hl 0 rfl) ?_
  refine k_mil (v := nI N) (i := 200 * wn + np) C G 33 (k := 51) (n := 800) mp_51 (by decide) (by omega) h51 dX11_write_29 ?_
  refine k_mpi (v := nI N) (ty := .int) C G 20 (by decide) mr_20 fl_X11_196 rfl rfl rfl rfl rfl dX11_write_30 (fun H locs (G : wd Z A s (mdW Z h ad (upd (upd iv 19 P) 20 (nI N)) av) H locs) => ?_)
  refine lv_iconst (v := 0) hx hb dX11_write_33 (by decide) ?_
  refine k_topi (y := nI 0) (by rfl) ?_
  refine lv_istore_n (lv' := [(3, .int (nI 0)), (2, .int (nI (200 * wn + np))), (0, .ref h), (1, .int (nI wn))]) hx hb dX11_write_34 rfl hl (by decide) rfl (fun ls hl => ?_)
  have G : wd Z A s (mdW Z h ad (upd (upd iv 19 P) 20 (nI N)) (ua av 21 (av 21))) H locs := by
    have e9 : ua av 21 (av 21) = av := by
      funext j
      by_cases e : j = 21
      · subst e; exact ua_s
      · exact ua_n e
    rw [e9]; exact G
  refine lp_mwr C hwn hnp hN hfi h50 (fun T hT H locs ls G hl => ?_) (3 * N) 0 (av 21) (by omega) (fun j hj => absurd hj (by omega)) _ _ _ G (lv_sub hl [0, 1, 2, 3] rfl)
  refine lv_aload_n hx hb dX11_write_78 rfl (lv_at hl 1 rfl) ?_
  refine kcM_v G (krV 0 rfl (As := []) (rest := []) (ci := 12) (CC := RX11) (T := TX11) (N := 61) C G pmN (c_X11_makeData Z l h ad (upd (upd iv 19 P) 20 (nI N)) (ua av 21 T) P N rfl rfl hN hf14 _) (gdV ml_X11_223 im_X11_makeData se_X11_makeData ii_X11 co_X11_makeData) (by decide +kernel) ⟨Nat.le_of_ble_eq_true rfl, Nat.le_of_ble_eq_true rfl⟩ rfl 0 rfl hl rfl (Nat.le_of_ble_eq_true rfl) ⟨Nat.le_of_ble_eq_true rfl, Nat.le_of_ble_eq_true rfl⟩ dX11_write_79) (fun u H locs hu G => ?_)
  obtain ⟨iv1_, av1_, rfl, hm1, _, hs1, ha1⟩ := hu
  have hs1 : sI [15] (upd (upd iv 19 P) 20 (nI N)) iv1_ := hs1
  have h8v : iv1_ 8 = nd := (hs1 8 (by decide)).trans h8
  have hcols : ∀ c, c < 3 → col (mV (ua av 21 T)) c N = col (wV av wn fi) c N := by
    intro c hc
    rw [col_eq]
    intro r hr
    rw [mV_at _ (by omega)]
    show T (3 * r + c) = av 45 (14400 * wn + 3 * (fi + (48 * c + r) % 48) + (48 * c + r) / 48)
    rw [hT _ (by omega), show (48 * c + r) % 48 = r by omega, show (48 * c + r) / 48 = c by omega]
    congr 1; omega
  have hm1 : mk_at iv1_ av1_ (wB av wn fi N P) := by unfold wB; rw [← encF_cong hcols]; exact hm1
  have hok1 : mo_ok iv1_ av1_ ob := mo_ok.same (iv := (upd (upd iv 19 P) 20 (nI N))) (av := ua av 21 T) ⟨ho.1, ho.2.1, ho.2.2.1, ho.2.2.2⟩ hs1 ha1 (by decide) (by decide) (by decide) (by decide) (by decide) (by decide)
  have hb1 := wB_le av wn fi N P hN
  have hb2 := wB_ge av wn fi N P
  refine lv_aload_n hx hb dX11_write_82 rfl (lv_at hl 1 rfl) ?_
  refine lv_iconst (v := 0) hx hb dX11_write_83 (by decide) ?_
  refine lv_aload_n hx hb dX11_write_84 rfl (lv_at hl 1 rfl) ?_
  refine k_mgi (v := nd) C G 8 (by decide) mr_8 h8v fl_X11_307 rfl dX11_write_85 ?_
  refine kcM_i G (krV 2 rfl (As := [.int 0, .int nd]) (rest := []) (ci := 12) (CC := RX11) (T := TX11) (N := 61) C G pmN (c_X11_put Z l h ad iv1_ av1_ ob (wB av wn fi N P) 0 nd ro hok1 hm1 hb2 (by omega) ((hs1 6 (by decide)).trans h6) _) (gdV ml_X11_310 im_X11_put se_X11_put ii_X11 co_X11_put) (by decide +kernel) ⟨Nat.le_of_ble_eq_true rfl, Nat.le_of_ble_eq_true rfl⟩ rfl 0 rfl hl rfl (Nat.le_of_ble_eq_true rfl) ⟨Nat.le_of_ble_eq_true rfl, Nat.le_of_ble_eq_true rfl⟩ dX11_write_88) (fun r_88 u H locs hu G => ?_)
  obtain ⟨iv2_, av2_, rfl, hcs2⟩ := hu
  rcases hcs2 with ⟨hcan, r_88_e, hok2, hs2, ha2⟩ | ⟨hcan, r_88_e, e8, e9⟩
  · subst r_88_e
    refine lv_if_ne (tgt := 101) hx hb dX11_write_91 (by decide) (fun c_91 => ?_) (fun c_91 => ?_)
    · have n_91 := nb_ne (a := 1) (b := 0) c_91 (by omega) (by omega)
      refine lv_aload_n hx hb dX11_write_101 rfl (lv_at hl 1 rfl) ?_
      refine k_mga C G 52 (by decide) mr_52 fl_X11_123 rfl dX11_write_102 ?_
      refine lv_iload_n hx hb dX11_write_105 rfl (lv_at hl 0 rfl) ?_
      refine lv_aload_n hx hb dX11_write_106 rfl (lv_at hl 1 rfl) ?_
      refine k_mgi (v := nd) C G 8 (by decide) mr_8 ((hs2 8 (by decide)).trans h8v) fl_X11_307 rfl dX11_write_107 ?_
      refine k_mis (x := nd) (i := 200 * wn + np) C G 34 (k := 52) (n := 800) mp_52 (by decide) (by omega) dX11_write_110 (fun H locs (G : wd Z A s (mdW Z h ad iv2_ (ua av2_ 52 (upd (av2_ 52) (200 * wn + np) nd))) H locs) => ?_)
      refine lv_aload_n hx hb dX11_write_111 rfl (lv_at hl 1 rfl) ?_
      refine lv_dup hx hb dX11_write_112 rfl ?_
      refine k_mgi (v := nd) C G 8 (by decide) mr_8 ((hs2 8 (by decide)).trans h8v) fl_X11_307 rfl dX11_write_113 ?_
      refine lv_iconst (v := 1) hx hb dX11_write_116 (by decide) ?_
      refine lv_iadd hx hb dX11_write_117 ?_
      refine k_mpi (v := nd + 1) (ty := .int) C G 8 (by decide) mr_8 fl_X11_307 rfl rfl rfl rfl rfl dX11_write_118 (fun H locs (G : wd Z A s (mdW Z h ad (upd iv2_ 8 (nd + 1)) (ua av2_ 52 (upd (av2_ 52) (200 * wn + np) nd))) H locs) => ?_)
      refine lv_aload_n hx hb dX11_write_121 rfl (lv_at hl 1 rfl) ?_
      refine k_mga C G 53 (by decide) mr_53 fl_X11_126 rfl dX11_write_122 ?_
      refine lv_iload_n hx hb dX11_write_125 rfl (lv_at hl 2 rfl) ?_
      refine lv_dup2_11 hx hb dX11_write_126 rfl rfl ?_
      refine k_mil (v := nI np) (i := wn) C G 35 (k := 53) (n := 4) mp_53 (by decide) (by omega) ((congrFun (ha2 53 (by decide)) wn).trans ((congrFun (ha1 53 (by decide)) wn).trans h53)) dX11_write_127 ?_
      refine lv_iconst (v := 1) hx hb dX11_write_128 (by decide) ?_
      refine lv_iadd hx hb dX11_write_129 ?_
      refine k_topi (y := nI (np + 1)) (nI_add np 1) ?_
      refine k_mis (x := nI (np + 1)) (i := wn) C G 35 (k := 53) (n := 4) mp_53 (by decide) (by omega) dX11_write_130 (fun H locs (G : wd Z A s (mdW Z h ad (upd iv2_ 8 (nd + 1)) (ua (ua av2_ 52 (upd (av2_ 52) (200 * wn + np) nd)) 53 (upd (av2_ 53) wn (nI (np + 1))))) H locs) => ?_)
      refine lv_iconst (v := 2) hx hb dX11_write_131 (by decide) ?_
      exact kr_i C G ⟨_, _, rfl, by show ∀ i, fits .byte (.int (av2_ 14 i)) = true; rw [ha2 14 (by decide)]; exact hm1.2.2, ((((sI.rf.up (k := 19) (by decide) P).up (k := 20) (by decide) (nI N)).tr hs1 (by decide)).tr hs2 (by decide)).up (by decide) _, ((((sA.rf.up (k := 21) (by decide) T).tr ha1 (by decide)).tr ha2 (by decide)).up (by decide) _).up (by decide) _, Or.inl ⟨hcan, rfl, ⟨hok2.1, hok2.2.1, hok2.2.2.1, hok2.2.2.2⟩, rfl, (hs2 11 (by decide)).trans ((hs1 11 (by decide)).trans h11), (ha2 33 (by decide)).trans (ha1 33 (by decide)), by show upd (av2_ 52) _ nd = _; rw [ha2 52 (by decide), ha1 52 (by decide)]; rfl, by show upd (av2_ 53) wn _ = _; rw [ha2 53 (by decide), ha1 53 (by decide)]; rfl⟩⟩ (Nat.le_of_ble_eq_true rfl) (Nat.le_of_ble_eq_true rfl) dX11_write_132
    · exact absurd c_91 (by decide)
  · subst r_88_e
    rw [e8, e9] at G
    refine lv_if_ne (tgt := 101) hx hb dX11_write_91 (by decide) (fun c_91 => ?_) (fun c_91 => ?_)
    · exact absurd c_91 (by decide)
    · have n_91 := nb_eq (a := 0) (b := 0) c_91 (by omega) (by omega)
      refine lv_aload_n hx hb dX11_write_94 rfl (lv_at hl 1 rfl) ?_
      refine lv_iload_n hx hb dX11_write_95 rfl (lv_at hl 2 rfl) ?_
      refine lv_iconst (v := 1) hx hb dX11_write_96 (by decide) ?_
      refine kcM_i G (krV 2 rfl (As := [.int (nI wn), .int 1]) (rest := []) (ci := 12) (CC := RX11) (T := TX11) (N := 61) C G pmN (c_X11_fails Z l h ad iv1_ av1_ wn 1 fa hwn ((hs1 11 (by decide)).trans h11) _) (gdV ml_X11_283 im_X11_fails se_X11_fails ii_X11 co_X11_fails) (by decide +kernel) ⟨Nat.le_of_ble_eq_true rfl, Nat.le_of_ble_eq_true rfl⟩ rfl 0 rfl hl rfl (Nat.le_of_ble_eq_true rfl) ⟨Nat.le_of_ble_eq_true rfl, Nat.le_of_ble_eq_true rfl⟩ dX11_write_97) (fun r_97 u H locs hu G => ?_)
      obtain ⟨r_97_e, rfl⟩ := hu
      subst r_97_e
      exact kr_i C G ⟨_, _, rfl, hm1.2.2, (((sI.rf.up (k := 19) (by decide) P).up (k := 20) (by decide) (nI N)).tr hs1 (by decide)).up (by decide) _, ((sA.rf.up (k := 21) (by decide) T).tr ha1 (by decide)).up (by decide) _, Or.inr ⟨hcan, rfl, ⟨hok1.1, hok1.2.1, hok1.2.2.1, hok1.2.2.2⟩, h8v, rfl, by show upd (av1_ 33) wn 0 = _; rw [ha1 33 (by decide)]; rfl, ha1 52 (by decide), ha1 53 (by decide)⟩⟩ (Nat.le_of_ble_eq_true rfl) (Nat.le_of_ble_eq_true rfl) dX11_write_100
set_option maxRecDepth 100000 in
set_option maxHeartbeats 4000000 in
theorem lp_mcr {p : Program} {l : Launch} {e : Env} {s : State} {m : MethodId} {args : Array Value} {below : List Frame} {meth : Method} {c : Code} {Z : zT} {A : Nat → Prop} {Q : State → Prop} {h : Nat} {ad : Nat → Nat} {iv0 : ivT} {av0 : avT} {wn nr na : Nat} {v pt : Int32} (C : cx p s m args meth c cX11_commit 4 (some .int) RX11 "commit") (hwn : wn < 4) (hnr : nr + na ≤ 200) (h54 : av0 54 wn = nI nr) (h48 : av0 48 wn = nI na) (h41 : av0 41 wn = pt) (kk : ∀ (iv : ivT) (av : avT), mk_at iv av (enH v (nr + na) ++ rmB (fun i => av0 55 (200 * wn + i)) pt nr) → sI [15] iv0 iv → sA [14] av0 av → ∀ (H : Heap) (locs : List Loc) (ls : Array Slot), wd Z A s (mdW Z h ad iv av) H locs → lv_has ls 4 [(0, .ref h), (1, .int (nI wn)), (2, .int v)] → W p l e ({ frames := 3, cells := 0, slots := 0, locals := 90 }) s m args below meth c H locs 0 0 Q (F0 m 164 ls [])) : ∀ (n i : Nat) (iv : ivT) (av : avT), i + n = nr → mk_at iv av (enH v (nr + na) ++ rmB (fun i => av0 55 (200 * wn + i)) pt i) → sI [15] iv0 iv → sA [14] av0 av → ∀ (H : Heap) (locs : List Loc) (ls : Array Slot), wd Z A s (mdW Z h ad iv av) H locs → lv_has ls 4 [(3, .int (nI i)), (0, .ref h), (1, .int (nI wn)), (2, .int v)] → W p l e ({ frames := 3, cells := 0, slots := 0, locals := 90 }) s m args below meth c H locs 0 0 Q (F0 m 110 ls []) := by
  have hx := C.1
  have hb := C.2.1
  have hown := C.2.2.2.2.2.1
  have hts := C.2.2.2.2.2.2.1
  intro n
  induction n with
  | zero =>
    intro i iv av hi hmk hsI hsA H locs ls G hl
    refine lv_iload_n hx hb dX11_commit_110 rfl (lv_at hl 0 rfl) ?_
    refine lv_aload_n hx hb dX11_commit_111 rfl (lv_at hl 1 rfl) ?_
    refine k_mga C G 54 (by decide) mr_54 fl_X11_129 rfl dX11_commit_112 ?_
    refine lv_iload_n hx hb dX11_commit_115 rfl (lv_at hl 2 rfl) ?_
    refine k_mil (v := nI nr) (i := wn) C G 36 (k := 54) (n := 4) mp_54 (by decide) (by omega) ((congrFun (hsA 54 (by decide)) wn).trans h54) dX11_commit_116 ?_
    refine lv_icmp_ge (tgt := 164) hx hb dX11_commit_117 (by decide) (fun c_117 => ?_) (fun c_117 => ?_)
    · have n_117 := nb_le (a := nr) (b := i) c_117 (by omega) (by omega)
      have hie : i = nr := by omega
      subst hie
      exact kk iv av hmk hsI hsA _ _ _ G (lv_sub hl [1, 2, 3] rfl)
    · exact absurd (nb_nle (a := nr) (b := i) c_117 (by omega) (by omega)) (by omega)
  | succ n ih =>
    intro i iv av hi hmk hsI hsA H locs ls G hl
    refine lv_iload_n hx hb dX11_commit_110 rfl (lv_at hl 0 rfl) ?_
    refine lv_aload_n hx hb dX11_commit_111 rfl (lv_at hl 1 rfl) ?_
    refine k_mga C G 54 (by decide) mr_54 fl_X11_129 rfl dX11_commit_112 ?_
    refine lv_iload_n hx hb dX11_commit_115 rfl (lv_at hl 2 rfl) ?_
    refine k_mil (v := nI nr) (i := wn) C G 36 (k := 54) (n := 4) mp_54 (by decide) (by omega) ((congrFun (hsA 54 (by decide)) wn).trans h54) dX11_commit_116 ?_
    refine lv_icmp_ge (tgt := 164) hx hb dX11_commit_117 (by decide) (fun c_117 => ?_) (fun c_117 => ?_)
    · exact absurd (nb_le (a := nr) (b := i) c_117 (by omega) (by omega)) (by omega)
    · have n_117 := nb_nle (a := nr) (b := i) c_117 (by omega) (by omega)
      refine lv_aload_n hx hb dX11_commit_120 rfl (lv_at hl 1 rfl) ?_
      refine lv_ldc2 (v := 2) hx hb hown (hts _ kl_X11_316) dX11_commit_121 ?_
      refine k_topl (y := (2 : Int32).toInt64) (by decide) ?_
      refine lv_iconst (v := 1) hx hb dX11_commit_124 (by decide) ?_
      refine kcM_v G (krV 2 rfl (As := [.long ((2 : Int32).toInt64), .int 1]) (rest := []) (ci := 12) (CC := RX11) (T := TX11) (N := 61) C G pmN (c_mu1 Z l h ad iv av _ 2 hmk (by simp only [List.length_append, rmB_len, adB_len, enH_len, u4b_len, List.length_singleton]; omega) _) (gdV ml_X11_161 im_X11_u se_X11_u ii_X11 co_X11_u) (by decide +kernel) ⟨Nat.le_of_ble_eq_true rfl, Nat.le_of_ble_eq_true rfl⟩ rfl 0 rfl hl rfl (Nat.le_of_ble_eq_true rfl) ⟨Nat.le_of_ble_eq_true rfl, Nat.le_of_ble_eq_true rfl⟩ dX11_commit_125) (fun u H locs hu G => ?_)
      obtain ⟨iv1_, av1_, rfl, hm1, hs1, ha1⟩ := hu
      refine lv_aload_n hx hb dX11_commit_128 rfl (lv_at hl 1 rfl) ?_
      refine lv_aload_n hx hb dX11_commit_129 rfl (lv_at hl 1 rfl) ?_
      refine k_mga C G 55 (by decide) mr_55 fl_X11_132 rfl dX11_commit_130 ?_
      refine lv_sipush (v := 200) hx hb dX11_commit_133 (by decide) ?_
      refine lv_iload_n hx hb dX11_commit_136 rfl (lv_at hl 2 rfl) ?_
      refine lv_imul hx hb dX11_commit_137 ?_
      refine k_topi (y := nI (200 * wn)) (pk_mul 200 wn) ?_
      refine lv_iload_n hx hb dX11_commit_138 rfl (lv_at hl 0 rfl) ?_
      refine lv_iadd hx hb dX11_commit_139 ?_
      refine k_topi (y := nI (200 * wn + i)) (nI_add (200 * wn) i) ?_
      refine k_mil (v := av0 55 (200 * wn + i)) (i := 200 * wn + i) C G 37 (k := 55) (n := 800) mp_55 (by decide) (by omega) ((congrFun (ha1 55 (by decide)) (200 * wn + i)).trans (congrFun (hsA 55 (by decide)) (200 * wn + i))) dX11_commit_140 ?_
      refine lv_i2l (v := (av0 55 (200 * wn + i)).toInt64) hx hb dX11_commit_141 rfl ?_
      refine lv_iconst (v := 4) hx hb dX11_commit_142 (by decide) ?_
      refine kcM_v G (krV 2 rfl (As := [.long ((av0 55 (200 * wn + i)).toInt64), .int 4]) (rest := []) (ci := 12) (CC := RX11) (T := TX11) (N := 61) C G pmN (c_mu4 Z l h ad iv1_ av1_ _ (av0 55 (200 * wn + i)) hm1 (by simp only [List.length_append, rmB_len, adB_len, enH_len, u4b_len, List.length_singleton]; omega) _) (gdV ml_X11_161 im_X11_u se_X11_u ii_X11 co_X11_u) (by decide +kernel) ⟨Nat.le_of_ble_eq_true rfl, Nat.le_of_ble_eq_true rfl⟩ rfl 0 rfl hl rfl (Nat.le_of_ble_eq_true rfl) ⟨Nat.le_of_ble_eq_true rfl, Nat.le_of_ble_eq_true rfl⟩ dX11_commit_143) (fun u H locs hu G => ?_)
      obtain ⟨iv2_, av2_, rfl, hm2, hs2, ha2⟩ := hu
      refine lv_aload_n hx hb dX11_commit_146 rfl (lv_at hl 1 rfl) ?_
      refine lv_aload_n hx hb dX11_commit_147 rfl (lv_at hl 1 rfl) ?_
      refine k_mga C G 41 (by decide) mr_41 fl_X11_89 rfl dX11_commit_148 ?_
      refine lv_iload_n hx hb dX11_commit_151 rfl (lv_at hl 2 rfl) ?_
      refine k_mil (v := pt) (i := wn) C G 23 (k := 41) (n := 4) mp_41 (by decide) (by omega) (((congrFun (ha2 41 (by decide)) wn).trans ((congrFun (ha1 41 (by decide)) wn).trans (congrFun (hsA 41 (by decide)) wn))).trans h41) dX11_commit_152 ?_
      refine lv_i2l (v := pt.toInt64) hx hb dX11_commit_153 rfl ?_
      refine lv_iconst (v := 1) hx hb dX11_commit_154 (by decide) ?_
      refine kcM_v G (krV 2 rfl (As := [.long pt.toInt64, .int 1]) (rest := []) (ci := 12) (CC := RX11) (T := TX11) (N := 61) C G pmN (c_mu1 Z l h ad iv2_ av2_ _ pt hm2 (by simp only [List.length_append, rmB_len, adB_len, enH_len, u4b_len, List.length_singleton]; omega) _) (gdV ml_X11_161 im_X11_u se_X11_u ii_X11 co_X11_u) (by decide +kernel) ⟨Nat.le_of_ble_eq_true rfl, Nat.le_of_ble_eq_true rfl⟩ rfl 0 rfl hl rfl (Nat.le_of_ble_eq_true rfl) ⟨Nat.le_of_ble_eq_true rfl, Nat.le_of_ble_eq_true rfl⟩ dX11_commit_155) (fun u H locs hu G => ?_)
      obtain ⟨iv3_, av3_, rfl, hm3, hs3, ha3⟩ := hu
      refine lv_iinc (v := nI (i + 1)) (lv' := [(3, .int (nI (i + 1))), (0, .ref h), (1, .int (nI wn)), (2, .int v)]) hx hb dX11_commit_158 hl (k := 0) rfl (nI_1 _) (by decide) rfl (fun ls hl => ?_)
      refine lv_goto (tgt := 110) hx hb dX11_commit_161 (by decide) ?_
      exact ih (i + 1) _ _ (by omega) (by rw [rmB_s, enA, ← List.append_assoc, ← List.append_assoc, ← List.append_assoc]; exact hm3) (((hsI.tr hs1 (by decide)).tr hs2 (by decide)).tr hs3 (by decide)) (((hsA.tr ha1 (by decide)).tr ha2 (by decide)).tr ha3 (by decide)) _ _ _ G (lv_sub hl [0, 1, 2, 3] rfl)
set_option maxRecDepth 100000 in
set_option maxHeartbeats 4000000 in
theorem lp_mca {p : Program} {l : Launch} {e : Env} {s : State} {m : MethodId} {args : Array Value} {below : List Frame} {meth : Method} {c : Code} {Z : zT} {A : Nat → Prop} {Q : State → Prop} {h : Nat} {ad : Nat → Nat} {iv0 : ivT} {av0 : avT} {wn nr na : Nat} {v pt : Int32} (C : cx p s m args meth c cX11_commit 4 (some .int) RX11 "commit") (hwn : wn < 4) (hnr : nr + na ≤ 200) (h54 : av0 54 wn = nI nr) (h48 : av0 48 wn = nI na) (h41 : av0 41 wn = pt) (kk : ∀ (iv : ivT) (av : avT), mk_at iv av (enH v (nr + na) ++ rmB (fun i => av0 55 (200 * wn + i)) pt nr ++ adB (fun i => av0 52 (200 * wn + i)) (fun i => av0 49 (200 * wn + i)) na) → sI [15] iv0 iv → sA [14] av0 av → ∀ (H : Heap) (locs : List Loc) (ls : Array Slot), wd Z A s (mdW Z h ad iv av) H locs → lv_has ls 4 [(0, .ref h), (1, .int (nI wn)), (2, .int v)] → W p l e ({ frames := 3, cells := 0, slots := 0, locals := 90 }) s m args below meth c H locs 0 0 Q (F0 m 224 ls [])) : ∀ (n i : Nat) (iv : ivT) (av : avT), i + n = na → mk_at iv av (enH v (nr + na) ++ rmB (fun i => av0 55 (200 * wn + i)) pt nr ++ adB (fun i => av0 52 (200 * wn + i)) (fun i => av0 49 (200 * wn + i)) i) → sI [15] iv0 iv → sA [14] av0 av → ∀ (H : Heap) (locs : List Loc) (ls : Array Slot), wd Z A s (mdW Z h ad iv av) H locs → lv_has ls 4 [(3, .int (nI i)), (0, .ref h), (1, .int (nI wn)), (2, .int v)] → W p l e ({ frames := 3, cells := 0, slots := 0, locals := 90 }) s m args below meth c H locs 0 0 Q (F0 m 166 ls []) := by
  have hx := C.1
  have hb := C.2.1
  have hown := C.2.2.2.2.2.1
  have hts := C.2.2.2.2.2.2.1
  intro n
  induction n with
  | zero =>
    intro i iv av hi hmk hsI hsA H locs ls G hl
    refine lv_iload_n hx hb dX11_commit_166 rfl (lv_at hl 0 rfl) ?_
    refine lv_aload_n hx hb dX11_commit_167 rfl (lv_at hl 1 rfl) ?_
    refine k_mga C G 48 (by decide) mr_48 fl_X11_111 rfl dX11_commit_168 ?_
    refine lv_iload_n hx hb dX11_commit_171 rfl (lv_at hl 2 rfl) ?_
    refine k_mil (v := nI na) (i := wn) C G 30 (k := 48) (n := 4) mp_48 (by decide) (by omega) ((congrFun (hsA 48 (by decide)) wn).trans h48) dX11_commit_172 ?_
    refine lv_icmp_ge (tgt := 224) hx hb dX11_commit_173 (by decide) (fun c_173 => ?_) (fun c_173 => ?_)
    · have n_173 := nb_le (a := na) (b := i) c_173 (by omega) (by omega)
      have hie : i = na := by omega
      subst hie
      exact kk iv av hmk hsI hsA _ _ _ G (lv_sub hl [1, 2, 3] rfl)
    · exact absurd (nb_nle (a := na) (b := i) c_173 (by omega) (by omega)) (by omega)
  | succ n ih =>
    intro i iv av hi hmk hsI hsA H locs ls G hl
    refine lv_iload_n hx hb dX11_commit_166 rfl (lv_at hl 0 rfl) ?_
    refine lv_aload_n hx hb dX11_commit_167 rfl (lv_at hl 1 rfl) ?_
    refine k_mga C G 48 (by decide) mr_48 fl_X11_111 rfl dX11_commit_168 ?_
    refine lv_iload_n hx hb dX11_commit_171 rfl (lv_at hl 2 rfl) ?_
    refine k_mil (v := nI na) (i := wn) C G 30 (k := 48) (n := 4) mp_48 (by decide) (by omega) ((congrFun (hsA 48 (by decide)) wn).trans h48) dX11_commit_172 ?_
    refine lv_icmp_ge (tgt := 224) hx hb dX11_commit_173 (by decide) (fun c_173 => ?_) (fun c_173 => ?_)
    · exact absurd (nb_le (a := na) (b := i) c_173 (by omega) (by omega)) (by omega)
    · have n_173 := nb_nle (a := na) (b := i) c_173 (by omega) (by omega)
      refine lv_aload_n hx hb dX11_commit_176 rfl (lv_at hl 1 rfl) ?_
      refine lv_lconst (v := 1) hx hb dX11_commit_177 (by decide) ?_
      refine k_topl (y := (1 : Int32).toInt64) (by decide) ?_
      refine lv_iconst (v := 1) hx hb dX11_commit_178 (by decide) ?_
      refine kcM_v G (krV 2 rfl (As := [.long ((1 : Int32).toInt64), .int 1]) (rest := []) (ci := 12) (CC := RX11) (T := TX11) (N := 61) C G pmN (c_mu1 Z l h ad iv av _ 1 hmk (by simp only [List.length_append, rmB_len, adB_len, enH_len, u4b_len, List.length_singleton]; omega) _) (gdV ml_X11_161 im_X11_u se_X11_u ii_X11 co_X11_u) (by decide +kernel) ⟨Nat.le_of_ble_eq_true rfl, Nat.le_of_ble_eq_true rfl⟩ rfl 0 rfl hl rfl (Nat.le_of_ble_eq_true rfl) ⟨Nat.le_of_ble_eq_true rfl, Nat.le_of_ble_eq_true rfl⟩ dX11_commit_179) (fun u H locs hu G => ?_)
      obtain ⟨iv1_, av1_, rfl, hm1, hs1, ha1⟩ := hu
      refine lv_aload_n hx hb dX11_commit_182 rfl (lv_at hl 1 rfl) ?_
      refine lv_aload_n hx hb dX11_commit_183 rfl (lv_at hl 1 rfl) ?_
      refine k_mga C G 52 (by decide) mr_52 fl_X11_123 rfl dX11_commit_184 ?_
      refine lv_sipush (v := 200) hx hb dX11_commit_187 (by decide) ?_
      refine lv_iload_n hx hb dX11_commit_190 rfl (lv_at hl 2 rfl) ?_
      refine lv_imul hx hb dX11_commit_191 ?_
      refine k_topi (y := nI (200 * wn)) (pk_mul 200 wn) ?_
      refine lv_iload_n hx hb dX11_commit_192 rfl (lv_at hl 0 rfl) ?_
      refine lv_iadd hx hb dX11_commit_193 ?_
      refine k_topi (y := nI (200 * wn + i)) (nI_add (200 * wn) i) ?_
      refine k_mil (v := av0 52 (200 * wn + i)) (i := 200 * wn + i) C G 34 (k := 52) (n := 800) mp_52 (by decide) (by omega) ((congrFun (ha1 52 (by decide)) (200 * wn + i)).trans (congrFun (hsA 52 (by decide)) (200 * wn + i))) dX11_commit_194 ?_
      refine lv_i2l (v := (av0 52 (200 * wn + i)).toInt64) hx hb dX11_commit_195 rfl ?_
      refine lv_iconst (v := 4) hx hb dX11_commit_196 (by decide) ?_
      refine kcM_v G (krV 2 rfl (As := [.long ((av0 52 (200 * wn + i)).toInt64), .int 4]) (rest := []) (ci := 12) (CC := RX11) (T := TX11) (N := 61) C G pmN (c_mu4 Z l h ad iv1_ av1_ _ (av0 52 (200 * wn + i)) hm1 (by simp only [List.length_append, rmB_len, adB_len, enH_len, u4b_len, List.length_singleton]; omega) _) (gdV ml_X11_161 im_X11_u se_X11_u ii_X11 co_X11_u) (by decide +kernel) ⟨Nat.le_of_ble_eq_true rfl, Nat.le_of_ble_eq_true rfl⟩ rfl 0 rfl hl rfl (Nat.le_of_ble_eq_true rfl) ⟨Nat.le_of_ble_eq_true rfl, Nat.le_of_ble_eq_true rfl⟩ dX11_commit_197) (fun u H locs hu G => ?_)
      obtain ⟨iv2_, av2_, rfl, hm2, hs2, ha2⟩ := hu
      refine lv_aload_n hx hb dX11_commit_200 rfl (lv_at hl 1 rfl) ?_
      refine lv_aload_n hx hb dX11_commit_201 rfl (lv_at hl 1 rfl) ?_
      refine k_mga C G 49 (by decide) mr_49 fl_X11_114 rfl dX11_commit_202 ?_
      refine lv_sipush (v := 200) hx hb dX11_commit_205 (by decide) ?_
      refine lv_iload_n hx hb dX11_commit_208 rfl (lv_at hl 2 rfl) ?_
      refine lv_imul hx hb dX11_commit_209 ?_
      refine k_topi (y := nI (200 * wn)) (pk_mul 200 wn) ?_
      refine lv_iload_n hx hb dX11_commit_210 rfl (lv_at hl 0 rfl) ?_
      refine lv_iadd hx hb dX11_commit_211 ?_
      refine k_topi (y := nI (200 * wn + i)) (nI_add (200 * wn) i) ?_
      refine k_mil (v := av0 49 (200 * wn + i)) (i := 200 * wn + i) C G 31 (k := 49) (n := 800) mp_49 (by decide) (by omega) ((congrFun (ha2 49 (by decide)) (200 * wn + i)).trans ((congrFun (ha1 49 (by decide)) (200 * wn + i)).trans (congrFun (hsA 49 (by decide)) (200 * wn + i)))) dX11_commit_212 ?_
      refine lv_i2l (v := (av0 49 (200 * wn + i)).toInt64) hx hb dX11_commit_213 rfl ?_
      refine lv_iconst (v := 1) hx hb dX11_commit_214 (by decide) ?_
      refine kcM_v G (krV 2 rfl (As := [.long ((av0 49 (200 * wn + i)).toInt64), .int 1]) (rest := []) (ci := 12) (CC := RX11) (T := TX11) (N := 61) C G pmN (c_mu1 Z l h ad iv2_ av2_ _ (av0 49 (200 * wn + i)) hm2 (by simp only [List.length_append, rmB_len, adB_len, enH_len, u4b_len, List.length_singleton]; omega) _) (gdV ml_X11_161 im_X11_u se_X11_u ii_X11 co_X11_u) (by decide +kernel) ⟨Nat.le_of_ble_eq_true rfl, Nat.le_of_ble_eq_true rfl⟩ rfl 0 rfl hl rfl (Nat.le_of_ble_eq_true rfl) ⟨Nat.le_of_ble_eq_true rfl, Nat.le_of_ble_eq_true rfl⟩ dX11_commit_215) (fun u H locs hu G => ?_)
      obtain ⟨iv3_, av3_, rfl, hm3, hs3, ha3⟩ := hu
      refine lv_iinc (v := nI (i + 1)) (lv' := [(3, .int (nI (i + 1))), (0, .ref h), (1, .int (nI wn)), (2, .int v)]) hx hb dX11_commit_218 hl (k := 0) rfl (nI_1 _) (by decide) rfl (fun ls hl => ?_)
      refine lv_goto (tgt := 166) hx hb dX11_commit_221 (by decide) ?_
      exact ih (i + 1) _ _ (by omega) (by rw [adB_s, enA, ← List.append_assoc, ← List.append_assoc, ← List.append_assoc]; exact hm3) (((hsI.tr hs1 (by decide)).tr hs2 (by decide)).tr hs3 (by decide)) (((hsA.tr ha1 (by decide)).tr ha2 (by decide)).tr ha3 (by decide)) _ _ _ G (lv_sub hl [0, 1, 2, 3] rfl)
