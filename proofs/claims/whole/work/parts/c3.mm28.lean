/-! MODEL (X11): startsCompact. -/
set_option maxRecDepth 100000 in
set_option maxHeartbeats 4000000 in
theorem lp_msc1 {p : Program} {l : Launch} {e : Env} {s : State} {m : MethodId} {args : Array Value} {below : List Frame} {meth : Method} {c : Code} {Z : zT} {A : Nat → Prop} {Q : State → Prop} {h : Nat} {ad : Nat → Nat} {iv : ivT} {av0 : avT} {N k wn p0 rn : Nat} {R0 : List r4T} (C : cx p s m args meth c cX11_startsCompact 5 none RX11 "startsCompact") (hwn : wn < 4) (h20 : iv 20 = nI N) (hN : N ≤ 48) (h19 : iv 19 = nI p0) (hrn : rn = R0.length) (hrn4 : rn + 48 ≤ 4800) (kk : ∀ (av : avT), sA [45, 46, 47] av0 av → oth [] wn av0 av → so_at (shM av wn) (R0 ++ rLn (nI p0) (mV av0) N) → av 47 wn = nI (rn + N) →  ∀ (H : Heap) (locs : List Loc) (ls : Array Slot), wd Z A s (mdW Z h ad iv av) H locs → lv_has ls 5 [(0, .ref h), (1, .int (nI wn)), (2, .int (nI k))] → W p l e ({ frames := 6, cells := 0, slots := 0, locals := 200 }) s m args below meth c H locs 0 0 Q (F0 m 125 ls [])) : ∀ (n r : Nat) (av : avT), r + n = N → sA [45, 46, 47] av0 av → oth [] wn av0 av → so_at (shM av wn) (R0 ++ rLn (nI p0) (mV av0) r) → av 47 wn = nI (rn + r) →  ∀ (H : Heap) (locs : List Loc) (ls : Array Slot), wd Z A s (mdW Z h ad iv av) H locs → lv_has ls 5 [(4, .int (nI r)), (0, .ref h), (1, .int (nI wn)), (2, .int (nI k))] → W p l e ({ frames := 6, cells := 0, slots := 0, locals := 200 }) s m args below meth c H locs 0 0 Q (F0 m 70 ls []) := by
  have hx := C.1
  have hb := C.2.1
  have hown := C.2.2.2.2.2.1
  have hts := C.2.2.2.2.2.2.1
  intro n
  induction n with
  | zero =>
    intro r av hr hsA hot hso h47 H locs ls G hl
    refine lv_iload hx hb dX11_startsCompact_70 (lv_at hl 0 rfl) ?_
    refine lv_aload_n hx hb dX11_startsCompact_72 rfl (lv_at hl 1 rfl) ?_
    refine k_mgi (v := nI N) C G 20 (by decide) mr_20 h20 fl_X11_196 rfl dX11_startsCompact_73 ?_
    refine lv_icmp_ge (tgt := 125) hx hb dX11_startsCompact_76 (by decide) (fun c_76 => ?_) (fun c_76 => ?_)
    · have n_76 := nb_le (a := N) (b := r) c_76 (by omega) (by omega)
      have hrN : r = N := by omega
      subst hrN
      exact kk av hsA hot hso h47 _ _ _ G (lv_sub hl [1, 2, 3] rfl)
    · exact absurd (nb_nle (a := N) (b := r) c_76 (by omega) (by omega)) (by omega)
  | succ n ih =>
    intro r av hr hsA hot hso h47 H locs ls G hl
    refine lv_iload hx hb dX11_startsCompact_70 (lv_at hl 0 rfl) ?_
    refine lv_aload_n hx hb dX11_startsCompact_72 rfl (lv_at hl 1 rfl) ?_
    refine k_mgi (v := nI N) C G 20 (by decide) mr_20 h20 fl_X11_196 rfl dX11_startsCompact_73 ?_
    refine lv_icmp_ge (tgt := 125) hx hb dX11_startsCompact_76 (by decide) (fun c_76 => ?_) (fun c_76 => ?_)
    · exact absurd (nb_le (a := N) (b := r) c_76 (by omega) (by omega)) (by omega)
    · have n_76 := nb_nle (a := N) (b := r) c_76 (by omega) (by omega)
      refine lv_aload_n hx hb dX11_startsCompact_79 rfl (lv_at hl 1 rfl) ?_
      refine lv_iload_n hx hb dX11_startsCompact_80 rfl (lv_at hl 2 rfl) ?_
      refine lv_aload_n hx hb dX11_startsCompact_81 rfl (lv_at hl 1 rfl) ?_
      refine k_mgi (v := nI p0) C G 19 (by decide) mr_19 h19 fl_X11_193 rfl dX11_startsCompact_82 ?_
      refine lv_aload_n hx hb dX11_startsCompact_85 rfl (lv_at hl 1 rfl) ?_
      refine k_mga C G 21 (by decide) mr_21 fl_X11_34 rfl dX11_startsCompact_86 ?_
      refine lv_iconst (v := 3) hx hb dX11_startsCompact_89 (by decide) ?_
      refine lv_iload hx hb dX11_startsCompact_90 (lv_at hl 0 rfl) ?_
      refine lv_imul hx hb dX11_startsCompact_92 ?_
      refine k_topi (y := nI (3 * r)) (pk_mul 3 r) ?_
      refine k_mil (v := mV av0 r) (i := 3 * r) C G 5 (k := 21) (n := 144) mp_21 (by decide) (by omega) (by rw [show r = 48 * 0 + r by omega, mV_at av0 (by omega)]; rw [show 48 * 0 + r = r by omega]; exact congrFun (hsA 21 (by decide)) _) dX11_startsCompact_93 ?_
      refine lv_aload_n hx hb dX11_startsCompact_94 rfl (lv_at hl 1 rfl) ?_
      refine k_mga C G 21 (by decide) mr_21 fl_X11_34 rfl dX11_startsCompact_95 ?_
      refine lv_iconst (v := 3) hx hb dX11_startsCompact_98 (by decide) ?_
      refine lv_iload hx hb dX11_startsCompact_99 (lv_at hl 0 rfl) ?_
      refine lv_imul hx hb dX11_startsCompact_101 ?_
      refine k_topi (y := nI (3 * r)) (pk_mul 3 r) ?_
      refine lv_iconst (v := 1) hx hb dX11_startsCompact_102 (by decide) ?_
      refine lv_iadd hx hb dX11_startsCompact_103 ?_
      refine k_topi (y := nI (3 * r + 1)) (nI_add (3 * r) 1) ?_
      refine k_mil (v := mV av0 (48 + r)) (i := 3 * r + 1) C G 5 (k := 21) (n := 144) mp_21 (by decide) (by omega) (by rw [show 48 + r = 48 * 1 + r by omega, mV_at av0 (by omega)]; exact congrFun (hsA 21 (by decide)) _) dX11_startsCompact_104 ?_
      refine lv_aload_n hx hb dX11_startsCompact_105 rfl (lv_at hl 1 rfl) ?_
      refine k_mga C G 21 (by decide) mr_21 fl_X11_34 rfl dX11_startsCompact_106 ?_
      refine lv_iconst (v := 3) hx hb dX11_startsCompact_109 (by decide) ?_
      refine lv_iload hx hb dX11_startsCompact_110 (lv_at hl 0 rfl) ?_
      refine lv_imul hx hb dX11_startsCompact_112 ?_
      refine k_topi (y := nI (3 * r)) (pk_mul 3 r) ?_
      refine lv_iconst (v := 2) hx hb dX11_startsCompact_113 (by decide) ?_
      refine lv_iadd hx hb dX11_startsCompact_114 ?_
      refine k_topi (y := nI (3 * r + 2)) (nI_add (3 * r) 2) ?_
      refine k_mil (v := mV av0 (96 + r)) (i := 3 * r + 2) C G 5 (k := 21) (n := 144) mp_21 (by decide) (by omega) (by rw [show 96 + r = 48 * 2 + r by omega, mV_at av0 (by omega)]; exact congrFun (hsA 21 (by decide)) _) dX11_startsCompact_115 ?_
      refine kcM_v G (krV 5 rfl (As := [.int (nI wn), .int (nI p0), .int (mV av0 r), .int (mV av0 (48 + r)), .int (mV av0 (96 + r))]) (rest := []) (ci := 12) (CC := RX11) (T := TX11) (N := 61) C G pmN (c_X11_comes Z l h ad iv av wn (rn + r) (nI p0) (mV av0 r) (mV av0 (48 + r)) (mV av0 (96 + r)) hwn h47 (by omega) _) (gdV ml_X11_273 im_X11_comes se_X11_comes ii_X11 co_X11_comes) (by decide +kernel) ⟨Nat.le_of_ble_eq_true rfl, Nat.le_of_ble_eq_true rfl⟩ rfl 0 rfl hl rfl (Nat.le_of_ble_eq_true rfl) ⟨Nat.le_of_ble_eq_true rfl, Nat.le_of_ble_eq_true rfl⟩ dX11_startsCompact_116) (fun u H locs hu G => ?_)
      subst hu
      refine lv_iinc (v := nI (r + 1)) (lv' := [(4, .int (nI (r + 1))), (0, .ref h), (1, .int (nI wn)), (2, .int (nI k))]) hx hb dX11_startsCompact_119 hl (k := 0) rfl (nI_1 _) (by decide) rfl (fun ls hl => ?_)
      refine lv_goto (tgt := 70) hx hb dX11_startsCompact_122 (by decide) ?_
      exact ih (r + 1) (coA av wn (rn + r) (nI p0) (mV av0 r) (mV av0 (48 + r)) (mV av0 (96 + r))) (by omega) (hsA.co _ _ _ _ (by decide) (by decide) (by decide)) (hot.co (by omega) _ _ _ _) (by rw [rLn_s, ← List.append_assoc, shM_co]; exact so_s _ _ _ _ hso (by rw [List.length_append, ← hrn, rLn_len])) pk_us _ _ _ G (lv_sub hl [0, 1, 2, 3] rfl)
set_option maxRecDepth 100000 in
set_option maxHeartbeats 4000000 in
theorem lp_msc2 {p : Program} {l : Launch} {e : Env} {s : State} {m : MethodId} {args : Array Value} {below : List Frame} {meth : Method} {c : Code} {Z : zT} {A : Nat → Prop} {Q : State → Prop} {h : Nat} {ad : Nat → Nat} {iv0 : ivT} {av0 : avT} {ob : List obT} {F : flT} {wn : Nat} {pt : Int32} {RES : List r4T × List Int32} (C : cx p s m args meth c cX11_startsCompact 5 none RX11 "startsCompact") (hwn : wn < 4) (ho : mo_ok iv0 av0 ob) (hF : flS iv0 av0 F) (h41 : av0 41 wn = pt) (hrd : ∀ q ∈ F, q.2 = pt → ¬ mW ob q.1 q.2 = none) (kk : ∀ (iv : ivT) (av : avT) (rn : Nat) (R0 : List r4T) (rem : List Int32), sI [15, 16, 17, 18, 19, 20] iv0 iv → sA [14, 21, 22, 23, 24, 25, 45, 46, 47, 54, 55] av0 av → oth [14, 21, 22, 23, 24, 25] wn av0 av → (∀ i, fits .byte (.int (av 14 i)) = true) → so_at (shM av wn) R0 → rn = R0.length → av 47 wn = nI rn → rmM av wn rem →  rn ≤ 4800 → rem.length ≤ 100 → RES = (R0, rem) → ∀ (H : Heap) (locs : List Loc) (ls : Array Slot), wd Z A s (mdW Z h ad iv av) H locs → lv_has ls 5 [(0, .ref h), (1, .int (nI wn))] → W p l e ({ frames := 6, cells := 0, slots := 0, locals := 200 }) s m args below meth c H locs 0 0 Q (F0 m 131 ls [])) : ∀ (n k : Nat) (iv : ivT) (av : avT) (rn : Nat) (R0 : List r4T) (rem : List Int32), k + n = F.length → sI [15, 16, 17, 18, 19, 20] iv0 iv → sA [14, 21, 22, 23, 24, 25, 45, 46, 47, 54, 55] av0 av → oth [14, 21, 22, 23, 24, 25] wn av0 av → (∀ i, fits .byte (.int (av 14 i)) = true) → so_at (shM av wn) R0 → rn = R0.length → av 47 wn = nI rn → rmM av wn rem →  rn + 48 * ((F.drop k).countP (fun q => decide (q.2 = pt))) ≤ 4800 → rem.length + ((F.drop k).countP (fun q => decide (q.2 = pt))) ≤ 100 →  (F.drop k).foldl (cmS (mW ob) pt) (R0, rem) = RES → ∀ (H : Heap) (locs : List Loc) (ls : Array Slot), wd Z A s (mdW Z h ad iv av) H locs → lv_has ls 5 [(2, .int (nI k)), (0, .ref h), (1, .int (nI wn))] → W p l e ({ frames := 6, cells := 0, slots := 0, locals := 200 }) s m args below meth c H locs 0 0 Q (F0 m 2 ls []) := by
  have hx := C.1
  have hb := C.2.1
  have hown := C.2.2.2.2.2.1
  have hts := C.2.2.2.2.2.2.1
  have hfl := hF.2.2.1
  intro n
  induction n with
  | zero =>
    intro k iv av rn R0 rem hk hsI hsA hot hfv hso hrn h47 hrm hb1 hb3 hres H locs ls G hl
    have h30v : iv 30 = nI F.length := (hsI 30 (by decide)).trans hF.1
    have hok : mo_ok iv av ob := ho.same hsI hsA (by decide) (by decide) (by decide) (by decide) (by decide) (by decide)
    have e31 : av 31 = av0 31 := hsA 31 (by decide)
    have e32 : av 32 = av0 32 := hsA 32 (by decide)
    refine lv_iload_n hx hb dX11_startsCompact_2 rfl (lv_at hl 0 rfl) ?_
    refine lv_aload_n hx hb dX11_startsCompact_3 rfl (lv_at hl 1 rfl) ?_
    refine k_mgi (v := nI F.length) C G 30 (by decide) mr_30 h30v fl_X11_245 rfl dX11_startsCompact_4 ?_
    refine lv_icmp_ge (tgt := 131) hx hb dX11_startsCompact_7 (by decide) (fun c_7 => ?_) (fun c_7 => ?_)
    · have n_7 := nb_le (a := F.length) (b := k) c_7 (by omega) (by omega)
      exact kk iv av rn R0 rem hsI hsA hot hfv hso hrn h47 hrm (by omega) (by omega) (by rw [← hres, List.drop_eq_nil_of_le (by omega)]; rfl) _ _ _ G (lv_sub hl [1, 2] rfl)
    · exact absurd (nb_nle (a := F.length) (b := k) c_7 (by omega) (by omega)) (by omega)
  | succ n ih =>
    intro k iv av rn R0 rem hk hsI hsA hot hfv hso hrn h47 hrm hb1 hb3 hres H locs ls G hl
    have h30v : iv 30 = nI F.length := (hsI 30 (by decide)).trans hF.1
    have hok : mo_ok iv av ob := ho.same hsI hsA (by decide) (by decide) (by decide) (by decide) (by decide) (by decide)
    have e31 : av 31 = av0 31 := hsA 31 (by decide)
    have e32 : av 32 = av0 32 := hsA 32 (by decide)
    have hfk := flget hF (show k < F.length by omega)
    have hmem : (av0 31 k, av0 32 k) ∈ F := List.mem_of_mem_drop (hfk ▸ List.mem_cons_self)
    refine lv_iload_n hx hb dX11_startsCompact_2 rfl (lv_at hl 0 rfl) ?_
    refine lv_aload_n hx hb dX11_startsCompact_3 rfl (lv_at hl 1 rfl) ?_
    refine k_mgi (v := nI F.length) C G 30 (by decide) mr_30 h30v fl_X11_245 rfl dX11_startsCompact_4 ?_
    refine lv_icmp_ge (tgt := 131) hx hb dX11_startsCompact_7 (by decide) (fun c_7 => ?_) (fun c_7 => ?_)
    · exact absurd (nb_le (a := F.length) (b := k) c_7 (by omega) (by omega)) (by omega)
    · have n_7 := nb_nle (a := F.length) (b := k) c_7 (by omega) (by omega)
      refine lv_aload_n hx hb dX11_startsCompact_10 rfl (lv_at hl 1 rfl) ?_
      refine k_mga C G 32 (by decide) mr_32 fl_X11_62 rfl dX11_startsCompact_11 ?_
      refine lv_iload_n hx hb dX11_startsCompact_14 rfl (lv_at hl 0 rfl) ?_
      refine k_mil (v := (av 32) k) (i := k) C G 14 (k := 32) (n := 260) mp_32 (by decide) (by omega) rfl dX11_startsCompact_15 ?_
      refine lv_aload_n hx hb dX11_startsCompact_16 rfl (lv_at hl 1 rfl) ?_
      refine k_mga C G 41 (by decide) mr_41 fl_X11_89 rfl dX11_startsCompact_17 ?_
      refine lv_iload_n hx hb dX11_startsCompact_20 rfl (lv_at hl 2 rfl) ?_
      refine k_mil (v := pt) (i := wn) C G 23 (k := 41) (n := 4) mp_41 (by decide) (by omega) (by rw [hsA 41 (by decide)]; exact h41) dX11_startsCompact_21 ?_
      refine lv_icmp_eq (tgt := 28) hx hb dX11_startsCompact_22 (by decide) (fun c_22 => ?_) (fun c_22 => ?_)
      · refine lv_aload_n hx hb dX11_startsCompact_28 rfl (lv_at hl 1 rfl) ?_
        refine lv_iload_n hx hb dX11_startsCompact_29 rfl (lv_at hl 0 rfl) ?_
        refine kcM_i G (krV 1 rfl (As := [.int (nI k)]) (rest := []) (ci := 12) (CC := RX11) (T := TX11) (N := 61) C G pmN (c_X11_readFile Z l h ad iv av ob k (av0 31 k) (av0 32 k) hok (by omega) (congrFun e31 k) (congrFun e32 k) hfv _) (gdV ml_X11_286 im_X11_readFile se_X11_readFile ii_X11 co_X11_readFile) (by decide +kernel) ⟨Nat.le_of_ble_eq_true rfl, Nat.le_of_ble_eq_true rfl⟩ rfl 0 rfl hl rfl (Nat.le_of_ble_eq_true rfl) ⟨Nat.le_of_ble_eq_true rfl, Nat.le_of_ble_eq_true rfl⟩ dX11_startsCompact_30) (fun r_30 u H locs hu G => ?_)
        obtain ⟨iv1_, av1_, rfl, hs1, ha1, hf1, hcs1⟩ := hu
        have hpt : av0 32 k = pt := (congrFun e32 k).symm.trans c_22
        obtain ⟨r_30_e, p0, N, hp8, hN1, hN48, h19, h20, hmw, hbd⟩ := hcs1.resolve_right (fun z => hrd _ hmem hpt z.2)
        subst r_30_e
        have hn1 := cnt_y hfk hpt
        have h47v : av1_ 47 wn = nI rn := by rw [ha1 47 (by decide)]; exact h47
        have h54v : av1_ 54 wn = nI rem.length := by rw [ha1 54 (by decide)]; exact hrm.1
        have f31 : av1_ 31 k = av0 31 k := by rw [ha1 31 (by decide), e31]
        refine lv_istore_n (lv' := [(3, .int 1), (2, .int (nI k)), (0, .ref h), (1, .int (nI wn))]) hx hb dX11_startsCompact_33 rfl hl (by decide) rfl (fun ls hl => ?_)
        refine lv_aload_n hx hb dX11_startsCompact_34 rfl (lv_at hl 2 rfl) ?_
        refine k_mga C G 55 (by decide) mr_55 fl_X11_132 rfl dX11_startsCompact_35 ?_
        refine lv_sipush (v := 200) hx hb dX11_startsCompact_38 (by decide) ?_
        refine lv_iload_n hx hb dX11_startsCompact_41 rfl (lv_at hl 3 rfl) ?_
        refine lv_imul hx hb dX11_startsCompact_42 ?_
        refine k_topi (y := nI (200 * wn)) (pk_mul 200 wn) ?_
        refine lv_aload_n hx hb dX11_startsCompact_43 rfl (lv_at hl 2 rfl) ?_
        refine k_mga C G 54 (by decide) mr_54 fl_X11_129 rfl dX11_startsCompact_44 ?_
        refine lv_iload_n hx hb dX11_startsCompact_47 rfl (lv_at hl 3 rfl) ?_
        refine k_mil (v := nI rem.length) (i := wn) C G 36 (k := 54) (n := 4) mp_54 (by decide) (by omega) h54v dX11_startsCompact_48 ?_
        refine lv_iadd hx hb dX11_startsCompact_49 ?_
        refine k_topi (y := nI (200 * wn + rem.length)) (nI_add (200 * wn) rem.length) ?_
        refine lv_aload_n hx hb dX11_startsCompact_50 rfl (lv_at hl 2 rfl) ?_
        refine k_mga C G 31 (by decide) mr_31 fl_X11_59 rfl dX11_startsCompact_51 ?_
        refine lv_iload_n hx hb dX11_startsCompact_54 rfl (lv_at hl 1 rfl) ?_
        refine k_mil (v := (av1_ 31) k) (i := k) C G 13 (k := 31) (n := 260) mp_31 (by decide) (by omega) rfl dX11_startsCompact_55 ?_
        refine k_mis (x := (av1_ 31) k) (i := 200 * wn + rem.length) C G 37 (k := 55) (n := 800) mp_55 (by decide) (by omega) dX11_startsCompact_56 (fun H locs (G : wd Z A s (mdW Z h ad iv1_ (ua av1_ 55 (upd (av1_ 55) (200 * wn + rem.length) ((av1_ 31) k)))) H locs) => ?_)
        refine lv_aload_n hx hb dX11_startsCompact_57 rfl (lv_at hl 2 rfl) ?_
        refine k_mga C G 54 (by decide) mr_54 fl_X11_129 rfl dX11_startsCompact_58 ?_
        refine lv_iload_n hx hb dX11_startsCompact_61 rfl (lv_at hl 3 rfl) ?_
        refine lv_dup2_11 hx hb dX11_startsCompact_62 rfl rfl ?_
        refine k_mil (v := nI rem.length) (i := wn) C G 36 (k := 54) (n := 4) mp_54 (by decide) (by omega) h54v dX11_startsCompact_63 ?_
        refine lv_iconst (v := 1) hx hb dX11_startsCompact_64 (by decide) ?_
        refine lv_iadd hx hb dX11_startsCompact_65 ?_
        refine k_topi (y := nI (rem.length + 1)) (nI_add rem.length 1) ?_
        refine k_mis (x := nI (rem.length + 1)) (i := wn) C G 36 (k := 54) (n := 4) mp_54 (by decide) (by omega) dX11_startsCompact_66 (fun H locs (G : wd Z A s (mdW Z h ad iv1_ (ua (ua av1_ 55 (upd (av1_ 55) (200 * wn + rem.length) ((av1_ 31) k))) 54 (upd (av1_ 54) wn (nI (rem.length + 1))))) H locs) => ?_)
        refine lv_iconst (v := 0) hx hb dX11_startsCompact_67 (by decide) ?_
        refine k_topi (y := nI 0) (by rfl) ?_
        refine lv_istore (lv' := [(4, .int (nI 0)), (3, .int 1), (2, .int (nI k)), (0, .ref h), (1, .int (nI wn))]) hx hb dX11_startsCompact_68 hl (by decide) rfl (fun ls hl => ?_)
        have hsoA : so_at (shM (ua (ua av1_ 55 (upd (av1_ 55) (200 * wn + rem.length) ((av1_ 31) k))) 54 (upd (av1_ 54) wn (nI (rem.length + 1)))) wn) R0 := by show so_at (shM av1_ wn) R0; rw [shM_same (ha1 45 (by decide))]; exact hso
        refine lp_msc1 (av0 := (ua (ua av1_ 55 (upd (av1_ 55) (200 * wn + rem.length) ((av1_ 31) k))) 54 (upd (av1_ 54) wn (nI (rem.length + 1))))) (k := k) (R0 := R0) (p0 := p0) C hwn h20 hN48 h19 hrn (by omega) (fun av2 hsA2 hot2 hso2 h47w H locs ls G hl => ?_) N 0 _ (by omega) sA.rf oth.rf (by rw [show rLn (nI p0) (mV (ua (ua av1_ 55 (upd (av1_ 55) (200 * wn + rem.length) ((av1_ 31) k))) 54 (upd (av1_ 54) wn (nI (rem.length + 1))))) 0 = [] from rfl, List.append_nil]; exact hsoA) h47v _ _ _ G (lv_sub hl [0, 3, 4, 2] rfl)
        replace hso2 : so_at (shM av2 wn) (R0 ++ rLn (nI p0) (mV av1_) N) := hso2
        have hrm2 : rmM av2 wn (rem ++ [av0 31 k]) := rmM_same (rmM_s (av := av1_) (av2 := (ua (ua av1_ 55 (upd (av1_ 55) (200 * wn + rem.length) ((av1_ 31) k))) 54 (upd (av1_ 54) wn (nI (rem.length + 1))))) (rmM_same hrm (ha1 54 (by decide)) (ha1 55 (by decide))) rfl rfl (by rw [← f31]; rfl)) (hsA2 54 (by decide)) (hsA2 55 (by decide))
        have hA2 : sA [14, 21, 22, 23, 24, 25, 45, 46, 47, 54, 55] av0 av2 := ((((hsA.tr (ha1.mo (by decide)) (fun j hj => hj)).up (by decide) _).up (by decide) _).tr hsA2 (by decide) : sA _ av0 av2)
        have hO2 : oth [14, 21, 22, 23, 24, 25] wn av0 av2 := ((((hot.tr (oth.of ha1) (by decide)).up 55 _ rfl (by simp only [oz]; omega)).up 54 _ rfl (by simp only [oz]; omega)).tr hot2 (by decide) : oth _ wn av0 av2)
        have hF2 : ∀ i, fits .byte (.int (av2 14 i)) = true := by rw [hsA2 14 (by decide)]; exact hf1
        refine lv_iinc (v := nI (k + 1)) (lv' := [(2, .int (nI (k + 1))), (0, .ref h), (1, .int (nI wn))]) hx hb dX11_startsCompact_125 hl (k := 2) rfl (nI_1 _) (by decide) rfl (fun ls hl => ?_)
        refine lv_goto (tgt := 2) hx hb dX11_startsCompact_128 (by decide) ?_
        exact ih (k + 1) iv1_ av2 (rn + N) (R0 ++ rLn (nI p0) (mV av1_) N) (rem ++ [av0 31 k]) (by omega) (hsI.tr hs1 (by decide)) hA2 hO2 hF2 hso2 (by rw [List.length_append, rLn_len, ← hrn]) h47w hrm2 (by omega) (by rw [List.length_append]; show rem.length + 1 + _ ≤ 100; omega) (by rw [← hres, hfk]; show List.foldl _ _ _ = List.foldl _ (cmS (mW ob) pt (R0, rem) (av0 31 k, av0 32 k)) _; rw [cmS_y hpt hmw, rL_of]) _ _ _ G (lv_sub hl [0, 1, 2] rfl)
      · refine lv_goto (tgt := 125) hx hb dX11_startsCompact_25 (by decide) ?_
        refine lv_iinc (v := nI (k + 1)) (lv' := [(2, .int (nI (k + 1))), (0, .ref h), (1, .int (nI wn))]) hx hb dX11_startsCompact_125 hl (k := 0) rfl (nI_1 _) (by decide) rfl (fun ls hl => ?_)
        refine lv_goto (tgt := 2) hx hb dX11_startsCompact_128 (by decide) ?_
        have hpt : ¬ av0 32 k = pt := fun z => c_22 ((congrFun e32 k).trans z)
        have hn1 := cnt_n hfk hpt
        exact ih (k + 1) iv av rn R0 rem (by omega) hsI hsA hot hfv hso hrn h47 hrm (by omega) (by omega) (by rw [← hres, hfk]; show List.foldl _ _ _ = List.foldl _ (cmS (mW ob) pt (R0, rem) (av0 31 k, av0 32 k)) _; rw [cmS_o hpt]) _ _ _ G (lv_sub hl [0, 1, 2] rfl)
set_option maxRecDepth 100000 in
set_option maxHeartbeats 4000000 in
theorem lp_msc3 {p : Program} {l : Launch} {e : Env} {s : State} {m : MethodId} {args : Array Value} {below : List Frame} {meth : Method} {c : Code} {Z : zT} {A : Nat → Prop} {h : Nat} {ad : Nat → Nat} {iv : ivT} {av0 : avT} {wn rn : Nat} {pt : Int32} {R0 : List r4T} {post : va_W → Prop} (C : cx p s m args meth c cX11_startsCompact 5 none RX11 "startsCompact") (hwn : wn < 4) (hso : so_at (shM av0 wn) R0) (hrn : rn = R0.length) (hr4 : rn ≤ 4800) (h41 : av0 41 wn = pt) (h47 : av0 47 wn = nI rn) (hp : ∀ (av : avT), sA [48, 49, 50, 51] av0 av → oth [] wn av0 av → plG (shM av0 wn) 4800 av wn (ch48 pt R0 ((rn + 47) / 48)) →  post (mdW Z h ad iv av)) : ∀ (n j i0 : Nat) (av : avT), (rn + 47) / 48 = j + n → i0 = 48 * j → sA [48, 49, 50, 51] av0 av → oth [] wn av0 av → plG (shM av0 wn) 4800 av wn (ch48 pt R0 j) →  ∀ (H : Heap) (locs : List Loc) (ls : Array Slot), wd Z A s (mdW Z h ad iv av) H locs → lv_has ls 5 [(2, .int (nI i0)), (0, .ref h), (1, .int (nI wn))] → W p l e ({ frames := 6, cells := 0, slots := 0, locals := 200 }) s m args below meth c H locs 0 0 (MQ below (va_Qv post (mB Z A) A) args s 0 0 A) (F0 m 133 ls []) := by
  have hx := C.1
  have hb := C.2.1
  have hown := C.2.2.2.2.2.1
  have hts := C.2.2.2.2.2.2.1
  intro n
  induction n with
  | zero =>
    intro j i0 av hj0 hi0 hsA hot hpl H locs ls G hl
    have h47v : av 47 wn = nI rn := by rw [hsA 47 (by decide)]; exact h47
    have h41v : av 41 wn = pt := by rw [hsA 41 (by decide)]; exact h41
    have h48v : av 48 wn = nI j := by have h9 := hpl.1; rw [ch48_len] at h9; exact h9
    have hch : ((R0.drop (48 * j)).take 48).length = min 48 (rn - 48 * j) := by rw [List.length_take, List.length_drop, ← hrn]
    refine lv_iload_n hx hb dX11_startsCompact_133 rfl (lv_at hl 0 rfl) ?_
    refine lv_aload_n hx hb dX11_startsCompact_134 rfl (lv_at hl 1 rfl) ?_
    refine k_mga C G 47 (by decide) mr_47 fl_X11_108 rfl dX11_startsCompact_135 ?_
    refine lv_iload_n hx hb dX11_startsCompact_138 rfl (lv_at hl 2 rfl) ?_
    refine k_mil (v := nI rn) (i := wn) C G 29 (k := 47) (n := 4) mp_47 (by decide) (by omega) h47v dX11_startsCompact_139 ?_
    refine lv_icmp_ge (tgt := 187) hx hb dX11_startsCompact_140 (by decide) (fun c_140 => ?_) (fun c_140 => ?_)
    · have n_140 := nb_le (a := rn) (b := i0) c_140 (by omega) (by omega)
      have hj : j = (rn + 47) / 48 := by omega
      subst hj
      exact kr_v C G (hp av hsA hot hpl) (Nat.le_of_ble_eq_true rfl) (Nat.le_of_ble_eq_true rfl) dX11_startsCompact_187
    · exact absurd (nb_nle (a := rn) (b := i0) c_140 (by omega) (by omega)) (by omega)
  | succ n ih =>
    intro j i0 av hj0 hi0 hsA hot hpl H locs ls G hl
    have h47v : av 47 wn = nI rn := by rw [hsA 47 (by decide)]; exact h47
    have h41v : av 41 wn = pt := by rw [hsA 41 (by decide)]; exact h41
    have h48v : av 48 wn = nI j := by have h9 := hpl.1; rw [ch48_len] at h9; exact h9
    have hch : ((R0.drop (48 * j)).take 48).length = min 48 (rn - 48 * j) := by rw [List.length_take, List.length_drop, ← hrn]
    refine lv_iload_n hx hb dX11_startsCompact_133 rfl (lv_at hl 0 rfl) ?_
    refine lv_aload_n hx hb dX11_startsCompact_134 rfl (lv_at hl 1 rfl) ?_
    refine k_mga C G 47 (by decide) mr_47 fl_X11_108 rfl dX11_startsCompact_135 ?_
    refine lv_iload_n hx hb dX11_startsCompact_138 rfl (lv_at hl 2 rfl) ?_
    refine k_mil (v := nI rn) (i := wn) C G 29 (k := 47) (n := 4) mp_47 (by decide) (by omega) h47v dX11_startsCompact_139 ?_
    refine lv_icmp_ge (tgt := 187) hx hb dX11_startsCompact_140 (by decide) (fun c_140 => ?_) (fun c_140 => ?_)
    · exact absurd (nb_le (a := rn) (b := i0) c_140 (by omega) (by omega)) (by omega)
    · have n_140 := nb_nle (a := rn) (b := i0) c_140 (by omega) (by omega)
      refine lv_aload_n hx hb dX11_startsCompact_143 rfl (lv_at hl 1 rfl) ?_
      refine lv_iload_n hx hb dX11_startsCompact_144 rfl (lv_at hl 2 rfl) ?_
      refine lv_aload_n hx hb dX11_startsCompact_145 rfl (lv_at hl 1 rfl) ?_
      refine k_mga C G 41 (by decide) mr_41 fl_X11_89 rfl dX11_startsCompact_146 ?_
      refine lv_iload_n hx hb dX11_startsCompact_149 rfl (lv_at hl 2 rfl) ?_
      refine k_mil (v := pt) (i := wn) C G 23 (k := 41) (n := 4) mp_41 (by decide) (by omega) h41v dX11_startsCompact_150 ?_
      refine lv_iload_n hx hb dX11_startsCompact_151 rfl (lv_at hl 0 rfl) ?_
      refine lv_aload_n hx hb dX11_startsCompact_152 rfl (lv_at hl 1 rfl) ?_
      refine k_mga C G 47 (by decide) mr_47 fl_X11_108 rfl dX11_startsCompact_153 ?_
      refine lv_iload_n hx hb dX11_startsCompact_156 rfl (lv_at hl 2 rfl) ?_
      refine k_mil (v := nI rn) (i := wn) C G 29 (k := 47) (n := 4) mp_47 (by decide) (by omega) h47v dX11_startsCompact_157 ?_
      refine lv_iload_n hx hb dX11_startsCompact_158 rfl (lv_at hl 0 rfl) ?_
      refine lv_isub hx hb dX11_startsCompact_159 ?_
      refine k_topi (y := nI (rn - i0)) (pk_sub (a := rn) (b := i0) (by omega)) ?_
      refine lv_bipush (v := 48) hx hb dX11_startsCompact_160 (by decide) ?_
      refine lv_icmp_ge (tgt := 176) hx hb dX11_startsCompact_162 (by decide) (fun c_162 => ?_) (fun c_162 => ?_)
      · have n_162 := nb_le (a := 48) (b := rn - i0) c_162 (by omega) (by omega)
        refine lv_bipush (v := 48) hx hb dX11_startsCompact_176 (by decide) ?_
        refine k_topi (y := nI 48) (by rfl) ?_
        refine kcM_v G (krV 4 rfl (As := [.int (nI wn), .int pt, .int (nI i0), .int (nI 48)]) (rest := []) (ci := 12) (CC := RX11) (T := TX11) (N := 61) C G pmN (c_X11_adds Z l h ad iv av wn j pt (nI i0) (nI (48)) hwn h48v (by omega) _) (gdV ml_X11_298 im_X11_adds se_X11_adds ii_X11 co_X11_adds) (by decide +kernel) ⟨Nat.le_of_ble_eq_true rfl, Nat.le_of_ble_eq_true rfl⟩ rfl 0 rfl hl rfl (Nat.le_of_ble_eq_true rfl) ⟨Nat.le_of_ble_eq_true rfl, Nat.le_of_ble_eq_true rfl⟩ dX11_startsCompact_178) (fun u H locs hu G => ?_)
        subst hu
        refine lv_iinc (v := nI (i0 + 48)) (lv' := [(2, .int (nI (i0 + 48))), (0, .ref h), (1, .int (nI wn))]) hx hb dX11_startsCompact_181 hl (k := 0) rfl (nI_add _ 48) (by decide) rfl (fun ls hl => ?_)
        refine lv_goto (tgt := 133) hx hb dX11_startsCompact_184 (by decide) ?_
        have hpa := plG_add (S := R0.take i0) (G := (R0.drop (48 * j)).take 48) (fi := i0) (N := 48) (b2 := 4800) pt hpl (Nat.le_refl _) (by rw [hi0, take_48]; exact so_take hso _) (by omega) (by omega) (by rw [List.length_take]; omega) (by rw [List.length_take]; omega) (by omega)
        rw [ch48_len, ← ch48_s] at hpa
        exact ih (j + 1) (i0 + 48) _ (by omega) (by omega) (hsA.ad _ _ _ (by decide) (by decide) (by decide) (by decide)) (hot.ad (by omega) _ _ _) hpa _ _ _ G (lv_sub hl [0, 1, 2] rfl)
      · have n_162 := nb_nle (a := 48) (b := rn - i0) c_162 (by omega) (by omega)
        refine lv_aload_n hx hb dX11_startsCompact_165 rfl (lv_at hl 1 rfl) ?_
        refine k_mga C G 47 (by decide) mr_47 fl_X11_108 rfl dX11_startsCompact_166 ?_
        refine lv_iload_n hx hb dX11_startsCompact_169 rfl (lv_at hl 2 rfl) ?_
        refine k_mil (v := nI rn) (i := wn) C G 29 (k := 47) (n := 4) mp_47 (by decide) (by omega) h47v dX11_startsCompact_170 ?_
        refine lv_iload_n hx hb dX11_startsCompact_171 rfl (lv_at hl 0 rfl) ?_
        refine lv_isub hx hb dX11_startsCompact_172 ?_
        refine k_topi (y := nI (rn - i0)) (pk_sub (a := rn) (b := i0) (by omega)) ?_
        refine lv_goto (tgt := 178) hx hb dX11_startsCompact_173 (by decide) ?_
        refine kcM_v G (krV 4 rfl (As := [.int (nI wn), .int pt, .int (nI i0), .int (nI (rn - i0))]) (rest := []) (ci := 12) (CC := RX11) (T := TX11) (N := 61) C G pmN (c_X11_adds Z l h ad iv av wn j pt (nI i0) (nI (rn - i0)) hwn h48v (by omega) _) (gdV ml_X11_298 im_X11_adds se_X11_adds ii_X11 co_X11_adds) (by decide +kernel) ⟨Nat.le_of_ble_eq_true rfl, Nat.le_of_ble_eq_true rfl⟩ rfl 0 rfl hl rfl (Nat.le_of_ble_eq_true rfl) ⟨Nat.le_of_ble_eq_true rfl, Nat.le_of_ble_eq_true rfl⟩ dX11_startsCompact_178) (fun u H locs hu G => ?_)
        subst hu
        refine lv_iinc (v := nI (i0 + 48)) (lv' := [(2, .int (nI (i0 + 48))), (0, .ref h), (1, .int (nI wn))]) hx hb dX11_startsCompact_181 hl (k := 0) rfl (nI_add _ 48) (by decide) rfl (fun ls hl => ?_)
        refine lv_goto (tgt := 133) hx hb dX11_startsCompact_184 (by decide) ?_
        have hpa := plG_add (S := R0.take i0) (G := (R0.drop (48 * j)).take 48) (fi := i0) (N := rn - i0) (b2 := 4800) pt hpl (Nat.le_refl _) (by rw [hi0, take_48]; exact so_take hso _) (by omega) (by omega) (by rw [List.length_take]; omega) (by rw [List.length_take]; omega) (by omega)
        rw [ch48_len, ← ch48_s] at hpa
        exact ih (j + 1) (i0 + 48) _ (by omega) (by omega) (hsA.ad _ _ _ (by decide) (by decide) (by decide) (by decide)) (hot.ad (by omega) _ _ _) hpa _ _ _ G (lv_sub hl [0, 1, 2] rfl)
set_option maxRecDepth 100000 in
set_option maxHeartbeats 4000000 in
theorem c_X11_startsCompact (Z : zT) (l : Launch) (h : Nat) (ad : Nat → Nat) (iv : ivT) (av : avT) (wn : Nat) (ob : List obT) (F : flT) (pt : Int32) (hwn : wn < 4) (ho : mo_ok iv av ob) (hF : flS iv av F) (h41 : av 41 wn = pt) (hrd : ∀ q ∈ F, q.2 = pt → ¬ mW ob q.1 q.2 = none) (hf14 : ∀ i, fits .byte (.int (av 14 i)) = true) (h47 : av 47 wn = 0) (h48 : av 48 wn = 0) (h54 : av 54 wn = 0) (hcp : F.countP (fun q => decide (q.2 = pt)) ≤ 100) : Kv Z l yX11_startsCompact cX11_startsCompact 5 none ({ frames := 6, cells := 0, slots := 0, locals := 200 }) [.ref h, .int (nI wn)] (mdW Z h ad iv av) (fun u => ∃ (iv2 : ivT) (av2 : avT) (R0 : List r4T) (rem : List Int32), u = mdW Z h ad iv2 av2 ∧ sI [15, 16, 17, 18, 19, 20] iv iv2 ∧ sA [14, 21, 22, 23, 24, 25, 45, 46, 47, 48, 49, 50, 51, 54, 55] av av2 ∧ oth [14, 21, 22, 23, 24, 25] wn av av2 ∧ (∀ i, fits .byte (.int (av2 14 i)) = true) ∧ plM av2 wn (ch48 pt R0 ((R0.length + 47) / 48)) ∧ rmM av2 wn rem ∧ R0.length ≤ 4800 ∧ rem.length ≤ 100 ∧ F.foldl (cmS (mW ob) pt) ([], []) = (R0, rem)) := by
  intro sz
  refine Met.ofK (cc := cX11_startsCompact) (maxL := 5) (ret := none) (by decide) (Nat.le_of_ble_eq_true rfl) ?_
  intro p e s m below meth c ls C G hl
  generalize va_A _ sz = A at G ⊢
  have hx := C.1
  have hb := C.2.1
  have hown := C.2.2.2.2.2.1
  have hts := C.2.2.2.2.2.2.1
  refine lv_iconst (v := 0) hx hb dX11_startsCompact_0 (by decide) ?_
  refine k_topi (y := nI 0) (by rfl) ?_
  refine lv_istore_n (lv' := [(2, .int (nI 0)), (0, .ref h), (1, .int (nI wn))]) hx hb dX11_startsCompact_1 rfl hl (by decide) rfl (fun ls hl => ?_)
  refine lp_msc2 (iv0 := iv) (av0 := av) (RES := F.foldl (cmS (mW ob) pt) ([], [])) C hwn ho hF h41 hrd (fun iv2 av2 rn R0 rem a1 a2 a3 a4 a5 a6 a7 a9 b1 b3 b4 H locs ls G hl => ?_) F.length 0 iv av 0 [] [] (by omega) sI.rf sA.rf oth.rf hf14 (so_0 _) rfl h47 (rmM_0 h54) (by rw [List.drop_zero]; omega) (by rw [List.drop_zero]; show 0 + _ ≤ 100; omega) (by rw [List.drop_zero]) _ _ _ G (lv_sub hl [0, 1, 2] rfl)
  refine lv_iconst (v := 0) hx hb dX11_startsCompact_131 (by decide) ?_
  refine k_topi (y := nI 0) (by rfl) ?_
  refine lv_istore_n (lv' := [(2, .int (nI 0)), (0, .ref h), (1, .int (nI wn))]) hx hb dX11_startsCompact_132 rfl hl (by decide) rfl (fun ls hl => ?_)
  subst a6
  exact lp_msc3 (av0 := av2) (R0 := R0) C hwn a5 rfl b1 (by rw [a2 41 (by decide)]; exact h41) a7 (fun av3 d1 d2 d3 => ⟨iv2, av3, R0, rem, rfl, a1, (a2.mo (by decide)).tr d1 (by decide), a3.tr d2 (by decide), by rw [d1 14 (by decide)]; exact a4, plG_cong d3 (Nat.le_refl _) (fun _ _ => by show av3 45 _ = av2 45 _; rw [d1 45 (by decide)]) rfl rfl rfl rfl, rmM_same a9 (d1 54 (by decide)) (d1 55 (by decide)), b1, b3, b4⟩) ((R0.length + 47) / 48) 0 0 av2 (by omega) rfl sA.rf oth.rf (plG_0 (by rw [a2 48 (by decide)]; exact h48)) _ _ _ G (lv_sub hl [0, 1, 2] rfl)
