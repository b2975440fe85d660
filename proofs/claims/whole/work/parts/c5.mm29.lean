/-! MODEL (X11): start. -/
set_option maxRecDepth 100000 in
set_option maxHeartbeats 4000000 in
theorem lp_mst {p : Program} {l : Launch} {e : Env} {s : State} {m : MethodId} {args : Array Value} {below : List Frame} {meth : Method} {c : Code} {Z : zT} {A : Nat → Prop} {h : Nat} {ad : Nat → Nat} {iv0 : ivT} {av0 : avT} {ob : List obT} {F : flT} {wn : Nat} {ki pt fa : Int32} {post : Int32 → va_W → Prop} (C : cx p s m args meth c cX11_start 4 (some .int) RX11 "start") (hwn : wn < 4) (ho : mo_ok iv0 av0 ob) (hF : flS iv0 av0 F) (h11 : iv0 11 = fa) (h35 : av0 35 wn = ki) (h41 : av0 41 wn = pt) (hpf : ∀ (iv : ivT) (av : avT), sI [15, 16, 17, 18, 19, 20] iv0 iv → sA [14, 21, 22, 23, 24, 25, 57] av0 av → oth [14, 21, 22, 23, 24, 25] wn av0 av → (∀ i, fits .byte (.int (av 14 i)) = true) → hurt (mW ob) F ki pt → post (-4) (mdW Z h ad (upd iv 11 (fa + 1)) (ua av 33 (upd (av 33) wn 0)))) (kk : ∀ (ct : Nat) (iv : ivT) (av : avT), sI [15, 16, 17, 18, 19, 20] iv0 iv → sA [14, 21, 22, 23, 24, 25, 57] av0 av → oth [14, 21, 22, 23, 24, 25] wn av0 av → (∀ i, fits .byte (.int (av 14 i)) = true) → (∀ j, j < F.length → av 57 (200 * wn + j) = av0 31 j) → ct = (if ki = 0 then 0 else (F.take F.length).countP (fun q => decide (q.2 = pt))) → (¬ ki = 0 → ∀ q ∈ F.take F.length, q.2 = pt → ¬ mW ob q.1 q.2 = none) →  ∀ (H : Heap) (locs : List Loc) (ls : Array Slot), wd Z A s (mdW Z h ad iv av) H locs → lv_has ls 4 [(2, .int (nI ct)), (0, .ref h), (1, .int (nI wn))] → W p l e ({ frames := 7, cells := 0, slots := 0, locals := 230 }) s m args below meth c H locs 0 0 (MQ below (va_Qi post (mB Z A) A) args s 0 0 A) (F0 m 128 ls [])) : ∀ (n k ct : Nat) (iv : ivT) (av : avT), k + n = F.length → sI [15, 16, 17, 18, 19, 20] iv0 iv → sA [14, 21, 22, 23, 24, 25, 57] av0 av → oth [14, 21, 22, 23, 24, 25] wn av0 av → (∀ i, fits .byte (.int (av 14 i)) = true) → (∀ j, j < k → av 57 (200 * wn + j) = av0 31 j) → ct = (if ki = 0 then 0 else (F.take k).countP (fun q => decide (q.2 = pt))) → (¬ ki = 0 → ∀ q ∈ F.take k, q.2 = pt → ¬ mW ob q.1 q.2 = none) →  ∀ (H : Heap) (locs : List Loc) (ls : Array Slot), wd Z A s (mdW Z h ad iv av) H locs → lv_has ls 4 [(3, .int (nI k)), (2, .int (nI ct)), (0, .ref h), (1, .int (nI wn))] → W p l e ({ frames := 7, cells := 0, slots := 0, locals := 230 }) s m args below meth c H locs 0 0 (MQ below (va_Qi post (mB Z A) A) args s 0 0 A) (F0 m 51 ls []) := by
  have hx := C.1
  have hb := C.2.1
  have hown := C.2.2.2.2.2.1
  have hts := C.2.2.2.2.2.2.1
  have hfl := hF.2.2.1
  intro n
  induction n with
  | zero =>
    intro k ct iv av hk hsI hsA hot hfv h57 hct hrd H locs ls G hl
    have h30v : iv 30 = nI F.length := (hsI 30 (by decide)).trans hF.1
    have hok : mo_ok iv av ob := ho.same hsI hsA (by decide) (by decide) (by decide) (by decide) (by decide) (by decide)
    have e31 : av 31 = av0 31 := hsA 31 (by decide)
    have e32 : av 32 = av0 32 := hsA 32 (by decide)
    have h35v : av 35 wn = ki := by rw [hsA 35 (by decide)]; exact h35
    have h41v : av 41 wn = pt := by rw [hsA 41 (by decide)]; exact h41
    refine lv_iload_n hx hb dX11_start_51 rfl (lv_at hl 0 rfl) ?_
    refine lv_aload_n hx hb dX11_start_52 rfl (lv_at hl 2 rfl) ?_
    refine k_mgi (v := nI F.length) C G 30 (by decide) mr_30 h30v fl_X11_245 rfl dX11_start_53 ?_
    refine lv_icmp_ge (tgt := 128) hx hb dX11_start_56 (by decide) (fun c_56 => ?_) (fun c_56 => ?_)
    · have n_56 := nb_le (a := F.length) (b := k) c_56 (by omega) (by omega)
      have hkF : k = F.length := by omega
      subst hkF
      exact kk ct iv av hsI hsA hot hfv h57 hct hrd _ _ _ G (lv_sub hl [1, 2, 3] rfl)
    · exact absurd (nb_nle (a := F.length) (b := k) c_56 (by omega) (by omega)) (by omega)
  | succ n ih =>
    intro k ct iv av hk hsI hsA hot hfv h57 hct hrd H locs ls G hl
    have h30v : iv 30 = nI F.length := (hsI 30 (by decide)).trans hF.1
    have hok : mo_ok iv av ob := ho.same hsI hsA (by decide) (by decide) (by decide) (by decide) (by decide) (by decide)
    have e31 : av 31 = av0 31 := hsA 31 (by decide)
    have e32 : av 32 = av0 32 := hsA 32 (by decide)
    have h35v : av 35 wn = ki := by rw [hsA 35 (by decide)]; exact h35
    have h41v : av 41 wn = pt := by rw [hsA 41 (by decide)]; exact h41
    have hget := flS_get hF (show k < F.length by omega)
    have hmem : (av0 31 k, av0 32 k) ∈ F := List.mem_of_getElem? hget
    refine lv_iload_n hx hb dX11_start_51 rfl (lv_at hl 0 rfl) ?_
    refine lv_aload_n hx hb dX11_start_52 rfl (lv_at hl 2 rfl) ?_
    refine k_mgi (v := nI F.length) C G 30 (by decide) mr_30 h30v fl_X11_245 rfl dX11_start_53 ?_
    refine lv_icmp_ge (tgt := 128) hx hb dX11_start_56 (by decide) (fun c_56 => ?_) (fun c_56 => ?_)
    · exact absurd (nb_le (a := F.length) (b := k) c_56 (by omega) (by omega)) (by omega)
    · have n_56 := nb_nle (a := F.length) (b := k) c_56 (by omega) (by omega)
      refine lv_aload_n hx hb dX11_start_59 rfl (lv_at hl 2 rfl) ?_
      refine k_mga C G 57 (by decide) mr_57 fl_X11_138 rfl dX11_start_60 ?_
      refine lv_sipush (v := 200) hx hb dX11_start_63 (by decide) ?_
      refine lv_iload_n hx hb dX11_start_66 rfl (lv_at hl 3 rfl) ?_
      refine lv_imul hx hb dX11_start_67 ?_
      refine k_topi (y := nI (200 * wn)) (pk_mul 200 wn) ?_
      refine lv_iload_n hx hb dX11_start_68 rfl (lv_at hl 0 rfl) ?_
      refine lv_iadd hx hb dX11_start_69 ?_
      refine k_topi (y := nI (200 * wn + k)) (nI_add (200 * wn) k) ?_
      refine lv_aload_n hx hb dX11_start_70 rfl (lv_at hl 2 rfl) ?_
      refine k_mga C G 31 (by decide) mr_31 fl_X11_59 rfl dX11_start_71 ?_
      refine lv_iload_n hx hb dX11_start_74 rfl (lv_at hl 0 rfl) ?_
      refine k_mil (v := (av 31) k) (i := k) C G 13 (k := 31) (n := 260) mp_31 (by decide) (by omega) rfl dX11_start_75 ?_
      refine k_mis (x := (av 31) k) (i := 200 * wn + k) C G 39 (k := 57) (n := 800) mp_57 (by decide) (by omega) dX11_start_76 (fun H locs (G : wd Z A s (mdW Z h ad iv (ua av 57 (upd (av 57) (200 * wn + k) ((av 31) k)))) H locs) => ?_)
      refine lv_aload_n hx hb dX11_start_77 rfl (lv_at hl 2 rfl) ?_
      refine k_mga C G 35 (by decide) mr_35 fl_X11_71 rfl dX11_start_78 ?_
      refine lv_iload_n hx hb dX11_start_81 rfl (lv_at hl 3 rfl) ?_
      refine k_mil (v := ki) (i := wn) C G 17 (k := 35) (n := 4) mp_35 (by decide) (by omega) h35v dX11_start_82 ?_
      refine lv_if_eq (tgt := 122) hx hb dX11_start_83 (by decide) (fun c_83 => ?_) (fun c_83 => ?_)
      · refine lv_iinc (v := nI (k + 1)) (lv' := [(3, .int (nI (k + 1))), (2, .int (nI ct)), (0, .ref h), (1, .int (nI wn))]) hx hb dX11_start_122 hl (k := 0) rfl (nI_1 _) (by decide) rfl (fun ls hl => ?_)
        refine lv_goto (tgt := 51) hx hb dX11_start_125 (by decide) ?_
        exact ih (k + 1) ct iv (ua av 57 (upd (av 57) (200 * wn + k) (av 31 k))) (by omega) hsI (hsA.up (by decide) _) (hot.up 57 _ rfl (by simp only [oz]; omega)) hfv (fun j hj => by
          by_cases e : j = k
          · subst e; rw [ua_s, pk_us]; exact congrFun e31 j
          · rw [ua_s, pk_un (by omega)]; exact h57 j (by omega)) (by rw [if_pos c_83]; rw [if_pos c_83] at hct; exact hct) (fun z => absurd c_83 z) _ _ _ G (lv_sub hl [0, 1, 2, 3] rfl)
      · refine lv_aload_n hx hb dX11_start_86 rfl (lv_at hl 2 rfl) ?_
        refine k_mga C G 32 (by decide) mr_32 fl_X11_62 rfl dX11_start_87 ?_
        refine lv_iload_n hx hb dX11_start_90 rfl (lv_at hl 0 rfl) ?_
        refine k_mil (v := (av 32) k) (i := k) C G 14 (k := 32) (n := 260) mp_32 (by decide) (by omega) rfl dX11_start_91 ?_
        refine lv_aload_n hx hb dX11_start_92 rfl (lv_at hl 2 rfl) ?_
        refine k_mga C G 41 (by decide) mr_41 fl_X11_89 rfl dX11_start_93 ?_
        refine lv_iload_n hx hb dX11_start_96 rfl (lv_at hl 3 rfl) ?_
        refine k_mil (v := pt) (i := wn) C G 23 (k := 41) (n := 4) mp_41 (by decide) (by omega) h41v dX11_start_97 ?_
        refine lv_icmp_eq (tgt := 104) hx hb dX11_start_98 (by decide) (fun c_98 => ?_) (fun c_98 => ?_)
        · refine lv_iinc (v := nI (ct + 1)) (lv' := [(2, .int (nI (ct + 1))), (3, .int (nI k)), (0, .ref h), (1, .int (nI wn))]) hx hb dX11_start_104 hl (k := 1) rfl (nI_1 _) (by decide) rfl (fun ls hl => ?_)
          refine lv_aload_n hx hb dX11_start_107 rfl (lv_at hl 2 rfl) ?_
          refine lv_iload_n hx hb dX11_start_108 rfl (lv_at hl 1 rfl) ?_
          refine kcM_i G (krV 1 rfl (As := [.int (nI k)]) (rest := []) (ci := 12) (CC := RX11) (T := TX11) (N := 61) C G pmN (c_X11_readFile Z l h ad iv (ua av 57 (upd (av 57) (200 * wn + k) ((av 31) k))) ob k (av0 31 k) (av0 32 k) (hok.same (L := []) (M := [57]) sI.rf (sA.rf.up (by decide) _) (by decide) (by decide) (by decide) (by decide) (by decide) (by decide)) (by omega) (congrFun e31 k) (congrFun e32 k) hfv _) (gdV ml_X11_286 im_X11_readFile se_X11_readFile ii_X11 co_X11_readFile) (by decide +kernel) ⟨Nat.le_of_ble_eq_true rfl, Nat.le_of_ble_eq_true rfl⟩ rfl 0 rfl hl rfl (Nat.le_of_ble_eq_true rfl) ⟨Nat.le_of_ble_eq_true rfl, Nat.le_of_ble_eq_true rfl⟩ dX11_start_109) (fun r_109 u H locs hu G => ?_)
          obtain ⟨iv1_, av1_, rfl, hs1, ha1, hf1, hcs1⟩ := hu
          have hpt : av0 32 k = pt := (congrFun e32 k).symm.trans c_98
          rcases hcs1 with ⟨r_109_e, p0, N, hp8, hN1, hN48, h19, h20, hmw, hbd⟩ | ⟨r_109_e, hmw⟩
          · subst r_109_e
            refine lv_if_ne (tgt := 122) hx hb dX11_start_112 (by decide) (fun c_112 => ?_) (fun c_112 => ?_)
            · have n_112 := nb_ne (a := 1) (b := 0) c_112 (by omega) (by omega)
              refine lv_iinc (v := nI (k + 1)) (lv' := [(3, .int (nI (k + 1))), (2, .int (nI (ct + 1))), (0, .ref h), (1, .int (nI wn))]) hx hb dX11_start_122 hl (k := 1) rfl (nI_1 _) (by decide) rfl (fun ls hl => ?_)
              refine lv_goto (tgt := 51) hx hb dX11_start_125 (by decide) ?_
              exact ih (k + 1) (ct + 1) iv1_ av1_ (by omega) (hsI.tr hs1 (by decide)) ((hsA.up (k := 57) (by decide) _).tr (ha1.mo (by decide)) (fun j hj => hj)) ((hot.up 57 _ rfl (by simp only [oz]; omega)).tr (oth.of ha1) (by decide)) hf1 (fun j hj => by
                by_cases e : j = k
                · subst e; rw [ha1 57 (by decide), ua_s, pk_us]; exact congrFun e31 j
                · rw [ha1 57 (by decide), ua_s, pk_un (by omega)]; exact h57 j (by omega)) (by rw [if_neg c_83, cntT_y hget hpt]; rw [if_neg c_83] at hct; rw [hct]) (fun z => mem_take_s hget (hrd z) (fun _ z3 => by rw [hmw] at z3; cases z3)) _ _ _ G (lv_sub hl [0, 1, 2, 3] rfl)
            · exact absurd c_112 (by decide)
          · subst r_109_e
            refine lv_if_ne (tgt := 122) hx hb dX11_start_112 (by decide) (fun c_112 => ?_) (fun c_112 => ?_)
            · exact absurd c_112 (by decide)
            · have n_112 := nb_eq (a := 0) (b := 0) c_112 (by omega) (by omega)
              refine lv_aload_n hx hb dX11_start_115 rfl (lv_at hl 2 rfl) ?_
              refine lv_iload_n hx hb dX11_start_116 rfl (lv_at hl 3 rfl) ?_
              refine lv_iconst (v := 4) hx hb dX11_start_117 (by decide) ?_
              refine kcM_i G (krV 2 rfl (As := [.int (nI wn), .int 4]) (rest := []) (ci := 12) (CC := RX11) (T := TX11) (N := 61) C G pmN (c_X11_fails Z l h ad iv1_ av1_ wn 4 fa hwn ((hs1 11 (by decide)).trans ((hsI 11 (by decide)).trans h11)) _) (gdV ml_X11_283 im_X11_fails se_X11_fails ii_X11 co_X11_fails) (by decide +kernel) ⟨Nat.le_of_ble_eq_true rfl, Nat.le_of_ble_eq_true rfl⟩ rfl 0 rfl hl rfl (Nat.le_of_ble_eq_true rfl) ⟨Nat.le_of_ble_eq_true rfl, Nat.le_of_ble_eq_true rfl⟩ dX11_start_118) (fun r_118 u H locs hu G => ?_)
              obtain ⟨rfl, rfl⟩ := hu
              exact kr_i C G (hpf _ _ (hsI.tr hs1 (by decide)) ((hsA.up (k := 57) (by decide) _).tr (ha1.mo (by decide)) (fun j hj => hj)) ((hot.up 57 _ rfl (by simp only [oz]; omega)).tr (oth.of ha1) (by decide)) hf1 ⟨c_83, _, hmem, hpt, hmw⟩) (Nat.le_of_ble_eq_true rfl) (Nat.le_of_ble_eq_true rfl) dX11_start_121
        · refine lv_goto (tgt := 122) hx hb dX11_start_101 (by decide) ?_
          refine lv_iinc (v := nI (k + 1)) (lv' := [(3, .int (nI (k + 1))), (2, .int (nI ct)), (0, .ref h), (1, .int (nI wn))]) hx hb dX11_start_122 hl (k := 0) rfl (nI_1 _) (by decide) rfl (fun ls hl => ?_)
          refine lv_goto (tgt := 51) hx hb dX11_start_125 (by decide) ?_
          have hpt : ¬ av0 32 k = pt := fun z => c_98 ((congrFun e32 k).trans z)
          exact ih (k + 1) ct iv (ua av 57 (upd (av 57) (200 * wn + k) (av 31 k))) (by omega) hsI (hsA.up (by decide) _) (hot.up 57 _ rfl (by simp only [oz]; omega)) hfv (fun j hj => by
            by_cases e : j = k
            · subst e; rw [ua_s, pk_us]; exact congrFun e31 j
            · rw [ua_s, pk_un (by omega)]; exact h57 j (by omega)) (by rw [if_neg c_83, cntT_n hget hpt]; rw [if_neg c_83] at hct; exact hct) (fun z => mem_take_s hget (hrd z) (fun z2 => absurd z2 hpt)) _ _ _ G (lv_sub hl [0, 1, 2, 3] rfl)
