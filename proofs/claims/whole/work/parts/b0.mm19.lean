/-! MODEL (X11): the small methods, 2. -/
def cnP (f : Nat → Int32) (a : Nat) (y : Int32) : Nat → Nat
  | 0 => 0
  | k + 1 => cnP f a y k + (if f (a + k) = y then 1 else 0)
theorem cnP_le (f : Nat → Int32) (a : Nat) (y : Int32) : ∀ k, cnP f a y k ≤ k
  | 0 => Nat.le_refl _
  | k + 1 => by
    have := cnP_le f a y k
    rw [cnP]; split <;> omega
set_option maxRecDepth 100000 in
set_option maxHeartbeats 4000000 in
theorem lp_mrow {p : Program} {l : Launch} {e : Env} {s : State} {m : MethodId} {args : Array Value} {below : List Frame} {meth : Method} {c : Code} {Z : zT} {A : Nat → Prop} {Q : State → Prop} {h : Nat} {ad : Nat → Nat} {iv : ivT} {av : avT} {wn N : Nat} {y v1 v2 v3 : Int32} (C : cx p s m args meth c cX11_row 8 (some .int) RX11 "row") (hwn : wn < 4) (h47 : av 47 wn = nI N) (hN : N ≤ 96) (kk : ∀ (H : Heap) (locs : List Loc) (ls : Array Slot), wd Z A s (mdW Z h ad iv av) H locs → lv_has ls 8 [(6, .int (nI (cnP (av 46) (4800 * wn) y N))), (0, .ref h), (1, .int (nI wn)), (2, .int y), (3, .int v1), (4, .int v2), (5, .int v3)] → W p l e ({ frames := 1, cells := 0, slots := 0, locals := 40 }) s m args below meth c H locs 0 0 Q (F0 m 107 ls [])) : ∀ (n k q : Nat), k + n = N → q = cnP (av 46) (4800 * wn) y k → ∀ (H : Heap) (locs : List Loc) (ls : Array Slot), wd Z A s (mdW Z h ad iv av) H locs → lv_has ls 8 [(7, .int (nI k)), (6, .int (nI q)), (0, .ref h), (1, .int (nI wn)), (2, .int y), (3, .int v1), (4, .int v2), (5, .int v3)] → W p l e ({ frames := 1, cells := 0, slots := 0, locals := 40 }) s m args below meth c H locs 0 0 Q (F0 m 63 ls []) := by
  have hx := C.1
  have hb := C.2.1
  have hown := C.2.2.2.2.2.1
  have hts := C.2.2.2.2.2.2.1
  intro n
  induction n with
  | zero =>
    intro k q hk hq H locs ls G hl
    refine lv_iload hx hb dX11_row_63 (lv_at hl 0 rfl) ?_
    refine lv_aload_n hx hb dX11_row_65 rfl (lv_at hl 2 rfl) ?_
    refine k_mga C G 47 (by decide) mr_47 fl_X11_108 rfl dX11_row_66 ?_
    refine lv_iload_n hx hb dX11_row_69 rfl (lv_at hl 3 rfl) ?_
    refine k_mil (v := nI N) (i := wn) C G 29 (k := 47) (n := 4) mp_47 (by decide) (by omega) h47 dX11_row_70 ?_
    refine lv_icmp_ge (tgt := 107) hx hb dX11_row_71 (by decide) (fun c_71 => ?_) (fun c_71 => ?_)
    · have n_71 := nb_le (a := N) (b := k) c_71 (by omega) (by omega)
      have hkN : k = N := by omega
      subst hkN
      subst hq
      exact kk _ _ _ G (lv_sub hl [1, 2, 3, 4, 5, 6, 7] rfl)
    · exact absurd (nb_nle (a := N) (b := k) c_71 (by omega) (by omega)) (by omega)
  | succ n ih =>
    intro k q hk hq H locs ls G hl
    refine lv_iload hx hb dX11_row_63 (lv_at hl 0 rfl) ?_
    refine lv_aload_n hx hb dX11_row_65 rfl (lv_at hl 2 rfl) ?_
    refine k_mga C G 47 (by decide) mr_47 fl_X11_108 rfl dX11_row_66 ?_
    refine lv_iload_n hx hb dX11_row_69 rfl (lv_at hl 3 rfl) ?_
    refine k_mil (v := nI N) (i := wn) C G 29 (k := 47) (n := 4) mp_47 (by decide) (by omega) h47 dX11_row_70 ?_
    refine lv_icmp_ge (tgt := 107) hx hb dX11_row_71 (by decide) (fun c_71 => ?_) (fun c_71 => ?_)
    · exact absurd (nb_le (a := N) (b := k) c_71 (by omega) (by omega)) (by omega)
    · have n_71 := nb_nle (a := N) (b := k) c_71 (by omega) (by omega)
      refine lv_iload hx hb dX11_row_74 (lv_at hl 1 rfl) ?_
      refine lv_aload_n hx hb dX11_row_76 rfl (lv_at hl 2 rfl) ?_
      refine k_mga C G 46 (by decide) mr_46 fl_X11_105 rfl dX11_row_77 ?_
      refine lv_sipush (v := 4800) hx hb dX11_row_80 (by decide) ?_
      refine lv_iload_n hx hb dX11_row_83 rfl (lv_at hl 3 rfl) ?_
      refine lv_imul hx hb dX11_row_84 ?_
      refine k_topi (y := nI (4800 * wn)) (pk_mul 4800 wn) ?_
      refine lv_iload hx hb dX11_row_85 (lv_at hl 0 rfl) ?_
      refine lv_iadd hx hb dX11_row_87 ?_
      refine k_topi (y := nI (4800 * wn + k)) (nI_add (4800 * wn) k) ?_
      refine k_mil (v := (av 46) (4800 * wn + k)) (i := 4800 * wn + k) C G 28 (k := 46) (n := 19200) mp_46 (by decide) (by omega) rfl dX11_row_88 ?_
      refine lv_iload_n hx hb dX11_row_89 rfl (lv_at hl 4 rfl) ?_
      refine lv_icmp_ne (tgt := 97) hx hb dX11_row_90 (by decide) (fun c_90 => ?_) (fun c_90 => ?_)
      · refine lv_iconst (v := 0) hx hb dX11_row_97 (by decide) ?_
        refine lv_iadd hx hb dX11_row_98 ?_
        refine k_topi (y := nI (q)) (Int32.add_zero _) ?_
        refine lv_istore (lv' := [(6, .int (nI q)), (7, .int (nI k)), (0, .ref h), (1, .int (nI wn)), (2, .int y), (3, .int v1), (4, .int v2), (5, .int v3)]) hx hb dX11_row_99 hl (by decide) rfl (fun ls hl => ?_)
        refine lv_iinc (v := nI (k + 1)) (lv' := [(7, .int (nI (k + 1))), (6, .int (nI q)), (0, .ref h), (1, .int (nI wn)), (2, .int y), (3, .int v1), (4, .int v2), (5, .int v3)]) hx hb dX11_row_101 hl (k := 1) rfl (nI_1 _) (by decide) rfl (fun ls hl => ?_)
        refine lv_goto (tgt := 63) hx hb dX11_row_104 (by decide) ?_
        exact ih (k + 1) _ (by omega) (by rw [cnP, ← hq, if_neg c_90, Nat.add_zero]) _ _ _ G (lv_sub hl [0, 1, 2, 3, 4, 5, 6, 7] rfl)
      · refine lv_iconst (v := 1) hx hb dX11_row_93 (by decide) ?_
        refine lv_goto (tgt := 98) hx hb dX11_row_94 (by decide) ?_
        refine lv_iadd hx hb dX11_row_98 ?_
        refine k_topi (y := nI (q + 1)) (nI_add q 1) ?_
        refine lv_istore (lv' := [(6, .int (nI (q + 1))), (7, .int (nI k)), (0, .ref h), (1, .int (nI wn)), (2, .int y), (3, .int v1), (4, .int v2), (5, .int v3)]) hx hb dX11_row_99 hl (by decide) rfl (fun ls hl => ?_)
        refine lv_iinc (v := nI (k + 1)) (lv' := [(7, .int (nI (k + 1))), (6, .int (nI (q + 1))), (0, .ref h), (1, .int (nI wn)), (2, .int y), (3, .int v1), (4, .int v2), (5, .int v3)]) hx hb dX11_row_101 hl (k := 1) rfl (nI_1 _) (by decide) rfl (fun ls hl => ?_)
        refine lv_goto (tgt := 63) hx hb dX11_row_104 (by decide) ?_
        exact ih (k + 1) _ (by omega) (by rw [cnP, ← hq, if_pos c_90]) _ _ _ G (lv_sub hl [0, 1, 2, 3, 4, 5, 6, 7] rfl)
set_option maxRecDepth 100000 in
set_option maxHeartbeats 4000000 in
theorem c_rowInM (Z : zT) (l : Launch) (h : Nat) (ad : Nat → Nat) (iv : ivT) (av : avT) (wn : Nat) (N : Nat) (y v1 v2 v3 aw sd ki : Int32) (hwn : wn < 4) (h33 : av 33 wn = aw) (h34 : av 34 wn = sd) (h35 : av 35 wn = ki) (h47 : av 47 wn = nI N) (hN : N ≤ 96) : Ki Z l yX11_row cX11_row 8 (some .int) ({ frames := 1, cells := 0, slots := 0, locals := 40 }) [.ref h, .int (nI wn), .int y, .int v1, .int v2, .int v3] (mdW Z h ad iv av) (fun r u => ((¬ aw = 0 ∧ ki = 0 ∧ sd = 0 ∧ 0 ≤ y ∧ y ≤ 7 ∧ ¬ N = 96 ∧ ¬ cnP (av 46) (4800 * wn) y N = 48) ∧ r = nI (N + 1) ∧ u = mdW Z h ad iv (coA av wn N y v1 v2 v3)) ∨ (¬ (¬ aw = 0 ∧ ki = 0 ∧ sd = 0 ∧ 0 ≤ y ∧ y ≤ 7 ∧ ¬ N = 96 ∧ ¬ cnP (av 46) (4800 * wn) y N = 48) ∧ r = -1 ∧ u = mdW Z h ad iv av)) := by
  intro sz
  refine Met.ofK (cc := cX11_row) (maxL := 8) (ret := (some .int)) (by decide) (Nat.le_of_ble_eq_true rfl) ?_
  intro p e s m below meth c ls C G hl
  generalize va_A _ sz = A at G ⊢
  have hx := C.1
  have hb := C.2.1
  have hown := C.2.2.2.2.2.1
  have hts := C.2.2.2.2.2.2.1
  refine lv_iload_n hx hb dX11_row_0 rfl (lv_at hl 1 rfl) ?_
  refine kcM_i G (krS 1 rfl (As := [.int (nI wn)]) (rest := []) C G pmN (c_X11_isWriter Z l h ad iv av (nI wn) _) (gdS ml_X11_266 sm_X11_isWriter ii_X11 co_X11_isWriter) (by decide +kernel) ⟨Nat.le_of_ble_eq_true rfl, Nat.le_of_ble_eq_true rfl⟩ hl rfl (Nat.le_of_ble_eq_true rfl) ⟨Nat.le_of_ble_eq_true rfl, Nat.le_of_ble_eq_true rfl⟩ dX11_row_1) (fun r_1 u H locs hu G => ?_)
  obtain ⟨r_1_e, rfl⟩ := hu
  rw [isW_n hwn] at r_1_e
  subst r_1_e
  refine lv_if_eq (tgt := 55) hx hb dX11_row_4 (by decide) (fun c_4 => ?_) (fun c_4 => ?_)
  · exact absurd c_4 (by decide)
  · have n_4 := nb_ne (a := 1) (b := 0) c_4 (by omega) (by omega)
    refine lv_aload_n hx hb dX11_row_7 rfl (lv_at hl 0 rfl) ?_
    refine k_mga C G 33 (by decide) mr_33 fl_X11_65 rfl dX11_row_8 ?_
    refine lv_iload_n hx hb dX11_row_11 rfl (lv_at hl 1 rfl) ?_
    refine k_mzl (v := aw) (i := wn) C G 15 (k := 33) (n := 4) mp_33 (by decide) (by omega) h33 dX11_row_12 ?_
    refine lv_if_eq (tgt := 55) hx hb dX11_row_13 (by decide) (fun c_13 => ?_) (fun c_13 => ?_)
    · refine lv_iconst (v := (-1)) hx hb dX11_row_55 (by decide) ?_
      exact kr_i C G (Or.inr ⟨fun z => z.1 c_13, rfl, rfl⟩) (Nat.le_of_ble_eq_true rfl) (Nat.le_of_ble_eq_true rfl) dX11_row_56
    · refine lv_aload_n hx hb dX11_row_16 rfl (lv_at hl 0 rfl) ?_
      refine k_mga C G 35 (by decide) mr_35 fl_X11_71 rfl dX11_row_17 ?_
      refine lv_iload_n hx hb dX11_row_20 rfl (lv_at hl 1 rfl) ?_
      refine k_mil (v := ki) (i := wn) C G 17 (k := 35) (n := 4) mp_35 (by decide) (by omega) h35 dX11_row_21 ?_
      refine lv_if_ne (tgt := 55) hx hb dX11_row_22 (by decide) (fun c_22 => ?_) (fun c_22 => ?_)
      · refine lv_iconst (v := (-1)) hx hb dX11_row_55 (by decide) ?_
        exact kr_i C G (Or.inr ⟨fun z => c_22 z.2.1, rfl, rfl⟩) (Nat.le_of_ble_eq_true rfl) (Nat.le_of_ble_eq_true rfl) dX11_row_56
      · refine lv_aload_n hx hb dX11_row_25 rfl (lv_at hl 0 rfl) ?_
        refine k_mga C G 34 (by decide) mr_34 fl_X11_68 rfl dX11_row_26 ?_
        refine lv_iload_n hx hb dX11_row_29 rfl (lv_at hl 1 rfl) ?_
        refine k_mzl (v := sd) (i := wn) C G 16 (k := 34) (n := 4) mp_34 (by decide) (by omega) h34 dX11_row_30 ?_
        refine lv_if_ne (tgt := 55) hx hb dX11_row_31 (by decide) (fun c_31 => ?_) (fun c_31 => ?_)
        · refine lv_iconst (v := (-1)) hx hb dX11_row_55 (by decide) ?_
          exact kr_i C G (Or.inr ⟨fun z => c_31 z.2.2.1, rfl, rfl⟩) (Nat.le_of_ble_eq_true rfl) (Nat.le_of_ble_eq_true rfl) dX11_row_56
        · refine lv_iload_n hx hb dX11_row_34 rfl (lv_at hl 2 rfl) ?_
          refine lv_if_lt (tgt := 55) hx hb dX11_row_35 (by decide) (fun c_35 => ?_) (fun c_35 => ?_)
          · refine lv_iconst (v := (-1)) hx hb dX11_row_55 (by decide) ?_
            exact kr_i C G (Or.inr ⟨fun z => absurd c_35 (Int32.not_lt.mpr z.2.2.2.1), rfl, rfl⟩) (Nat.le_of_ble_eq_true rfl) (Nat.le_of_ble_eq_true rfl) dX11_row_56
          · refine lv_iload_n hx hb dX11_row_38 rfl (lv_at hl 2 rfl) ?_
            refine lv_bipush (v := 7) hx hb dX11_row_39 (by decide) ?_
            refine lv_icmp_gt (tgt := 55) hx hb dX11_row_41 (by decide) (fun c_41 => ?_) (fun c_41 => ?_)
            · refine lv_iconst (v := (-1)) hx hb dX11_row_55 (by decide) ?_
              exact kr_i C G (Or.inr ⟨fun z => absurd c_41 (Int32.not_lt.mpr z.2.2.2.2.1), rfl, rfl⟩) (Nat.le_of_ble_eq_true rfl) (Nat.le_of_ble_eq_true rfl) dX11_row_56
            · refine lv_aload_n hx hb dX11_row_44 rfl (lv_at hl 0 rfl) ?_
              refine k_mga C G 47 (by decide) mr_47 fl_X11_108 rfl dX11_row_45 ?_
              refine lv_iload_n hx hb dX11_row_48 rfl (lv_at hl 1 rfl) ?_
              refine k_mil (v := nI N) (i := wn) C G 29 (k := 47) (n := 4) mp_47 (by decide) (by omega) h47 dX11_row_49 ?_
              refine lv_bipush (v := 96) hx hb dX11_row_50 (by decide) ?_
              refine lv_icmp_ne (tgt := 57) hx hb dX11_row_52 (by decide) (fun c_52 => ?_) (fun c_52 => ?_)
              · have n_52 := nb_ne (a := N) (b := 96) c_52 (by omega) (by omega)
                refine lv_iconst (v := 0) hx hb dX11_row_57 (by decide) ?_
                refine k_topi (y := nI 0) (by rfl) ?_
                refine lv_istore (lv' := [(6, .int (nI 0)), (0, .ref h), (1, .int (nI wn)), (2, .int y), (3, .int v1), (4, .int v2), (5, .int v3)]) hx hb dX11_row_58 hl (by decide) rfl (fun ls hl => ?_)
                refine lv_iconst (v := 0) hx hb dX11_row_60 (by decide) ?_
                refine k_topi (y := nI 0) (by rfl) ?_
                refine lv_istore (lv' := [(7, .int (nI 0)), (6, .int (nI 0)), (0, .ref h), (1, .int (nI wn)), (2, .int y), (3, .int v1), (4, .int v2), (5, .int v3)]) hx hb dX11_row_61 hl (by decide) rfl (fun ls hl => ?_)
                refine lp_mrow (iv := iv) (av := av) (wn := wn) (y := y) C hwn h47 hN (fun H locs ls G hl => ?_) N 0 0 (by omega) rfl _ _ _ G (lv_sub hl [0, 1, 2, 3, 4, 5, 6, 7] rfl)
                obtain ⟨cq, hcq⟩ : ∃ cq, cq = cnP (av 46) (4800 * wn) y N := ⟨_, rfl⟩
                have hcl : cq ≤ N := by rw [hcq]; exact cnP_le _ _ _ _
                rw [← hcq] at hl
                refine lv_iload hx hb dX11_row_107 (lv_at hl 0 rfl) ?_
                refine lv_bipush (v := 48) hx hb dX11_row_109 (by decide) ?_
                refine lv_icmp_ne (tgt := 116) hx hb dX11_row_111 (by decide) (fun c_111 => ?_) (fun c_111 => ?_)
                · have n_111 := nb_ne (a := cq) (b := 48) c_111 (by omega) (by omega)
                  refine lv_aload_n hx hb dX11_row_116 rfl (lv_at hl 1 rfl) ?_
                  refine lv_iload_n hx hb dX11_row_117 rfl (lv_at hl 2 rfl) ?_
                  refine lv_iload_n hx hb dX11_row_118 rfl (lv_at hl 3 rfl) ?_
                  refine lv_iload_n hx hb dX11_row_119 rfl (lv_at hl 4 rfl) ?_
                  refine lv_iload hx hb dX11_row_120 (lv_at hl 5 rfl) ?_
                  refine lv_iload hx hb dX11_row_122 (lv_at hl 6 rfl) ?_
                  refine kcM_v G (krV 5 rfl (As := [.int (nI wn), .int y, .int v1, .int v2, .int v3]) (rest := []) (ci := 12) (CC := RX11) (T := TX11) (N := 61) C G pmN (c_X11_comes Z l h ad iv av wn N y v1 v2 v3 hwn h47 (by omega) _) (gdV ml_X11_273 im_X11_comes se_X11_comes ii_X11 co_X11_comes) (by decide +kernel) ⟨Nat.le_of_ble_eq_true rfl, Nat.le_of_ble_eq_true rfl⟩ rfl 0 rfl hl rfl (Nat.le_of_ble_eq_true rfl) ⟨Nat.le_of_ble_eq_true rfl, Nat.le_of_ble_eq_true rfl⟩ dX11_row_124) (fun u H locs hu G => ?_)
                  subst hu
                  refine lv_aload_n hx hb dX11_row_127 rfl (lv_at hl 1 rfl) ?_
                  refine k_mga C G 47 (by decide) mr_47 fl_X11_108 rfl dX11_row_128 ?_
                  refine lv_iload_n hx hb dX11_row_131 rfl (lv_at hl 2 rfl) ?_
                  refine k_mil (v := nI (N + 1)) (i := wn) C G 29 (k := 47) (n := 4) mp_47 (by decide) (by omega) pk_us dX11_row_132 ?_
                  exact kr_i C G (Or.inl ⟨⟨c_13, c_22, c_31, Int32.not_lt.mp c_35, Int32.not_lt.mp c_41, n_52, by rw [← hcq]; exact n_111⟩, rfl, rfl⟩) (Nat.le_of_ble_eq_true rfl) (Nat.le_of_ble_eq_true rfl) dX11_row_133
                · have n_111 := nb_eq (a := cq) (b := 48) c_111 (by omega) (by omega)
                  refine lv_iconst (v := (-1)) hx hb dX11_row_114 (by decide) ?_
                  exact kr_i C G (Or.inr ⟨fun z => z.2.2.2.2.2.2 (by rw [← hcq]; exact n_111), rfl, rfl⟩) (Nat.le_of_ble_eq_true rfl) (Nat.le_of_ble_eq_true rfl) dX11_row_115
              · have n_52 := nb_eq (a := N) (b := 96) c_52 (by omega) (by omega)
                refine lv_iconst (v := (-1)) hx hb dX11_row_55 (by decide) ?_
                exact kr_i C G (Or.inr ⟨fun z => z.2.2.2.2.2.1 n_52, rfl, rfl⟩) (Nat.le_of_ble_eq_true rfl) (Nat.le_of_ble_eq_true rfl) dX11_row_56
set_option maxRecDepth 100000 in
set_option maxHeartbeats 4000000 in
theorem c_rowOutM (Z : zT) (l : Launch) (h : Nat) (ad : Nat → Nat) (iv : ivT) (av : avT) (x : Int32) (y v1 v2 v3 : Int32) (hx4 : ¬ (0 ≤ x ∧ x < 4)) : Ki Z l yX11_row cX11_row 8 (some .int) ({ frames := 1, cells := 0, slots := 0, locals := 40 }) [.ref h, .int x, .int y, .int v1, .int v2, .int v3] (mdW Z h ad iv av) (fun r u => r = -1 ∧ u = mdW Z h ad iv av) := by
  intro sz
  refine Met.ofK (cc := cX11_row) (maxL := 8) (ret := (some .int)) (by decide) (Nat.le_of_ble_eq_true rfl) ?_
  intro p e s m below meth c ls C G hl
  generalize va_A _ sz = A at G ⊢
  have hx := C.1
  have hb := C.2.1
  have hown := C.2.2.2.2.2.1
  have hts := C.2.2.2.2.2.2.1
  refine lv_iload_n hx hb dX11_row_0 rfl (lv_at hl 1 rfl) ?_
  refine kcM_i G (krS 1 rfl (As := [.int x]) (rest := []) C G pmN (c_X11_isWriter Z l h ad iv av x _) (gdS ml_X11_266 sm_X11_isWriter ii_X11 co_X11_isWriter) (by decide +kernel) ⟨Nat.le_of_ble_eq_true rfl, Nat.le_of_ble_eq_true rfl⟩ hl rfl (Nat.le_of_ble_eq_true rfl) ⟨Nat.le_of_ble_eq_true rfl, Nat.le_of_ble_eq_true rfl⟩ dX11_row_1) (fun r_1 u H locs hu G => ?_)
  obtain ⟨r_1_e, rfl⟩ := hu
  rw [isW_0 hx4] at r_1_e
  subst r_1_e
  refine lv_if_eq (tgt := 55) hx hb dX11_row_4 (by decide) (fun c_4 => ?_) (fun c_4 => ?_)
  · have n_4 := nb_eq (a := 0) (b := 0) c_4 (by omega) (by omega)
    refine lv_iconst (v := (-1)) hx hb dX11_row_55 (by decide) ?_
    exact kr_i C G ⟨rfl, rfl⟩ (Nat.le_of_ble_eq_true rfl) (Nat.le_of_ble_eq_true rfl) dX11_row_56
  · exact absurd c_4 (by decide)
set_option maxRecDepth 100000 in
set_option maxHeartbeats 4000000 in
theorem c_X11_size (Z : zT) (l : Launch) (h : Nat) (ad : Nat → Nat) (iv : ivT) (av : avT) (ob : List obT) (so x : Int32) (ho : mo_ok iv av ob) : Ki Z l yX11_size cX11_size 4 (some .int) ({ frames := 1, cells := 0, slots := 0, locals := 40 }) [.ref h, .int so, .int x] (mdW Z h ad iv av) (fun r u => r = (mLk ob so x).elim (-1) (fun bs => nI bs.length) ∧ u = mdW Z h ad iv av) := by
  intro sz
  refine Met.ofK (cc := cX11_size) (maxL := 4) (ret := (some .int)) (by decide) (Nat.le_of_ble_eq_true rfl) ?_
  intro p e s m below meth c ls C G hl
  generalize va_A _ sz = A at G ⊢
  have hx := C.1
  have hb := C.2.1
  have hown := C.2.2.2.2.2.1
  have hts := C.2.2.2.2.2.2.1
  have hob := ho.2.1
  refine lv_aload_n hx hb dX11_size_0 rfl (lv_at hl 0 rfl) ?_
  refine lv_iload_n hx hb dX11_size_1 rfl (lv_at hl 1 rfl) ?_
  refine lv_iload_n hx hb dX11_size_2 rfl (lv_at hl 2 rfl) ?_
  refine kcM_i G (krV 2 rfl (As := [.int so, .int x]) (rest := []) (ci := 12) (CC := RX11) (T := TX11) (N := 61) C G pmN (c_X11_place Z l h ad iv av ob so x ho _) (gdV ml_X11_165 im_X11_place se_X11_place ii_X11 co_X11_place) (by decide +kernel) ⟨Nat.le_of_ble_eq_true rfl, Nat.le_of_ble_eq_true rfl⟩ rfl 0 rfl hl rfl (Nat.le_of_ble_eq_true rfl) ⟨Nat.le_of_ble_eq_true rfl, Nat.le_of_ble_eq_true rfl⟩ dX11_size_3) (fun r_3 u H locs hu G => ?_)
  obtain ⟨r_3_e, rfl⟩ := hu
  rcases plR_cases ob so x with ⟨hn, hq⟩ | ⟨k, o, hk1, hk, ho1, ho2, hq⟩
  · rw [hq] at r_3_e
    subst r_3_e
    refine lv_istore_n (lv' := [(3, .int (-1)), (0, .ref h), (1, .int so), (2, .int x)]) hx hb dX11_size_6 rfl hl (by decide) rfl (fun ls hl => ?_)
    refine lv_iload_n hx hb dX11_size_7 rfl (lv_at hl 0 rfl) ?_
    refine lv_if_ge (tgt := 15) hx hb dX11_size_8 (by decide) (fun c_8 => ?_) (fun c_8 => ?_)
    · exact absurd c_8 (by decide)
    · refine lv_iconst (v := (-1)) hx hb dX11_size_11 (by decide) ?_
      refine lv_goto (tgt := 21) hx hb dX11_size_12 (by decide) ?_
      exact kr_i C G ⟨by rw [mLk_n hn]; rfl, rfl⟩ (Nat.le_of_ble_eq_true rfl) (Nat.le_of_ble_eq_true rfl) dX11_size_21
  · rw [hq] at r_3_e
    subst r_3_e
    have hkl := mFi_lt hk1
    have hou := (ho.2.2.2.1 k o hk).2.2.2.2.1
    refine lv_istore_n (lv' := [(3, .int (nI k)), (0, .ref h), (1, .int so), (2, .int x)]) hx hb dX11_size_6 rfl hl (by decide) rfl (fun ls hl => ?_)
    refine lv_iload_n hx hb dX11_size_7 rfl (lv_at hl 0 rfl) ?_
    refine lv_if_ge (tgt := 15) hx hb dX11_size_8 (by decide) (fun c_8 => ?_) (fun c_8 => ?_)
    · have n_8 := nb_le (a := 0) (b := k) c_8 (by omega) (by omega)
      refine lv_aload_n hx hb dX11_size_15 rfl (lv_at hl 1 rfl) ?_
      refine k_mga C G 2 (by decide) mr_2 fl_X11_16 rfl dX11_size_16 ?_
      refine lv_iload_n hx hb dX11_size_19 rfl (lv_at hl 0 rfl) ?_
      refine k_mil (v := nI o.2.2.length) (i := k) C G 2 (k := 2) (n := 100) mp_2 (by decide) (by omega) ((ho.2.2.2.1 k o hk).2.2.1) dX11_size_20 ?_
      exact kr_i C G ⟨by rw [mLk_s hk1 hk]; rfl, rfl⟩ (Nat.le_of_ble_eq_true rfl) (Nat.le_of_ble_eq_true rfl) dX11_size_21
    · exact absurd (nb_nle (a := 0) (b := k) c_8 (by omega) (by omega)) (by omega)
def ocF (bs : List Int8) (i : Int32) : Int32 := if 0 ≤ i ∧ i < nI bs.length then nI (ub (fnB bs i.toNatClampNeg)) else -1
set_option maxRecDepth 100000 in
set_option maxHeartbeats 4000000 in
theorem c_X11_octet (Z : zT) (l : Launch) (h : Nat) (ad : Nat → Nat) (iv : ivT) (av : avT) (ob : List obT) (so x i : Int32) (ho : mo_ok iv av ob) : Ki Z l yX11_octet cX11_octet 5 (some .int) ({ frames := 1, cells := 0, slots := 0, locals := 40 }) [.ref h, .int so, .int x, .int i] (mdW Z h ad iv av) (fun r u => r = (mLk ob so x).elim (-1) (fun bs => ocF bs i) ∧ u = mdW Z h ad iv av) := by
  intro sz
  refine Met.ofK (cc := cX11_octet) (maxL := 5) (ret := (some .int)) (by decide) (Nat.le_of_ble_eq_true rfl) ?_
  intro p e s m below meth c ls C G hl
  generalize va_A _ sz = A at G ⊢
  have hx := C.1
  have hb := C.2.1
  have hown := C.2.2.2.2.2.1
  have hts := C.2.2.2.2.2.2.1
  have hob := ho.2.1
  refine lv_aload_n hx hb dX11_octet_0 rfl (lv_at hl 0 rfl) ?_
  refine lv_iload_n hx hb dX11_octet_1 rfl (lv_at hl 1 rfl) ?_
  refine lv_iload_n hx hb dX11_octet_2 rfl (lv_at hl 2 rfl) ?_
  refine kcM_i G (krV 2 rfl (As := [.int so, .int x]) (rest := []) (ci := 12) (CC := RX11) (T := TX11) (N := 61) C G pmN (c_X11_place Z l h ad iv av ob so x ho _) (gdV ml_X11_165 im_X11_place se_X11_place ii_X11 co_X11_place) (by decide +kernel) ⟨Nat.le_of_ble_eq_true rfl, Nat.le_of_ble_eq_true rfl⟩ rfl 0 rfl hl rfl (Nat.le_of_ble_eq_true rfl) ⟨Nat.le_of_ble_eq_true rfl, Nat.le_of_ble_eq_true rfl⟩ dX11_octet_3) (fun r_3 u H locs hu G => ?_)
  obtain ⟨r_3_e, rfl⟩ := hu
  rcases plR_cases ob so x with ⟨hn, hq⟩ | ⟨k, o, hk1, hk, ho1, ho2, hq⟩
  · rw [hq] at r_3_e
    subst r_3_e
    refine lv_istore (lv' := [(4, .int (-1)), (0, .ref h), (1, .int so), (2, .int x), (3, .int i)]) hx hb dX11_octet_6 hl (by decide) rfl (fun ls hl => ?_)
    refine lv_iload hx hb dX11_octet_8 (lv_at hl 0 rfl) ?_
    refine lv_if_lt (tgt := 28) hx hb dX11_octet_10 (by decide) (fun c_10 => ?_) (fun c_10 => ?_)
    · refine lv_iconst (v := (-1)) hx hb dX11_octet_28 (by decide) ?_
      refine lv_goto (tgt := 49) hx hb dX11_octet_29 (by decide) ?_
      exact kr_i C G ⟨by rw [mLk_n hn]; rfl, rfl⟩ (Nat.le_of_ble_eq_true rfl) (Nat.le_of_ble_eq_true rfl) dX11_octet_49
    · exact absurd c_10 (by decide)
  · rw [hq] at r_3_e
    subst r_3_e
    have hkl := mFi_lt hk1
    have hou := (ho.2.2.2.1 k o hk).2.2.2.2.1
    refine lv_istore (lv' := [(4, .int (nI k)), (0, .ref h), (1, .int so), (2, .int x), (3, .int i)]) hx hb dX11_octet_6 hl (by decide) rfl (fun ls hl => ?_)
    refine lv_iload hx hb dX11_octet_8 (lv_at hl 0 rfl) ?_
    refine lv_if_lt (tgt := 28) hx hb dX11_octet_10 (by decide) (fun c_10 => ?_) (fun c_10 => ?_)
    · exact absurd (nb_lt (a := k) (b := 0) c_10 (by omega) (by omega)) (by omega)
    · have n_10 := nb_nlt (a := k) (b := 0) c_10 (by omega) (by omega)
      refine lv_iload_n hx hb dX11_octet_13 rfl (lv_at hl 4 rfl) ?_
      refine lv_if_lt (tgt := 28) hx hb dX11_octet_14 (by decide) (fun c_14 => ?_) (fun c_14 => ?_)
      · refine lv_iconst (v := (-1)) hx hb dX11_octet_28 (by decide) ?_
        refine lv_goto (tgt := 49) hx hb dX11_octet_29 (by decide) ?_
        have hlk := mLk_s hk1 hk
        exact kr_i C G ⟨by rw [hlk]; show _ = ocF o.2.2 i; rw [ocF, if_neg (fun z => absurd c_14 (Int32.not_lt.mpr z.1))], rfl⟩ (Nat.le_of_ble_eq_true rfl) (Nat.le_of_ble_eq_true rfl) dX11_octet_49
      · refine lv_iload_n hx hb dX11_octet_17 rfl (lv_at hl 4 rfl) ?_
        refine lv_aload_n hx hb dX11_octet_18 rfl (lv_at hl 1 rfl) ?_
        refine k_mga C G 2 (by decide) mr_2 fl_X11_16 rfl dX11_octet_19 ?_
        refine lv_iload hx hb dX11_octet_22 (lv_at hl 0 rfl) ?_
        refine k_mil (v := nI o.2.2.length) (i := k) C G 2 (k := 2) (n := 100) mp_2 (by decide) (by omega) ((ho.2.2.2.1 k o hk).2.2.1) dX11_octet_24 ?_
        refine lv_icmp_lt (tgt := 32) hx hb dX11_octet_25 (by decide) (fun c_25 => ?_) (fun c_25 => ?_)
        · obtain ⟨iN, hi31, hin⟩ := nI_of c_14
          have hil : iN < o.2.2.length := nb_lt (by rw [← hin]; exact c_25) hi31 (by omega)
          refine lv_aload_n hx hb dX11_octet_32 rfl (lv_at hl 1 rfl) ?_
          refine k_mga C G 3 (by decide) mr_3 fl_X11_20 rfl dX11_octet_33 ?_
          refine lv_sipush (v := 1400) hx hb dX11_octet_36 (by decide) ?_
          refine lv_iload hx hb dX11_octet_39 (lv_at hl 0 rfl) ?_
          refine lv_imul hx hb dX11_octet_41 ?_
          refine k_topi (y := nI (1400 * k)) (pk_mul 1400 k) ?_
          refine lv_iload_n hx hb dX11_octet_42 rfl (lv_at hl 4 rfl) ?_
          refine k_topi (y := nI iN) hin ?_
          refine lv_iadd hx hb dX11_octet_43 ?_
          refine k_topi (y := nI (1400 * k + iN)) (nI_add (1400 * k) iN) ?_
          refine k_mbl (v := (av 3) (1400 * k + iN)) (i := 1400 * k + iN) C G 3 (k := 3) (n := 140000) mp_3 (by decide) (by omega) rfl dX11_octet_44 ?_
          refine lv_sipush (v := 255) hx hb dX11_octet_45 (by decide) ?_
          refine lv_iand hx hb dX11_octet_48 ?_
          have hlk := mLk_s hk1 hk
          exact kr_i C G ⟨by rw [hlk]; show _ = ocF o.2.2 i; rw [ocF, if_pos ⟨Int32.not_lt.mp c_14, c_25⟩, hin, nI_clamp hi31, ub_and, mo_ub ho.2.2.2 hk hil], rfl⟩ (Nat.le_of_ble_eq_true rfl) (Nat.le_of_ble_eq_true rfl) dX11_octet_49
        · refine lv_iconst (v := (-1)) hx hb dX11_octet_28 (by decide) ?_
          refine lv_goto (tgt := 49) hx hb dX11_octet_29 (by decide) ?_
          have hlk := mLk_s hk1 hk
          exact kr_i C G ⟨by rw [hlk]; show _ = ocF o.2.2 i; rw [ocF, if_neg (fun z => c_25 z.2)], rfl⟩ (Nat.le_of_ble_eq_true rfl) (Nat.le_of_ble_eq_true rfl) dX11_octet_49
def spB (bs : List Int8) (i : Nat) (b : Int32) : List Int8 := bs.set i b.toInt8
theorem mo_at.spoil {av : avT} {ob : List obT} {k i : Nat} {o : obT} {b : Int32} (h : mo_at av ob) (hk : ob[k]? = some o) (hi : i < o.2.2.length) (hnd : True) : mo_at (ua av 3 (upd (av 3) (1400 * k + i) b.toInt8.toInt32)) (ob.set k (o.1, o.2.1, spB o.2.2 i b)) := by
  have hkl := (List.getElem?_eq_some_iff.mp hk).1
  refine ⟨fun j q hj => ?_, fun j => ?_⟩
  · show av 0 j = q.1 ∧ av 1 j = q.2.1 ∧ av 2 j = nI q.2.2.length ∧ 10 ≤ q.2.2.length ∧ q.2.2.length ≤ 1400 ∧ ∀ t, t < q.2.2.length → upd (av 3) (1400 * k + i) b.toInt8.toInt32 (1400 * j + t) = (q.2.2.getD t 0).toInt32
    by_cases e : j = k
    · subst e
      rw [List.getElem?_set_self hkl] at hj
      cases hj
      obtain ⟨a1, a2, a3, a4, a5, a6⟩ := h.1 j o hk
      have hl : (spB o.2.2 i b).length = o.2.2.length := List.length_set
      refine ⟨a1, a2, by rw [hl]; exact a3, by rw [hl]; exact a4, by rw [hl]; exact a5, fun t ht => ?_⟩
      rw [hl] at ht
      by_cases e2 : t = i
      · subst e2
        rw [pk_us]
        unfold spB
        rw [List.getD_eq_getElem?_getD, List.getElem?_set_self hi]; rfl
      · rw [pk_un (by omega), a6 t ht]
        unfold spB
        rw [List.getD_eq_getElem?_getD, List.getD_eq_getElem?_getD, List.getElem?_set_ne (by omega)]
    · rw [List.getElem?_set_ne (by omega)] at hj
      obtain ⟨a1, a2, a3, a4, a5, a6⟩ := h.1 j q hj
      have hou := (h.1 k o hk).2.2.2.2.1
      refine ⟨a1, a2, a3, a4, a5, fun t ht => ?_⟩
      rw [pk_un (by omega)]; exact a6 t ht
  · show fits .byte (.int (upd (av 3) (1400 * k + i) b.toInt8.toInt32 j)) = true
    by_cases e : j = 1400 * k + i
    · rw [e, pk_us]; exact by_fit _
    · rw [pk_un e]; exact h.2 j
theorem oSz_set {ob : List obT} {k : Nat} {o : obT} {bs : List Int8} (hk : ob[k]? = some o) (hl : bs.length = o.2.2.length) : oSz (ob.set k (o.1, o.2.1, bs)) = oSz ob := by
  unfold oSz
  rw [List.map_set]
  congr 1
  apply List.ext_getElem?
  intro j
  by_cases e : j = k
  · subst e
    have hkl := (List.getElem?_eq_some_iff.mp hk).1
    rw [List.getElem?_set_self (by rw [List.length_map]; exact hkl), List.getElem?_map, hk]
    simp [hl]
  · rw [List.getElem?_set_ne (by omega)]
set_option maxRecDepth 100000 in
set_option maxHeartbeats 4000000 in
theorem c_X11_spoil (Z : zT) (l : Launch) (h : Nat) (ad : Nat → Nat) (iv : ivT) (av : avT) (ob : List obT) (so x i b : Int32) (ho : mo_ok iv av ob) : Ki Z l yX11_spoil cX11_spoil 6 (some .int) ({ frames := 2, cells := 0, slots := 0, locals := 70 }) [.ref h, .int so, .int x, .int i, .int b] (mdW Z h ad iv av) (fun r u => (∃ (k : Nat) (o : obT) (iN : Nat), mFi ob so x = some k ∧ ob[k]? = some o ∧ iN < o.2.2.length ∧ i = nI iN ∧ r = nI (ub (fnB o.2.2 iN)) ∧ u = mdW Z h ad iv (ua av 3 (upd (av 3) (1400 * k + iN) b.toInt8.toInt32))) ∨ (r = (mLk ob so x).elim (-1) (fun bs => ocF bs i) ∧ (mLk ob so x).elim (-1) (fun bs => ocF bs i) < 0 ∧ u = mdW Z h ad iv av)) := by
  intro sz
  refine Met.ofK (cc := cX11_spoil) (maxL := 6) (ret := (some .int)) (by decide) (Nat.le_of_ble_eq_true rfl) ?_
  intro p e s m below meth c ls C G hl
  generalize va_A _ sz = A at G ⊢
  have hx := C.1
  have hb := C.2.1
  have hown := C.2.2.2.2.2.1
  have hts := C.2.2.2.2.2.2.1
  have hob := ho.2.1
  refine lv_aload_n hx hb dX11_spoil_0 rfl (lv_at hl 0 rfl) ?_
  refine lv_iload_n hx hb dX11_spoil_1 rfl (lv_at hl 1 rfl) ?_
  refine lv_iload_n hx hb dX11_spoil_2 rfl (lv_at hl 2 rfl) ?_
  refine lv_iload_n hx hb dX11_spoil_3 rfl (lv_at hl 3 rfl) ?_
  refine kcM_i G (krV 3 rfl (As := [.int so, .int x, .int i]) (rest := []) (ci := 12) (CC := RX11) (T := TX11) (N := 61) C G pmN (c_X11_octet Z l h ad iv av ob so x i ho _) (gdV ml_X11_345 im_X11_octet se_X11_octet ii_X11 co_X11_octet) (by decide +kernel) ⟨Nat.le_of_ble_eq_true rfl, Nat.le_of_ble_eq_true rfl⟩ rfl 0 rfl hl rfl (Nat.le_of_ble_eq_true rfl) ⟨Nat.le_of_ble_eq_true rfl, Nat.le_of_ble_eq_true rfl⟩ dX11_spoil_4) (fun r_4 u H locs hu G => ?_)
  obtain ⟨r_4_e, rfl⟩ := hu
  refine lv_istore (lv' := [(5, .int r_4), (0, .ref h), (1, .int so), (2, .int x), (3, .int i), (4, .int b)]) hx hb dX11_spoil_7 hl (by decide) rfl (fun ls hl => ?_)
  refine lv_iload hx hb dX11_spoil_9 (lv_at hl 0 rfl) ?_
  refine lv_if_lt (tgt := 34) hx hb dX11_spoil_11 (by decide) (fun c_11 => ?_) (fun c_11 => ?_)
  · refine lv_iload hx hb dX11_spoil_34 (lv_at hl 0 rfl) ?_
    exact kr_i C G (Or.inr ⟨r_4_e, by rw [← r_4_e]; exact c_11, rfl⟩) (Nat.le_of_ble_eq_true rfl) (Nat.le_of_ble_eq_true rfl) dX11_spoil_36
  · refine lv_aload_n hx hb dX11_spoil_14 rfl (lv_at hl 1 rfl) ?_
    refine k_mga C G 3 (by decide) mr_3 fl_X11_20 rfl dX11_spoil_15 ?_
    refine lv_sipush (v := 1400) hx hb dX11_spoil_18 (by decide) ?_
    refine lv_aload_n hx hb dX11_spoil_21 rfl (lv_at hl 1 rfl) ?_
    refine lv_iload_n hx hb dX11_spoil_22 rfl (lv_at hl 2 rfl) ?_
    refine lv_iload_n hx hb dX11_spoil_23 rfl (lv_at hl 3 rfl) ?_
    refine kcM_i G (krV 2 rfl (As := [.int so, .int x]) (rest := [.int 1400, .ref (ad 3)]) (ci := 12) (CC := RX11) (T := TX11) (N := 61) C G pmN (c_X11_place Z l h ad iv av ob so x ho _) (gdV ml_X11_165 im_X11_place se_X11_place ii_X11 co_X11_place) (by decide +kernel) ⟨Nat.le_of_ble_eq_true rfl, Nat.le_of_ble_eq_true rfl⟩ rfl 0 rfl hl rfl (Nat.le_of_ble_eq_true rfl) ⟨Nat.le_of_ble_eq_true rfl, Nat.le_of_ble_eq_true rfl⟩ dX11_spoil_24) (fun r_24 u H locs hu G => ?_)
    obtain ⟨r_24_e, rfl⟩ := hu
    have hne : ∃ k o, mFi ob so x = some k ∧ ob[k]? = some o ∧ o.1 = so ∧ o.2.1 = x ∧ plR (mFi ob so x) = nI k := by
      rcases plR_cases ob so x with ⟨hn, hq⟩ | hs
      · rw [r_4_e, mLk_n hn] at c_11; exact absurd (show (-1 : Int32) < 0 by decide) c_11
      · exact hs
    obtain ⟨k, o, hk1, hk, ho1, ho2, hq⟩ := hne
    have hlk := mLk_s hk1 hk
    have hoc : r_4 = ocF o.2.2 i := by rw [r_4_e, hlk]; rfl
    have hir : 0 ≤ i ∧ i < nI o.2.2.length := by
      by_cases e : 0 ≤ i ∧ i < nI o.2.2.length
      · exact e
      · rw [hoc, ocF, if_neg e] at c_11; exact absurd (show (-1 : Int32) < 0 by decide) c_11
    obtain ⟨iN, hi31, hin⟩ := nI_of (x := i) (Int32.not_lt.mpr hir.1)
    have hou := (ho.2.2.2.1 k o hk).2.2.2.2.1
    have hkl := mFi_lt hk1
    have hil : iN < o.2.2.length := nb_lt (by rw [← hin]; exact hir.2) hi31 (by omega)
    rw [hq] at r_24_e
    subst r_24_e
    refine lv_imul hx hb dX11_spoil_27 ?_
    refine k_topi (y := nI (1400 * k)) (pk_mul 1400 k) ?_
    refine lv_iload_n hx hb dX11_spoil_28 rfl (lv_at hl 4 rfl) ?_
    refine k_topi (y := nI iN) hin ?_
    refine lv_iadd hx hb dX11_spoil_29 ?_
    refine k_topi (y := nI (1400 * k + iN)) (nI_add (1400 * k) iN) ?_
    refine lv_iload hx hb dX11_spoil_30 (lv_at hl 5 rfl) ?_
    refine lv_i2b (v := b.toInt8.toInt32) hx hb dX11_spoil_32 rfl ?_
    refine k_mbs (x := b.toInt8.toInt32) (i := 1400 * k + iN) C G 3 (k := 3) (n := 140000) mp_3 (by decide) (by omega) (pk_vb _) dX11_spoil_33 (fun H locs (G : wd Z A s (mdW Z h ad iv (ua av 3 (upd (av 3) (1400 * k + iN) b.toInt8.toInt32))) H locs) => ?_)
    refine lv_iload hx hb dX11_spoil_34 (lv_at hl 0 rfl) ?_
    exact kr_i C G (Or.inl ⟨k, o, iN, hk1, hk, hil, hin, by rw [hoc, ocF, if_pos hir, hin, nI_clamp hi31], rfl⟩) (Nat.le_of_ble_eq_true rfl) (Nat.le_of_ble_eq_true rfl) dX11_spoil_36
def ndA (ob : List obT) (av : avT) (x : Int32) : avT := (mFi ob 0 x).elim av (fun k => ua av 59 (upd (av 59) k 1))
set_option maxRecDepth 100000 in
set_option maxHeartbeats 4000000 in
theorem c_X11_needs (Z : zT) (l : Launch) (h : Nat) (ad : Nat → Nat) (iv : ivT) (av : avT) (ob : List obT) (x : Int32) (ho : mo_ok iv av ob) : Kv Z l yX11_needs cX11_needs 3 none ({ frames := 1, cells := 0, slots := 0, locals := 40 }) [.ref h, .int x] (mdW Z h ad iv av) (fun u => u = mdW Z h ad iv (ndA ob av x)) := by
  intro sz
  refine Met.ofK (cc := cX11_needs) (maxL := 3) (ret := none) (by decide) (Nat.le_of_ble_eq_true rfl) ?_
  intro p e s m below meth c ls C G hl
  generalize va_A _ sz = A at G ⊢
  have hx := C.1
  have hb := C.2.1
  have hown := C.2.2.2.2.2.1
  have hts := C.2.2.2.2.2.2.1
  have hob := ho.2.1
  refine lv_aload_n hx hb dX11_needs_0 rfl (lv_at hl 0 rfl) ?_
  refine lv_iconst (v := 0) hx hb dX11_needs_1 (by decide) ?_
  refine lv_iload_n hx hb dX11_needs_2 rfl (lv_at hl 1 rfl) ?_
  refine kcM_i G (krV 2 rfl (As := [.int 0, .int x]) (rest := []) (ci := 12) (CC := RX11) (T := TX11) (N := 61) C G pmN (c_X11_place Z l h ad iv av ob 0 x ho _) (gdV ml_X11_165 im_X11_place se_X11_place ii_X11 co_X11_place) (by decide +kernel) ⟨Nat.le_of_ble_eq_true rfl, Nat.le_of_ble_eq_true rfl⟩ rfl 0 rfl hl rfl (Nat.le_of_ble_eq_true rfl) ⟨Nat.le_of_ble_eq_true rfl, Nat.le_of_ble_eq_true rfl⟩ dX11_needs_3) (fun r_3 u H locs hu G => ?_)
  obtain ⟨r_3_e, rfl⟩ := hu
  rcases plR_cases ob 0 x with ⟨hn, hq⟩ | ⟨k, o, hk1, hk, ho1, ho2, hq⟩
  · rw [hq] at r_3_e
    subst r_3_e
    refine lv_istore_n (lv' := [(2, .int (-1)), (0, .ref h), (1, .int x)]) hx hb dX11_needs_6 rfl hl (by decide) rfl (fun ls hl => ?_)
    refine lv_iload_n hx hb dX11_needs_7 rfl (lv_at hl 0 rfl) ?_
    refine lv_if_lt (tgt := 18) hx hb dX11_needs_8 (by decide) (fun c_8 => ?_) (fun c_8 => ?_)
    · exact kr_v C G (by rw [ndA, hn]; rfl) (Nat.le_of_ble_eq_true rfl) (Nat.le_of_ble_eq_true rfl) dX11_needs_18
    · exact absurd c_8 (by decide)
  · rw [hq] at r_3_e
    subst r_3_e
    have hkl := mFi_lt hk1
    refine lv_istore_n (lv' := [(2, .int (nI k)), (0, .ref h), (1, .int x)]) hx hb dX11_needs_6 rfl hl (by decide) rfl (fun ls hl => ?_)
    refine lv_iload_n hx hb dX11_needs_7 rfl (lv_at hl 0 rfl) ?_
    refine lv_if_lt (tgt := 18) hx hb dX11_needs_8 (by decide) (fun c_8 => ?_) (fun c_8 => ?_)
    · exact absurd (nb_lt (a := k) (b := 0) c_8 (by omega) (by omega)) (by omega)
    · have n_8 := nb_nlt (a := k) (b := 0) c_8 (by omega) (by omega)
      refine lv_aload_n hx hb dX11_needs_11 rfl (lv_at hl 1 rfl) ?_
      refine k_mga C G 59 (by decide) mr_59 fl_X11_144 rfl dX11_needs_12 ?_
      refine lv_iload_n hx hb dX11_needs_15 rfl (lv_at hl 0 rfl) ?_
      refine lv_iconst (v := 1) hx hb dX11_needs_16 (by decide) ?_
      refine k_mzs (x := 1) (i := k) C G 41 (k := 59) (n := 100) mp_59 (by decide) (by omega) (by decide) dX11_needs_17 (fun H locs (G : wd Z A s (mdW Z h ad iv (ua av 59 (upd (av 59) k 1))) H locs) => ?_)
      exact kr_v C G (by rw [ndA, hk1]; rfl) (Nat.le_of_ble_eq_true rfl) (Nat.le_of_ble_eq_true rfl) dX11_needs_18
set_option maxRecDepth 100000 in
set_option maxHeartbeats 4000000 in
theorem lp_mwant {p : Program} {l : Launch} {e : Env} {R : Room} {s : State} {m : MethodId} {args : Array Value} {below : List Frame} {meth : Method} {c : Code} {Z : zT} {A : Nat → Prop} {h : Nat} {ad : Nat → Nat} {iv : ivT} {av : avT} {x : Int32} {post : Int32 → va_W → Prop} (C : cx p s m args meth c cX11_isWanted 3 (some .boolean) RX11 "isWanted") (hp0 : ¬ (∃ j, j < 4 ∧ ¬ av 33 j = 0 ∧ ¬ av 34 j = 0 ∧ av 36 j < x) → post 0 (mdW Z h ad iv av)) (hp1 : (∃ j, j < 4 ∧ ¬ av 33 j = 0 ∧ ¬ av 34 j = 0 ∧ av 36 j < x) → post 1 (mdW Z h ad iv av)) : ∀ (n k : Nat), k + n = 4 → (∀ j, j < k → ¬ (j < 4 ∧ ¬ av 33 j = 0 ∧ ¬ av 34 j = 0 ∧ av 36 j < x)) → ∀ (H : Heap) (locs : List Loc) (ls : Array Slot), wd Z A s (mdW Z h ad iv av) H locs → lv_has ls 3 [(2, .int (nI k)), (0, .ref h), (1, .int x)] → W p l e R s m args below meth c H locs 0 0 (MQ below (va_Qi post (mB Z A) A) args s 0 0 A) (F0 m 2 ls []) := by
  have hx := C.1
  have hb := C.2.1
  have hown := C.2.2.2.2.2.1
  have hts := C.2.2.2.2.2.2.1
  intro n
  induction n with
  | zero =>
    intro k hk hno H locs ls G hl
    refine lv_iload_n hx hb dX11_isWanted_2 rfl (lv_at hl 0 rfl) ?_
    refine lv_iconst (v := 4) hx hb dX11_isWanted_3 (by decide) ?_
    refine lv_icmp_ge (tgt := 43) hx hb dX11_isWanted_4 (by decide) (fun c_4 => ?_) (fun c_4 => ?_)
    · have n_4 := nb_le (a := 4) (b := k) c_4 (by omega) (by omega)
      refine lv_iconst (v := 0) hx hb dX11_isWanted_43 (by decide) ?_
      exact kr_z C G (by decide) (hp0 (fun ⟨j, h1, h2⟩ => hno j (by omega) ⟨h1, h2⟩)) (Nat.le_of_ble_eq_true rfl) (Nat.le_of_ble_eq_true rfl) dX11_isWanted_44
    · exact absurd (nb_nle (a := 4) (b := k) c_4 (by omega) (by omega)) (by omega)
  | succ n ih =>
    intro k hk hno H locs ls G hl
    refine lv_iload_n hx hb dX11_isWanted_2 rfl (lv_at hl 0 rfl) ?_
    refine lv_iconst (v := 4) hx hb dX11_isWanted_3 (by decide) ?_
    refine lv_icmp_ge (tgt := 43) hx hb dX11_isWanted_4 (by decide) (fun c_4 => ?_) (fun c_4 => ?_)
    · exact absurd (nb_le (a := 4) (b := k) c_4 (by omega) (by omega)) (by omega)
    · have n_4 := nb_nle (a := 4) (b := k) c_4 (by omega) (by omega)
      refine lv_aload_n hx hb dX11_isWanted_7 rfl (lv_at hl 1 rfl) ?_
      refine k_mga C G 33 (by decide) mr_33 fl_X11_65 rfl dX11_isWanted_8 ?_
      refine lv_iload_n hx hb dX11_isWanted_11 rfl (lv_at hl 0 rfl) ?_
      refine k_mzl (v := (av 33) k) (i := k) C G 15 (k := 33) (n := 4) mp_33 (by decide) (by omega) rfl dX11_isWanted_12 ?_
      refine lv_if_eq (tgt := 37) hx hb dX11_isWanted_13 (by decide) (fun c_13 => ?_) (fun c_13 => ?_)
      · refine lv_iinc (v := nI (k + 1)) (lv' := [(2, .int (nI (k + 1))), (0, .ref h), (1, .int x)]) hx hb dX11_isWanted_37 hl (k := 0) rfl (nI_1 _) (by decide) rfl (fun ls hl => ?_)
        refine lv_goto (tgt := 2) hx hb dX11_isWanted_40 (by decide) ?_
        exact ih (k + 1) (by omega) (fun j hj => by
          by_cases e : j = k
          · subst e; exact (fun z => z.2.1 c_13)
          · exact hno j (by omega)) _ _ _ G (lv_sub hl [0, 1, 2] rfl)
      · refine lv_aload_n hx hb dX11_isWanted_16 rfl (lv_at hl 1 rfl) ?_
        refine k_mga C G 34 (by decide) mr_34 fl_X11_68 rfl dX11_isWanted_17 ?_
        refine lv_iload_n hx hb dX11_isWanted_20 rfl (lv_at hl 0 rfl) ?_
        refine k_mzl (v := (av 34) k) (i := k) C G 16 (k := 34) (n := 4) mp_34 (by decide) (by omega) rfl dX11_isWanted_21 ?_
        refine lv_if_eq (tgt := 37) hx hb dX11_isWanted_22 (by decide) (fun c_22 => ?_) (fun c_22 => ?_)
        · refine lv_iinc (v := nI (k + 1)) (lv' := [(2, .int (nI (k + 1))), (0, .ref h), (1, .int x)]) hx hb dX11_isWanted_37 hl (k := 0) rfl (nI_1 _) (by decide) rfl (fun ls hl => ?_)
          refine lv_goto (tgt := 2) hx hb dX11_isWanted_40 (by decide) ?_
          exact ih (k + 1) (by omega) (fun j hj => by
            by_cases e : j = k
            · subst e; exact (fun z => z.2.2.1 c_22)
            · exact hno j (by omega)) _ _ _ G (lv_sub hl [0, 1, 2] rfl)
        · refine lv_iload_n hx hb dX11_isWanted_25 rfl (lv_at hl 2 rfl) ?_
          refine lv_aload_n hx hb dX11_isWanted_26 rfl (lv_at hl 1 rfl) ?_
          refine k_mga C G 36 (by decide) mr_36 fl_X11_74 rfl dX11_isWanted_27 ?_
          refine lv_iload_n hx hb dX11_isWanted_30 rfl (lv_at hl 0 rfl) ?_
          refine k_mil (v := (av 36) k) (i := k) C G 18 (k := 36) (n := 4) mp_36 (by decide) (by omega) rfl dX11_isWanted_31 ?_
          refine lv_icmp_le (tgt := 37) hx hb dX11_isWanted_32 (by decide) (fun c_32 => ?_) (fun c_32 => ?_)
          · refine lv_iinc (v := nI (k + 1)) (lv' := [(2, .int (nI (k + 1))), (0, .ref h), (1, .int x)]) hx hb dX11_isWanted_37 hl (k := 0) rfl (nI_1 _) (by decide) rfl (fun ls hl => ?_)
            refine lv_goto (tgt := 2) hx hb dX11_isWanted_40 (by decide) ?_
            exact ih (k + 1) (by omega) (fun j hj => by
              by_cases e : j = k
              · subst e; exact (fun z => absurd z.2.2.2 (Int32.not_lt.mpr c_32))
              · exact hno j (by omega)) _ _ _ G (lv_sub hl [0, 1, 2] rfl)
          · refine lv_iconst (v := 1) hx hb dX11_isWanted_35 (by decide) ?_
            exact kr_z C G (by decide) (hp1 ⟨k, by omega, c_13, c_22, Int32.not_le.mp c_32⟩) (Nat.le_of_ble_eq_true rfl) (Nat.le_of_ble_eq_true rfl) dX11_isWanted_36
set_option maxRecDepth 100000 in
set_option maxHeartbeats 4000000 in
theorem c_X11_isWanted (Z : zT) (l : Launch) (h : Nat) (ad : Nat → Nat) (iv : ivT) (av : avT) (x : Int32) : Ki Z l yX11_isWanted cX11_isWanted 3 (some .boolean) ({ frames := 0, cells := 0, slots := 0, locals := 0 }) [.ref h, .int x] (mdW Z h ad iv av) (fun r u => ((∃ j, j < 4 ∧ ¬ av 33 j = 0 ∧ ¬ av 34 j = 0 ∧ av 36 j < x) ∧ r = 1 ∧ u = mdW Z h ad iv av) ∨ (¬ (∃ j, j < 4 ∧ ¬ av 33 j = 0 ∧ ¬ av 34 j = 0 ∧ av 36 j < x) ∧ r = 0 ∧ u = mdW Z h ad iv av)) := by
  intro sz
  refine Met.ofK (cc := cX11_isWanted) (maxL := 3) (ret := (some .boolean)) (by decide) (Nat.le_of_ble_eq_true rfl) ?_
  intro p e s m below meth c ls C G hl
  generalize va_A _ sz = A at G ⊢
  have hx := C.1
  have hb := C.2.1
  have hown := C.2.2.2.2.2.1
  have hts := C.2.2.2.2.2.2.1
  refine lv_iconst (v := 0) hx hb dX11_isWanted_0 (by decide) ?_
  refine k_topi (y := nI 0) (by rfl) ?_
  refine lv_istore_n (lv' := [(2, .int (nI 0)), (0, .ref h), (1, .int x)]) hx hb dX11_isWanted_1 rfl hl (by decide) rfl (fun ls hl => ?_)
  exact lp_mwant C (fun z => Or.inr ⟨z, rfl, rfl⟩) (fun z => Or.inl ⟨z, rfl, rfl⟩) 4 0 (by omega) (fun j hj => absurd hj (by omega)) _ _ _ G (lv_sub hl [0, 1, 2] rfl)
