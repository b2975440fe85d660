/-! MODEL (X11): takeColumn. -/
set_option maxRecDepth 100000 in
set_option maxHeartbeats 4000000 in
theorem lp_tcI {p : Program} {l : Launch} {e : Env} {s : State} {m : MethodId} {args : Array Value} {below : List Frame} {meth : Method} {c : Code} {Z : zT} {A : Nat → Prop} {Q : State → Prop} {h : Nat} {ad : Nat → Nat} {iv : ivT} {av0 : avT} {c0 N t : Nat} {x wy : Int32} {Y : Prop} {V : Nat → Int32} (C : cx p s m args meth c cX11_takeColumn 8 none RX11 "takeColumn") (h20 : iv 20 = nI N) (hN : N ≤ 48) (hc : c0 < 3) (ht : 8 * t < N) (hx8 : Y → x = nI (mBn V c0 N (8 * t) 8)) (kk : ∀ (q : Nat) (av : avT), q ≤ min N (8 * t + 8) → sA [21, 25] av0 av → (∀ j, j % 3 ≠ c0 → av 21 j = av0 21 j) → (Y → tcR V c0 (min N (8 * t + 8)) q (av 21)) → ∀ (H : Heap) (locs : List Loc) (ls : Array Slot), wd Z A s (mdW Z h ad iv av) H locs → lv_has ls 8 [(3, .int (nI q)), (4, .int (nI (8 * t))), (0, .ref h), (1, .int (nI c0)), (2, .int wy)] → W p l e ({ frames := 2, cells := 0, slots := 0, locals := 80 }) s m args below meth c H locs 0 0 Q (F0 m 116 ls [])) : ∀ (n : Nat) (k q : Nat) (av : avT), k + n = 8 → 8 * t + k ≤ N → q ≤ 8 * t + k → sA [21, 25] av0 av → (∀ j, j % 3 ≠ c0 → av 21 j = av0 21 j) → (Y → tcR V c0 (8 * t + k) q (av 21)) → ∀ (H : Heap) (locs : List Loc) (ls : Array Slot), wd Z A s (mdW Z h ad iv av) H locs → lv_has ls 8 [(6, .int (nI k)), (3, .int (nI q)), (4, .int (nI (8 * t))), (5, .int x), (0, .ref h), (1, .int (nI c0)), (2, .int wy)] → W p l e ({ frames := 2, cells := 0, slots := 0, locals := 80 }) s m args below meth c H locs 0 0 Q (F0 m 32 ls []) := by
  have hx := C.1
  have hb := C.2.1
  have hown := C.2.2.2.2.2.1
  have hts := C.2.2.2.2.2.2.1
  intro n
  induction n with
  | zero =>
    intro k q av hk hkN hq hsA hT hY H locs ls G hl
    refine lv_iload hx hb dX11_takeColumn_32 (lv_at hl 0 rfl) ?_
    refine lv_bipush (v := 8) hx hb dX11_takeColumn_34 (by decide) ?_
    refine lv_icmp_ge (tgt := 116) hx hb dX11_takeColumn_36 (by decide) (fun c_36 => ?_) (fun c_36 => ?_)
    · have n_36 := nb_le (a := 8) (b := k) c_36 (by omega) (by omega)
      have hmn : min N (8 * t + 8) = 8 * t + k := by omega
      exact kk q av (by omega) hsA hT (by rw [hmn]; exact hY) _ _ _ G (lv_sub hl [1, 2, 4, 5, 6] rfl)
    · exact absurd (nb_nle (a := 8) (b := k) c_36 (by omega) (by omega)) (by omega)
  | succ n ih =>
    intro k q av hk hkN hq hsA hT hY H locs ls G hl
    refine lv_iload hx hb dX11_takeColumn_32 (lv_at hl 0 rfl) ?_
    refine lv_bipush (v := 8) hx hb dX11_takeColumn_34 (by decide) ?_
    refine lv_icmp_ge (tgt := 116) hx hb dX11_takeColumn_36 (by decide) (fun c_36 => ?_) (fun c_36 => ?_)
    · exact absurd (nb_le (a := 8) (b := k) c_36 (by omega) (by omega)) (by omega)
    · have n_36 := nb_nle (a := 8) (b := k) c_36 (by omega) (by omega)
      refine lv_iload hx hb dX11_takeColumn_39 (lv_at hl 2 rfl) ?_
      refine lv_iload hx hb dX11_takeColumn_41 (lv_at hl 0 rfl) ?_
      refine lv_iadd hx hb dX11_takeColumn_43 ?_
      refine k_topi (y := nI (8 * t + k)) (nI_add (8 * t) k) ?_
      refine lv_aload_n hx hb dX11_takeColumn_44 rfl (lv_at hl 4 rfl) ?_
      refine k_mgi (v := nI N) C G 20 (by decide) mr_20 h20 fl_X11_196 rfl dX11_takeColumn_45 ?_
      refine lv_icmp_ge (tgt := 116) hx hb dX11_takeColumn_48 (by decide) (fun c_48 => ?_) (fun c_48 => ?_)
      · have n_48 := nb_le (a := N) (b := 8 * t + k) c_48 (by omega) (by omega)
        have hmn : min N (8 * t + 8) = 8 * t + k := by omega
        exact kk q av (by omega) hsA hT (by rw [hmn]; exact hY) _ _ _ G (lv_sub hl [1, 2, 4, 5, 6] rfl)
      · have n_48 := nb_nle (a := N) (b := 8 * t + k) c_48 (by omega) (by omega)
        refine lv_iload hx hb dX11_takeColumn_51 (lv_at hl 3 rfl) ?_
        refine lv_bipush (v := 7) hx hb dX11_takeColumn_53 (by decide) ?_
        refine lv_iload hx hb dX11_takeColumn_55 (lv_at hl 0 rfl) ?_
        refine lv_isub hx hb dX11_takeColumn_57 ?_
        refine k_topi (y := nI (7 - k)) (pk_sub (a := 7) (b := k) (by omega)) ?_
        refine lv_ishr hx hb dX11_takeColumn_58 ?_
        refine lv_iconst (v := 1) hx hb dX11_takeColumn_59 (by decide) ?_
        refine lv_iand hx hb dX11_takeColumn_60 ?_
        refine lv_iconst (v := 1) hx hb dX11_takeColumn_61 (by decide) ?_
        refine lv_icmp_ne (tgt := 69) hx hb dX11_takeColumn_62 (by decide) (fun c_62 => ?_) (fun c_62 => ?_)
        · refine lv_iconst (v := 0) hx hb dX11_takeColumn_69 (by decide) ?_
          refine lv_istore (lv' := [(7, .int 0), (6, .int (nI k)), (3, .int (nI q)), (4, .int (nI (8 * t))), (5, .int x), (0, .ref h), (1, .int (nI c0)), (2, .int wy)]) hx hb dX11_takeColumn_70 hl (by decide) rfl (fun ls hl => ?_)
          refine lv_aload_n hx hb dX11_takeColumn_72 rfl (lv_at hl 5 rfl) ?_
          refine k_mga C G 21 (by decide) mr_21 fl_X11_34 rfl dX11_takeColumn_73 ?_
          refine lv_iconst (v := 3) hx hb dX11_takeColumn_76 (by decide) ?_
          refine lv_iload hx hb dX11_takeColumn_77 (lv_at hl 3 rfl) ?_
          refine lv_iload hx hb dX11_takeColumn_79 (lv_at hl 1 rfl) ?_
          refine lv_iadd hx hb dX11_takeColumn_81 ?_
          refine k_topi (y := nI (8 * t + k)) (nI_add (8 * t) k) ?_
          refine lv_imul hx hb dX11_takeColumn_82 ?_
          refine k_topi (y := nI (3 * (8 * t + k))) (pk_mul 3 (8 * t + k)) ?_
          refine lv_iload_n hx hb dX11_takeColumn_83 rfl (lv_at hl 6 rfl) ?_
          refine lv_iadd hx hb dX11_takeColumn_84 ?_
          refine k_topi (y := nI (3 * (8 * t + k) + c0)) (nI_add (3 * (8 * t + k)) c0) ?_
          refine lv_iload hx hb dX11_takeColumn_85 (lv_at hl 0 rfl) ?_
          refine lv_if_eq (tgt := 95) hx hb dX11_takeColumn_87 (by decide) (fun c_87 => ?_) (fun c_87 => ?_)
          · have n_87 := nb_eq (a := 0) (b := 0) c_87 (by omega) (by omega)
            refine lv_iconst (v := 0) hx hb dX11_takeColumn_95 (by decide) ?_
            refine k_mis (x := 0) (i := 3 * (8 * t + k) + c0) C G 5 (k := 21) (n := 144) mp_21 (by decide) (by omega) dX11_takeColumn_96 (fun H locs (G : wd Z A s (mdW Z h ad iv (ua av 21 (upd (av 21) (3 * (8 * t + k) + c0) 0))) H locs) => ?_)
            refine lv_iload_n hx hb dX11_takeColumn_97 rfl (lv_at hl 2 rfl) ?_
            refine lv_iload hx hb dX11_takeColumn_98 (lv_at hl 0 rfl) ?_
            refine lv_if_eq (tgt := 107) hx hb dX11_takeColumn_100 (by decide) (fun c_100 => ?_) (fun c_100 => ?_)
            · have n_100 := nb_eq (a := 0) (b := 0) c_100 (by omega) (by omega)
              refine lv_iconst (v := 1) hx hb dX11_takeColumn_107 (by decide) ?_
              refine lv_iadd hx hb dX11_takeColumn_108 ?_
              refine k_topi (y := nI (q + 1)) (nI_add q 1) ?_
              refine lv_istore_n (lv' := [(3, .int (nI (q + 1))), (7, .int 0), (6, .int (nI k)), (4, .int (nI (8 * t))), (5, .int x), (0, .ref h), (1, .int (nI c0)), (2, .int wy)]) hx hb dX11_takeColumn_109 rfl hl (by decide) rfl (fun ls hl => ?_)
              refine lv_iinc (v := nI (k + 1)) (lv' := [(6, .int (nI (k + 1))), (3, .int (nI (q + 1))), (7, .int 0), (4, .int (nI (8 * t))), (5, .int x), (0, .ref h), (1, .int (nI c0)), (2, .int wy)]) hx hb dX11_takeColumn_110 hl (k := 2) rfl (nI_1 _) (by decide) rfl (fun ls hl => ?_)
              refine lv_goto (tgt := 32) hx hb dX11_takeColumn_113 (by decide) ?_
              exact ih (k + 1) (q + 1) _ (by omega) (by omega) (by omega) (hsA.up (by decide) _) (fun j hj => by
                show upd (av 21) (3 * (8 * t + k) + c0) _ j = _
                rw [pk_un (by omega)]; exact hT j hj) (fun y => by
                have hb := bitK V c0 N (8 * t) (k := k) (by omega)
                rw [← hx8 y] at hb
                obtain ⟨r1, r2⟩ := hY y
                have hmis : ¬ V (48 * c0 + (8 * t + k)) = MIS := fun h9 => by
                  rw [mB1, if_pos ⟨by omega, h9⟩] at hb; exact c_62 hb
                refine ⟨fun r hr => ?_, ?_⟩
                · show upd (av 21) (3 * (8 * t + k) + c0) 0 (3 * r + c0) = _
                  by_cases e : r = 8 * t + k
                  · subst e; rw [pk_us, if_neg hmis]
                  · rw [pk_un (by omega)]; exact r1 r (by omega)
                · rw [show 8 * t + (k + 1) = (8 * t + k) + 1 by omega, col_s, tf_y hmis, List.length_append, ← r2]; rfl) _ _ _ G (lv_sub hl [0, 1, 3, 4, 5, 6, 7] rfl)
            · exact absurd c_100 (by decide)
          · exact absurd c_87 (by decide)
        · refine lv_iconst (v := 1) hx hb dX11_takeColumn_65 (by decide) ?_
          refine lv_goto (tgt := 70) hx hb dX11_takeColumn_66 (by decide) ?_
          refine lv_istore (lv' := [(7, .int 1), (6, .int (nI k)), (3, .int (nI q)), (4, .int (nI (8 * t))), (5, .int x), (0, .ref h), (1, .int (nI c0)), (2, .int wy)]) hx hb dX11_takeColumn_70 hl (by decide) rfl (fun ls hl => ?_)
          refine lv_aload_n hx hb dX11_takeColumn_72 rfl (lv_at hl 5 rfl) ?_
          refine k_mga C G 21 (by decide) mr_21 fl_X11_34 rfl dX11_takeColumn_73 ?_
          refine lv_iconst (v := 3) hx hb dX11_takeColumn_76 (by decide) ?_
          refine lv_iload hx hb dX11_takeColumn_77 (lv_at hl 3 rfl) ?_
          refine lv_iload hx hb dX11_takeColumn_79 (lv_at hl 1 rfl) ?_
          refine lv_iadd hx hb dX11_takeColumn_81 ?_
          refine k_topi (y := nI (8 * t + k)) (nI_add (8 * t) k) ?_
          refine lv_imul hx hb dX11_takeColumn_82 ?_
          refine k_topi (y := nI (3 * (8 * t + k))) (pk_mul 3 (8 * t + k)) ?_
          refine lv_iload_n hx hb dX11_takeColumn_83 rfl (lv_at hl 6 rfl) ?_
          refine lv_iadd hx hb dX11_takeColumn_84 ?_
          refine k_topi (y := nI (3 * (8 * t + k) + c0)) (nI_add (3 * (8 * t + k)) c0) ?_
          refine lv_iload hx hb dX11_takeColumn_85 (lv_at hl 0 rfl) ?_
          refine lv_if_eq (tgt := 95) hx hb dX11_takeColumn_87 (by decide) (fun c_87 => ?_) (fun c_87 => ?_)
          · exact absurd c_87 (by decide)
          · have n_87 := nb_ne (a := 1) (b := 0) c_87 (by omega) (by omega)
            refine lv_ldc (v := (-2147483648)) hx hb hown (hts _ kn_X11_206) dX11_takeColumn_90 ?_
            refine lv_goto (tgt := 96) hx hb dX11_takeColumn_92 (by decide) ?_
            refine k_mis (x := (-2147483648)) (i := 3 * (8 * t + k) + c0) C G 5 (k := 21) (n := 144) mp_21 (by decide) (by omega) dX11_takeColumn_96 (fun H locs (G : wd Z A s (mdW Z h ad iv (ua av 21 (upd (av 21) (3 * (8 * t + k) + c0) (-2147483648)))) H locs) => ?_)
            refine lv_iload_n hx hb dX11_takeColumn_97 rfl (lv_at hl 2 rfl) ?_
            refine lv_iload hx hb dX11_takeColumn_98 (lv_at hl 0 rfl) ?_
            refine lv_if_eq (tgt := 107) hx hb dX11_takeColumn_100 (by decide) (fun c_100 => ?_) (fun c_100 => ?_)
            · exact absurd c_100 (by decide)
            · have n_100 := nb_ne (a := 1) (b := 0) c_100 (by omega) (by omega)
              refine lv_iconst (v := 0) hx hb dX11_takeColumn_103 (by decide) ?_
              refine lv_goto (tgt := 108) hx hb dX11_takeColumn_104 (by decide) ?_
              refine lv_iadd hx hb dX11_takeColumn_108 ?_
              refine k_topi (y := nI (q)) (Int32.add_zero _) ?_
              refine lv_istore_n (lv' := [(3, .int (nI q)), (7, .int 1), (6, .int (nI k)), (4, .int (nI (8 * t))), (5, .int x), (0, .ref h), (1, .int (nI c0)), (2, .int wy)]) hx hb dX11_takeColumn_109 rfl hl (by decide) rfl (fun ls hl => ?_)
              refine lv_iinc (v := nI (k + 1)) (lv' := [(6, .int (nI (k + 1))), (3, .int (nI q)), (7, .int 1), (4, .int (nI (8 * t))), (5, .int x), (0, .ref h), (1, .int (nI c0)), (2, .int wy)]) hx hb dX11_takeColumn_110 hl (k := 2) rfl (nI_1 _) (by decide) rfl (fun ls hl => ?_)
              refine lv_goto (tgt := 32) hx hb dX11_takeColumn_113 (by decide) ?_
              exact ih (k + 1) q _ (by omega) (by omega) (by omega) (hsA.up (by decide) _) (fun j hj => by
                show upd (av 21) (3 * (8 * t + k) + c0) _ j = _
                rw [pk_un (by omega)]; exact hT j hj) (fun y => by
                have hb := bitK V c0 N (8 * t) (k := k) (by omega)
                rw [← hx8 y] at hb
                obtain ⟨r1, r2⟩ := hY y
                have hmis : V (48 * c0 + (8 * t + k)) = MIS := by
                  rw [c_62] at hb
                  by_cases h9 : V (48 * c0 + (8 * t + k)) = MIS
                  · exact h9
                  · rw [mB1, if_neg (fun z => h9 z.2)] at hb; exact absurd hb (by decide)
                refine ⟨fun r hr => ?_, ?_⟩
                · show upd (av 21) (3 * (8 * t + k) + c0) (-2147483648) (3 * r + c0) = _
                  by_cases e : r = 8 * t + k
                  · subst e; rw [pk_us, if_pos hmis]
                  · rw [pk_un (by omega)]; exact r1 r (by omega)
                · rw [show 8 * t + (k + 1) = (8 * t + k) + 1 by omega, col_s, tf_n hmis]; exact r2) _ _ _ G (lv_sub hl [0, 1, 3, 4, 5, 6, 7] rfl)
set_option maxRecDepth 100000 in
set_option maxHeartbeats 4000000 in
theorem lp_tcO {p : Program} {l : Launch} {e : Env} {s : State} {m : MethodId} {args : Array Value} {below : List Frame} {meth : Method} {c : Code} {Z : zT} {A : Nat → Prop} {Q : State → Prop} {h : Nat} {ad : Nat → Nat} {iv0 : ivT} {av0 : avT} {c0 N a1 en : Nat} {wy : Int32} {Y : Prop} {V : Nat → Int32} (C : cx p s m args meth c cX11_takeColumn 8 none RX11 "takeColumn") (h20 : iv0 20 = nI N) (h17 : iv0 17 = nI en) (hen : en ≤ 140000) (ha1 : a1 ≤ 150000) (hN : N ≤ 48) (hc : c0 < 3) (hYb : Y → ∀ t, 8 * t < N → ub (av0 3 (a1 + t)) = mBn V c0 N (8 * t) 8 ∧ a1 + t + 1 ≤ en) (kk : ∀ (iv : ivT) (av : avT) (q : Nat) (g : Int32), iv 16 = nI (a1 + (N + 7) / 8) → iv 18 = g → (g = 0 ∨ g = 1) → q ≤ N → sI [16, 18] iv0 iv → sA [21, 25] av0 av → (∀ j, j % 3 ≠ c0 → av 21 j = av0 21 j) → (Y → g = 1 ∧ tcR V c0 N q (av 21)) → ∀ (H : Heap) (locs : List Loc) (ls : Array Slot), wd Z A s (mdW Z h ad iv av) H locs → lv_has ls 8 [(3, .int (nI q)), (0, .ref h), (1, .int (nI c0)), (2, .int wy)] → W p l e ({ frames := 2, cells := 0, slots := 0, locals := 80 }) s m args below meth c H locs 0 0 Q (F0 m 122 ls [])) : ∀ (n : Nat) (t : Nat) (iv : ivT) (av : avT) (q : Nat) (g : Int32), t + n = (N + 7) / 8 → iv 16 = nI (a1 + t) → iv 18 = g → (g = 0 ∨ g = 1) → q ≤ min N (8 * t) → sI [16, 18] iv0 iv → sA [21, 25] av0 av → (∀ j, j % 3 ≠ c0 → av 21 j = av0 21 j) → (Y → g = 1 ∧ tcR V c0 (min N (8 * t)) q (av 21)) → ∀ (H : Heap) (locs : List Loc) (ls : Array Slot), wd Z A s (mdW Z h ad iv av) H locs → lv_has ls 8 [(3, .int (nI q)), (4, .int (nI (8 * t))), (0, .ref h), (1, .int (nI c0)), (2, .int wy)] → W p l e ({ frames := 2, cells := 0, slots := 0, locals := 80 }) s m args below meth c H locs 0 0 Q (F0 m 12 ls []) := by
  have hx := C.1
  have hb := C.2.1
  have hown := C.2.2.2.2.2.1
  have hts := C.2.2.2.2.2.2.1
  intro n
  induction n with
  | zero =>
    intro t iv av q g ht h16 h18 hg hq hsI hsA hT hY H locs ls G hl
    have h20v : iv 20 = nI N := (hsI 20 (by decide)).trans h20
    have h17v : iv 17 = nI en := (hsI 17 (by decide)).trans h17
    refine lv_iload hx hb dX11_takeColumn_12 (lv_at hl 1 rfl) ?_
    refine lv_aload_n hx hb dX11_takeColumn_14 rfl (lv_at hl 2 rfl) ?_
    refine k_mgi (v := nI N) C G 20 (by decide) mr_20 h20v fl_X11_196 rfl dX11_takeColumn_15 ?_
    refine lv_icmp_ge (tgt := 122) hx hb dX11_takeColumn_18 (by decide) (fun c_18 => ?_) (fun c_18 => ?_)
    · have n_18 := nb_le (a := N) (b := 8 * t) c_18 (by omega) (by omega)
      have htN : t = (N + 7) / 8 := by omega
      subst htN
      have hmn : min N (8 * ((N + 7) / 8)) = N := by omega
      rw [hmn] at hY hq
      exact kk iv av q g h16 h18 hg hq hsI hsA hT hY _ _ _ G (lv_sub hl [0, 2, 3, 4] rfl)
    · exact absurd (nb_nle (a := N) (b := 8 * t) c_18 (by omega) (by omega)) (by omega)
  | succ n ih =>
    intro t iv av q g ht h16 h18 hg hq hsI hsA hT hY H locs ls G hl
    have h20v : iv 20 = nI N := (hsI 20 (by decide)).trans h20
    have h17v : iv 17 = nI en := (hsI 17 (by decide)).trans h17
    refine lv_iload hx hb dX11_takeColumn_12 (lv_at hl 1 rfl) ?_
    refine lv_aload_n hx hb dX11_takeColumn_14 rfl (lv_at hl 2 rfl) ?_
    refine k_mgi (v := nI N) C G 20 (by decide) mr_20 h20v fl_X11_196 rfl dX11_takeColumn_15 ?_
    refine lv_icmp_ge (tgt := 122) hx hb dX11_takeColumn_18 (by decide) (fun c_18 => ?_) (fun c_18 => ?_)
    · exact absurd (nb_le (a := N) (b := 8 * t) c_18 (by omega) (by omega)) (by omega)
    · have n_18 := nb_nle (a := N) (b := 8 * t) c_18 (by omega) (by omega)
      refine lv_aload_n hx hb dX11_takeColumn_21 rfl (lv_at hl 2 rfl) ?_
      refine lv_iconst (v := 1) hx hb dX11_takeColumn_22 (by decide) ?_
      refine kcM_l G (krV 1 rfl (As := [.int 1]) (rest := []) (ci := 12) (CC := RX11) (T := TX11) (N := 61) C G pmN (c_mt1 Z l h ad iv av (a1 + t) en g h16 h17v h18 (by first | exact Or.inl rfl | exact Or.inr rfl | assumption) (by omega) (by omega) _) (gdV ml_X11_213 im_X11_take se_X11_take ii_X11 co_X11_take) (by decide +kernel) ⟨Nat.le_of_ble_eq_true rfl, Nat.le_of_ble_eq_true rfl⟩ rfl 0 rfl hl rfl (Nat.le_of_ble_eq_true rfl) ⟨Nat.le_of_ble_eq_true rfl, Nat.le_of_ble_eq_true rfl⟩ dX11_takeColumn_23) (fun r_23 u H locs hu G => ?_)
      obtain ⟨iv1_, rfl, hs1, h16_1, hcs1⟩ := hu
      have h17_1 : iv1_ 17 = nI en := (hs1 17 (by decide)).trans h17v
      rcases hcs1 with ⟨hg_1, hle_1, h18_1, r_23_e⟩ | ⟨hno_1, h18_1, r_23_e⟩
      · obtain ⟨bb_1, hbb_1⟩ : ∃ b, b = ub ((av 3) (a1 + t)) := ⟨_, rfl⟩
        have hlbb_1 : bb_1 < 256 := by rw [hbb_1]; exact ub_lt _
        rw [← hbb_1] at r_23_e
        subst r_23_e
        refine lv_l2i (v := ((nI bb_1).toInt64).toInt32) hx hb dX11_takeColumn_26 rfl ?_
        refine k_topi (y := nI bb_1) (l2i_i2l _) ?_
        refine lv_istore (lv' := [(5, .int (nI bb_1)), (3, .int (nI q)), (4, .int (nI (8 * t))), (0, .ref h), (1, .int (nI c0)), (2, .int wy)]) hx hb dX11_takeColumn_27 hl (by decide) rfl (fun ls hl => ?_)
        refine lv_iconst (v := 0) hx hb dX11_takeColumn_29 (by decide) ?_
        refine k_topi (y := nI 0) (by rfl) ?_
        refine lv_istore (lv' := [(6, .int (nI 0)), (5, .int (nI bb_1)), (3, .int (nI q)), (4, .int (nI (8 * t))), (0, .ref h), (1, .int (nI c0)), (2, .int wy)]) hx hb dX11_takeColumn_30 hl (by decide) rfl (fun ls hl => ?_)
        refine lp_tcI (iv := iv1_) (Y := Y) (V := V) C ((hs1 20 (by decide)).trans h20v) hN hc (by omega) (fun y => by rw [hbb_1, hsA 3 (by decide)]; exact congrArg nI (hYb y t (by omega)).1) (fun q av hq2 hsA2 hT2 hY2 H locs ls G hl => ?_) 8 0 q av (by omega) (by omega) (by omega) hsA hT (fun y => by have h9 := (hY y).2; rw [show min N (8 * t) = 8 * t + 0 by omega] at h9; exact h9) _ _ _ G (lv_sub hl [0, 2, 3, 1, 4, 5, 6] rfl)
        refine lv_iinc (v := nI (8 * (t + 1))) (lv' := [(4, .int (nI (8 * (t + 1)))), (3, .int (nI q)), (0, .ref h), (1, .int (nI c0)), (2, .int wy)]) hx hb dX11_takeColumn_116 hl (k := 1) rfl (nI_add _ 8) (by decide) rfl (fun ls hl => ?_)
        refine lv_goto (tgt := 12) hx hb dX11_takeColumn_119 (by decide) ?_
        exact ih (t + 1) _ _ q 1 (by omega) (by rw [← Nat.add_assoc]; exact h16_1) h18_1 (by decide) (by rw [show 8 * (t + 1) = 8 * t + 8 by omega]; exact hq2) (hsI.tr hs1 (by decide)) hsA2 hT2 (fun y => ⟨rfl, by have h9 := hY2 y; rw [show 8 * t + 8 = 8 * (t + 1) by omega] at h9; exact h9⟩) _ _ _ G (lv_sub hl [1, 0, 2, 3, 4] rfl)
      · subst r_23_e
        refine lv_l2i (v := (0 : Int64).toInt32) hx hb dX11_takeColumn_26 rfl ?_
        refine k_topi (y := 0) (by decide) ?_
        refine lv_istore (lv' := [(5, .int 0), (3, .int (nI q)), (4, .int (nI (8 * t))), (0, .ref h), (1, .int (nI c0)), (2, .int wy)]) hx hb dX11_takeColumn_27 hl (by decide) rfl (fun ls hl => ?_)
        refine lv_iconst (v := 0) hx hb dX11_takeColumn_29 (by decide) ?_
        refine k_topi (y := nI 0) (by rfl) ?_
        refine lv_istore (lv' := [(6, .int (nI 0)), (5, .int 0), (3, .int (nI q)), (4, .int (nI (8 * t))), (0, .ref h), (1, .int (nI c0)), (2, .int wy)]) hx hb dX11_takeColumn_30 hl (by decide) rfl (fun ls hl => ?_)
        refine lp_tcI (iv := iv1_) (Y := Y) (V := V) C ((hs1 20 (by decide)).trans h20v) hN hc (by omega) (fun y => absurd ⟨(hY y).1, (hYb y t (by omega)).2⟩ hno_1) (fun q av hq2 hsA2 hT2 hY2 H locs ls G hl => ?_) 8 0 q av (by omega) (by omega) (by omega) hsA hT (fun y => by have h9 := (hY y).2; rw [show min N (8 * t) = 8 * t + 0 by omega] at h9; exact h9) _ _ _ G (lv_sub hl [0, 2, 3, 1, 4, 5, 6] rfl)
        refine lv_iinc (v := nI (8 * (t + 1))) (lv' := [(4, .int (nI (8 * (t + 1)))), (3, .int (nI q)), (0, .ref h), (1, .int (nI c0)), (2, .int wy)]) hx hb dX11_takeColumn_116 hl (k := 1) rfl (nI_add _ 8) (by decide) rfl (fun ls hl => ?_)
        refine lv_goto (tgt := 12) hx hb dX11_takeColumn_119 (by decide) ?_
        exact ih (t + 1) _ _ q 0 (by omega) (by rw [← Nat.add_assoc]; exact h16_1) h18_1 (by decide) (by rw [show 8 * (t + 1) = 8 * t + 8 by omega]; exact hq2) (hsI.tr hs1 (by decide)) hsA2 hT2 (fun y => absurd ⟨(hY y).1, (hYb y t (by omega)).2⟩ hno_1) _ _ _ G (lv_sub hl [1, 0, 2, 3, 4] rfl)
set_option maxRecDepth 100000 in
set_option maxHeartbeats 4000000 in
theorem lp_tcZ {p : Program} {l : Launch} {e : Env} {s : State} {m : MethodId} {args : Array Value} {below : List Frame} {meth : Method} {c : Code} {Z : zT} {A : Nat → Prop} {Q : State → Prop} {h : Nat} {ad : Nat → Nat} {iv : ivT} {av : avT} {c0 q : Nat} {kx wy : Int32} (C : cx p s m args meth c cX11_takeColumn 8 none RX11 "takeColumn") (h18 : iv 18 = 0) (kk : ∀ (H : Heap) (locs : List Loc) (ls : Array Slot), wd Z A s (mdW Z h ad iv av) H locs → lv_has ls 8 [(3, .int (nI q)), (0, .ref h), (1, .int (nI c0)), (2, .int wy)] → W p l e ({ frames := 2, cells := 0, slots := 0, locals := 80 }) s m args below meth c H locs 0 0 Q (F0 m 320 ls [])) {H : Heap} {locs : List Loc} {ls : Array Slot} (G : wd Z A s (mdW Z h ad iv av) H locs) (hl : lv_has ls 8 [(4, .int kx), (3, .int (nI q)), (0, .ref h), (1, .int (nI c0)), (2, .int wy)]) : W p l e ({ frames := 2, cells := 0, slots := 0, locals := 80 }) s m args below meth c H locs 0 0 Q (F0 m 146 ls []) := by
  have hx := C.1
  have hb := C.2.1
  have hown := C.2.2.2.2.2.1
  have hts := C.2.2.2.2.2.2.1
  refine lv_aload_n hx hb dX11_takeColumn_146 rfl (lv_at hl 2 rfl) ?_
  refine k_mgi (v := 0) C G 18 (by decide) mr_18 h18 fl_X11_175 rfl dX11_takeColumn_147 ?_
  refine lv_if_eq (tgt := 320) hx hb dX11_takeColumn_150 (by decide) (fun c_150 => ?_) (fun c_150 => ?_)
  · have n_150 := nb_eq (a := 0) (b := 0) c_150 (by omega) (by omega)
    exact kk _ _ _ G (lv_sub hl [1, 2, 3, 4] rfl)
  · exact absurd c_150 (by decide)
set_option maxRecDepth 100000 in
set_option maxHeartbeats 4000000 in
theorem lp_tcV0 {p : Program} {l : Launch} {e : Env} {s : State} {m : MethodId} {args : Array Value} {below : List Frame} {meth : Method} {c : Code} {Z : zT} {A : Nat → Prop} {Q : State → Prop} {h : Nat} {ad : Nat → Nat} {iv0 : ivT} {av0 : avT} {c0 q aP PL en : Nat} {Y : Prop} {th : List Int32} (C : cx p s m args meth c cX11_takeColumn 8 none RX11 "takeColumn") (h17 : iv0 17 = nI en) (hen : en ≤ 140000) (haP : aP ≤ 145000) (hq : q ≤ 48) (hPL : Y → PL = (obF 0 (th.take q)).1.length) (hYp : Y → ∀ k, k < q → r4 (av0 3) (aP + (obF 0 (th.take k)).1.length) = th.getD k 0 ∧ aP + (obF 0 (th.take k)).1.length + 4 ≤ en ∧ (obF 0 (th.take (k + 1))).1.length = (obF 0 (th.take k)).1.length + 4) (kk : ∀ (iv : ivT) (av : avT) (a : Nat) (g : Int32), iv 16 = nI a → a ≤ aP + 250 → iv 18 = g → (g = 0 ∨ g = 1) → sI [16, 18] iv0 iv → sA [21, 25] av0 av → av 21 = av0 21 → (Y → g = 1 ∧ a = aP + PL ∧ ∀ i, i < q → av 25 i = th.getD i 0) → ∀ (H : Heap) (locs : List Loc) (ls : Array Slot), wd Z A s (mdW Z h ad iv av) H locs → lv_has ls 8 [(3, .int (nI q)), (0, .ref h), (1, .int (nI c0)), (2, .int 0)] → W p l e ({ frames := 2, cells := 0, slots := 0, locals := 80 }) s m args below meth c H locs 0 0 Q (F0 m 320 ls [])) : ∀ (n : Nat) (k : Nat) (iv : ivT) (av : avT) (a : Nat), k + n = q → iv 16 = nI a → a ≤ aP + 5 * k → iv 18 = 1 → sI [16, 18] iv0 iv → sA [21, 25] av0 av → av 21 = av0 21 → (Y → a = aP + (obF 0 (th.take k)).1.length ∧ ∀ i, i < k → av 25 i = th.getD i 0) → ∀ (H : Heap) (locs : List Loc) (ls : Array Slot), wd Z A s (mdW Z h ad iv av) H locs → lv_has ls 8 [(4, .int (nI k)), (3, .int (nI q)), (0, .ref h), (1, .int (nI c0)), (2, .int 0)] → W p l e ({ frames := 2, cells := 0, slots := 0, locals := 80 }) s m args below meth c H locs 0 0 Q (F0 m 146 ls []) := by
  have hx := C.1
  have hb := C.2.1
  have hown := C.2.2.2.2.2.1
  have hts := C.2.2.2.2.2.2.1
  intro n
  induction n with
  | zero =>
    intro k iv av a hk h16 hak h18 hsI hsA h21 hY H locs ls G hl
    refine lv_aload_n hx hb dX11_takeColumn_146 rfl (lv_at hl 2 rfl) ?_
    refine k_mgi (v := 1) C G 18 (by decide) mr_18 h18 fl_X11_175 rfl dX11_takeColumn_147 ?_
    refine lv_if_eq (tgt := 320) hx hb dX11_takeColumn_150 (by decide) (fun c_150 => ?_) (fun c_150 => ?_)
    · exact absurd c_150 (by decide)
    · have n_150 := nb_ne (a := 1) (b := 0) c_150 (by omega) (by omega)
      refine lv_iload hx hb dX11_takeColumn_153 (lv_at hl 0 rfl) ?_
      refine lv_iload_n hx hb dX11_takeColumn_155 rfl (lv_at hl 1 rfl) ?_
      refine lv_icmp_ge (tgt := 320) hx hb dX11_takeColumn_156 (by decide) (fun c_156 => ?_) (fun c_156 => ?_)
      · have n_156 := nb_le (a := q) (b := k) c_156 (by omega) (by omega)
        have hkq : k = q := by omega
        subst hkq
        exact kk iv av a 1 h16 (by omega) h18 (Or.inr rfl) hsI hsA h21 (fun y => ⟨rfl, (hY y).1.trans (by rw [hPL y]), (hY y).2⟩) _ _ _ G (lv_sub hl [1, 2, 3, 4] rfl)
      · exact absurd (nb_nle (a := q) (b := k) c_156 (by omega) (by omega)) (by omega)
  | succ n ih =>
    intro k iv av a hk h16 hak h18 hsI hsA h21 hY H locs ls G hl
    have h17v : iv 17 = nI en := (hsI 17 (by decide)).trans h17
    refine lv_aload_n hx hb dX11_takeColumn_146 rfl (lv_at hl 2 rfl) ?_
    refine k_mgi (v := 1) C G 18 (by decide) mr_18 h18 fl_X11_175 rfl dX11_takeColumn_147 ?_
    refine lv_if_eq (tgt := 320) hx hb dX11_takeColumn_150 (by decide) (fun c_150 => ?_) (fun c_150 => ?_)
    · exact absurd c_150 (by decide)
    · have n_150 := nb_ne (a := 1) (b := 0) c_150 (by omega) (by omega)
      refine lv_iload hx hb dX11_takeColumn_153 (lv_at hl 0 rfl) ?_
      refine lv_iload_n hx hb dX11_takeColumn_155 rfl (lv_at hl 1 rfl) ?_
      refine lv_icmp_ge (tgt := 320) hx hb dX11_takeColumn_156 (by decide) (fun c_156 => ?_) (fun c_156 => ?_)
      · exact absurd (nb_le (a := q) (b := k) c_156 (by omega) (by omega)) (by omega)
      · have n_156 := nb_nle (a := q) (b := k) c_156 (by omega) (by omega)
        refine lv_iload_n hx hb dX11_takeColumn_159 rfl (lv_at hl 4 rfl) ?_
        refine lv_if_ne (tgt := 182) hx hb dX11_takeColumn_160 (by decide) (fun c_160 => ?_) (fun c_160 => ?_)
        · exact absurd c_160 (by decide)
        · have n_160 := nb_eq (a := 0) (b := 0) c_160 (by omega) (by omega)
          refine lv_aload_n hx hb dX11_takeColumn_163 rfl (lv_at hl 2 rfl) ?_
          refine k_mga C G 25 (by decide) mr_25 fl_X11_47 rfl dX11_takeColumn_164 ?_
          refine lv_iload hx hb dX11_takeColumn_167 (lv_at hl 0 rfl) ?_
          refine lv_aload_n hx hb dX11_takeColumn_169 rfl (lv_at hl 2 rfl) ?_
          refine lv_iconst (v := 4) hx hb dX11_takeColumn_170 (by decide) ?_
          refine kcM_l G (krV 1 rfl (As := [.int 4]) (rest := [.int (nI k), .ref (ad 25)]) (ci := 12) (CC := RX11) (T := TX11) (N := 61) C G pmN (c_mt4 Z l h ad iv av a en 1 h16 h17v h18 (Or.inr rfl) (by omega) (by omega) _) (gdV ml_X11_213 im_X11_take se_X11_take ii_X11 co_X11_take) (by decide +kernel) ⟨Nat.le_of_ble_eq_true rfl, Nat.le_of_ble_eq_true rfl⟩ rfl 0 rfl hl rfl (Nat.le_of_ble_eq_true rfl) ⟨Nat.le_of_ble_eq_true rfl, Nat.le_of_ble_eq_true rfl⟩ dX11_takeColumn_171) (fun r_171 u H locs hu G => ?_)
          obtain ⟨iv1_, rfl, hs1, h16_1, hcs1⟩ := hu
          have h17_1 : iv1_ 17 = nI en := (hs1 17 (by decide)).trans h17v
          rcases hcs1 with ⟨hg_1, hle_1, h18_1, r_171_e⟩ | ⟨hno_1, h18_1⟩
          · refine lv_l2i (v := r_171.toInt32) hx hb dX11_takeColumn_174 rfl ?_
            refine k_topi (y := r4 (av 3) a) r_171_e ?_
            refine k_mis (x := r4 (av 3) a) (i := k) C G 9 (k := 25) (n := 48) mp_25 (by decide) (by omega) dX11_takeColumn_175 (fun H locs (G : wd Z A s (mdW Z h ad iv1_ (ua av 25 (upd (av 25) k (r4 (av 3) a)))) H locs) => ?_)
            refine lv_iinc (v := nI (k + 1)) (lv' := [(4, .int (nI (k + 1))), (3, .int (nI q)), (0, .ref h), (1, .int (nI c0)), (2, .int 0)]) hx hb dX11_takeColumn_176 hl (k := 0) rfl (nI_1 _) (by decide) rfl (fun ls hl => ?_)
            refine lv_goto (tgt := 146) hx hb dX11_takeColumn_179 (by decide) ?_
            exact ih (k + 1) _ _ (a + 4) (by omega) h16_1 (by omega) h18_1 (hsI.tr hs1 (by decide)) (hsA.up (k := 25) (by decide) _) h21 (fun y => by
              obtain ⟨e1, e2, e3⟩ := hYp y k (by omega)
              have ea := (hY y).1
              refine ⟨by rw [ea, e3]; omega, fun i hi => ?_⟩
              show upd (av 25) k (r4 (av 3) a) i = _
              by_cases e : i = k
              · subst e; rw [pk_us, hsA 3 (by decide), ea]; exact e1
              · rw [pk_un e]; exact (hY y).2 i (by omega)) _ _ _ G (lv_sub hl [0, 1, 2, 3, 4] rfl)
          · refine lv_l2i (v := r_171.toInt32) hx hb dX11_takeColumn_174 rfl ?_
            refine lv_topi (fun x4_1 ex4_1 => ?_)
            refine k_mis (x := x4_1) (i := k) C G 9 (k := 25) (n := 48) mp_25 (by decide) (by omega) dX11_takeColumn_175 (fun H locs (G : wd Z A s (mdW Z h ad iv1_ (ua av 25 (upd (av 25) k x4_1))) H locs) => ?_)
            refine lv_iinc (v := nI (k + 1)) (lv' := [(4, .int (nI (k + 1))), (3, .int (nI q)), (0, .ref h), (1, .int (nI c0)), (2, .int 0)]) hx hb dX11_takeColumn_176 hl (k := 0) rfl (nI_1 _) (by decide) rfl (fun ls hl => ?_)
            refine lv_goto (tgt := 146) hx hb dX11_takeColumn_179 (by decide) ?_
            exact lp_tcZ C h18_1 (fun H locs ls G hl => kk _ _ (a + 4) 0 h16_1 (by omega) h18_1 (Or.inl rfl) (hsI.tr hs1 (by decide)) (hsA.up (k := 25) (by decide) _) h21 (fun y => absurd ⟨rfl, by have h9 := (hYp y k (by omega)).2.1; have h8 := (hY y).1; omega⟩ hno_1) _ _ _ G hl) G (lv_sub hl [0, 1, 2, 3, 4] rfl)
set_option maxRecDepth 100000 in
set_option maxHeartbeats 4000000 in
theorem lp_tcV2 {p : Program} {l : Launch} {e : Env} {s : State} {m : MethodId} {args : Array Value} {below : List Frame} {meth : Method} {c : Code} {Z : zT} {A : Nat → Prop} {Q : State → Prop} {h : Nat} {ad : Nat → Nat} {iv0 : ivT} {av0 : avT} {c0 q aP PL en : Nat} {Y : Prop} {th : List Int32} (C : cx p s m args meth c cX11_takeColumn 8 none RX11 "takeColumn") (h17 : iv0 17 = nI en) (hen : en ≤ 140000) (haP : aP ≤ 145000) (hq : q ≤ 48) (hf0 : ∀ i, fits .byte (.int (av0 3 i)) = true) (hPL : Y → PL = (obF 2 (th.take q)).1.length) (hYp : Y → ∀ k, k < q → rdV (av0 3) en (aP + (obF 2 (th.take k)).1.length, 0) = (th.getD k 0 - ahd th k, (aP + (obF 2 (th.take (k + 1))).1.length, 0))) (kk : ∀ (iv : ivT) (av : avT) (a : Nat) (g : Int32), iv 16 = nI a → a ≤ aP + 250 → iv 18 = g → (g = 0 ∨ g = 1) → sI [16, 18] iv0 iv → sA [21, 25] av0 av → av 21 = av0 21 → (Y → g = 1 ∧ a = aP + PL ∧ ∀ i, i < q → av 25 i = th.getD i 0) → ∀ (H : Heap) (locs : List Loc) (ls : Array Slot), wd Z A s (mdW Z h ad iv av) H locs → lv_has ls 8 [(3, .int (nI q)), (0, .ref h), (1, .int (nI c0)), (2, .int 2)] → W p l e ({ frames := 2, cells := 0, slots := 0, locals := 80 }) s m args below meth c H locs 0 0 Q (F0 m 320 ls [])) : ∀ (n : Nat) (k : Nat) (iv : ivT) (av : avT) (a : Nat), k + n = q → iv 16 = nI a → a ≤ aP + 5 * k → iv 18 = 1 → sI [16, 18] iv0 iv → sA [21, 25] av0 av → av 21 = av0 21 → (Y → a = aP + (obF 2 (th.take k)).1.length ∧ ∀ i, i < k → av 25 i = th.getD i 0) → ∀ (H : Heap) (locs : List Loc) (ls : Array Slot), wd Z A s (mdW Z h ad iv av) H locs → lv_has ls 8 [(4, .int (nI k)), (3, .int (nI q)), (0, .ref h), (1, .int (nI c0)), (2, .int 2)] → W p l e ({ frames := 2, cells := 0, slots := 0, locals := 80 }) s m args below meth c H locs 0 0 Q (F0 m 146 ls []) := by
  have hx := C.1
  have hb := C.2.1
  have hown := C.2.2.2.2.2.1
  have hts := C.2.2.2.2.2.2.1
  intro n
  induction n with
  | zero =>
    intro k iv av a hk h16 hak h18 hsI hsA h21 hY H locs ls G hl
    refine lv_aload_n hx hb dX11_takeColumn_146 rfl (lv_at hl 2 rfl) ?_
    refine k_mgi (v := 1) C G 18 (by decide) mr_18 h18 fl_X11_175 rfl dX11_takeColumn_147 ?_
    refine lv_if_eq (tgt := 320) hx hb dX11_takeColumn_150 (by decide) (fun c_150 => ?_) (fun c_150 => ?_)
    · exact absurd c_150 (by decide)
    · have n_150 := nb_ne (a := 1) (b := 0) c_150 (by omega) (by omega)
      refine lv_iload hx hb dX11_takeColumn_153 (lv_at hl 0 rfl) ?_
      refine lv_iload_n hx hb dX11_takeColumn_155 rfl (lv_at hl 1 rfl) ?_
      refine lv_icmp_ge (tgt := 320) hx hb dX11_takeColumn_156 (by decide) (fun c_156 => ?_) (fun c_156 => ?_)
      · have n_156 := nb_le (a := q) (b := k) c_156 (by omega) (by omega)
        have hkq : k = q := by omega
        subst hkq
        exact kk iv av a 1 h16 (by omega) h18 (Or.inr rfl) hsI hsA h21 (fun y => ⟨rfl, (hY y).1.trans (by rw [hPL y]), (hY y).2⟩) _ _ _ G (lv_sub hl [1, 2, 3, 4] rfl)
      · exact absurd (nb_nle (a := q) (b := k) c_156 (by omega) (by omega)) (by omega)
  | succ n ih =>
    intro k iv av a hk h16 hak h18 hsI hsA h21 hY H locs ls G hl
    have h17v : iv 17 = nI en := (hsI 17 (by decide)).trans h17
    have hfv : ∀ i, fits .byte (.int (av 3 i)) = true := by rw [hsA 3 (by decide)]; exact hf0
    refine lv_aload_n hx hb dX11_takeColumn_146 rfl (lv_at hl 2 rfl) ?_
    refine k_mgi (v := 1) C G 18 (by decide) mr_18 h18 fl_X11_175 rfl dX11_takeColumn_147 ?_
    refine lv_if_eq (tgt := 320) hx hb dX11_takeColumn_150 (by decide) (fun c_150 => ?_) (fun c_150 => ?_)
    · exact absurd c_150 (by decide)
    · have n_150 := nb_ne (a := 1) (b := 0) c_150 (by omega) (by omega)
      refine lv_iload hx hb dX11_takeColumn_153 (lv_at hl 0 rfl) ?_
      refine lv_iload_n hx hb dX11_takeColumn_155 rfl (lv_at hl 1 rfl) ?_
      refine lv_icmp_ge (tgt := 320) hx hb dX11_takeColumn_156 (by decide) (fun c_156 => ?_) (fun c_156 => ?_)
      · exact absurd (nb_le (a := q) (b := k) c_156 (by omega) (by omega)) (by omega)
      · have n_156 := nb_nle (a := q) (b := k) c_156 (by omega) (by omega)
        refine lv_iload_n hx hb dX11_takeColumn_159 rfl (lv_at hl 4 rfl) ?_
        refine lv_if_ne (tgt := 182) hx hb dX11_takeColumn_160 (by decide) (fun c_160 => ?_) (fun c_160 => ?_)
        · have n_160 := nb_ne (a := 2) (b := 0) c_160 (by omega) (by omega)
          refine lv_iload_n hx hb dX11_takeColumn_182 rfl (lv_at hl 4 rfl) ?_
          refine lv_iconst (v := 2) hx hb dX11_takeColumn_183 (by decide) ?_
          refine lv_icmp_ne (tgt := 228) hx hb dX11_takeColumn_184 (by decide) (fun c_184 => ?_) (fun c_184 => ?_)
          · exact absurd c_184 (by decide)
          · have n_184 := nb_eq (a := 2) (b := 2) c_184 (by omega) (by omega)
            refine lv_aload_n hx hb dX11_takeColumn_187 rfl (lv_at hl 2 rfl) ?_
            refine kcM_i G (krV 0 rfl (As := []) (rest := []) (ci := 12) (CC := RX11) (T := TX11) (N := 61) C G pmN (c_X11_takeVarint Z l h ad iv av a en hfv (by omega) hen h16 h17v h18 _) (gdV ml_X11_230 im_X11_takeVarint se_X11_takeVarint ii_X11 co_X11_takeVarint) (by decide +kernel) ⟨Nat.le_of_ble_eq_true rfl, Nat.le_of_ble_eq_true rfl⟩ rfl 0 rfl hl rfl (Nat.le_of_ble_eq_true rfl) ⟨Nat.le_of_ble_eq_true rfl, Nat.le_of_ble_eq_true rfl⟩ dX11_takeColumn_188) (fun r_188 u H locs hu G => ?_)
            obtain ⟨iv1_, a2, rfl, hs1, h16_1, hla, hua, hcs1⟩ := hu
            rcases hcs1 with ⟨hbr, h18_1, ha2, r_188_e⟩ | ⟨hbr, h18_1⟩
            · have hdd := r_188_e
              refine lv_istore (lv' := [(5, .int r_188), (4, .int (nI k)), (3, .int (nI q)), (0, .ref h), (1, .int (nI c0)), (2, .int 2)]) hx hb dX11_takeColumn_191 hl (by decide) rfl (fun ls hl => ?_)
              refine lv_aload_n hx hb dX11_takeColumn_193 rfl (lv_at hl 3 rfl) ?_
              refine k_mga C G 25 (by decide) mr_25 fl_X11_47 rfl dX11_takeColumn_194 ?_
              refine lv_iload hx hb dX11_takeColumn_197 (lv_at hl 1 rfl) ?_
              refine lv_iload hx hb dX11_takeColumn_199 (lv_at hl 1 rfl) ?_
              refine lv_if_ne (tgt := 209) hx hb dX11_takeColumn_201 (by decide) (fun c_201 => ?_) (fun c_201 => ?_)
              · have n_201 := nb_ne (a := k) (b := 0) c_201 (by omega) (by omega)
                refine lv_aload_n hx hb dX11_takeColumn_209 rfl (lv_at hl 3 rfl) ?_
                refine k_mga C G 25 (by decide) mr_25 fl_X11_47 rfl dX11_takeColumn_210 ?_
                refine lv_iload hx hb dX11_takeColumn_213 (lv_at hl 1 rfl) ?_
                refine lv_iconst (v := 1) hx hb dX11_takeColumn_215 (by decide) ?_
                refine lv_isub hx hb dX11_takeColumn_216 ?_
                refine k_topi (y := nI (k - 1)) (pk_sub (a := k) (b := 1) (by omega)) ?_
                refine k_mil (v := (av 25) (k - 1)) (i := k - 1) C G 9 (k := 25) (n := 48) mp_25 (by decide) (by omega) rfl dX11_takeColumn_217 ?_
                refine lv_iload hx hb dX11_takeColumn_218 (lv_at hl 0 rfl) ?_
                refine lv_iadd hx hb dX11_takeColumn_220 ?_
                refine k_mis (x := ((av 25) (k - 1)) + r_188) (i := k) C G 9 (k := 25) (n := 48) mp_25 (by decide) (by omega) dX11_takeColumn_221 (fun H locs (G : wd Z A s (mdW Z h ad iv1_ (ua av 25 (upd (av 25) k (((av 25) (k - 1)) + r_188)))) H locs) => ?_)
                refine lv_iinc (v := nI (k + 1)) (lv' := [(4, .int (nI (k + 1))), (5, .int r_188), (3, .int (nI q)), (0, .ref h), (1, .int (nI c0)), (2, .int 2)]) hx hb dX11_takeColumn_222 hl (k := 1) rfl (nI_1 _) (by decide) rfl (fun ls hl => ?_)
                refine lv_goto (tgt := 146) hx hb dX11_takeColumn_225 (by decide) ?_
                exact ih (k + 1) _ _ a2 (by omega) h16_1 (by omega) h18_1 (hsI.tr hs1 (by decide)) (hsA.up (k := 25) (by decide) _) h21 (fun y => by
                  have e1 := hYp y k (by omega)
                  have ea := (hY y).1
                  rw [← ea, ← hsA 3 (by decide)] at e1
                  refine ⟨by rw [ha2, e1], fun i hi => ?_⟩
                  show (upd (av 25) k (((av 25) (k - 1)) + r_188)) i = _
                  by_cases e : i = k
                  · subst e; rw [pk_us]; rw [hdd, e1, (hY y).2 (i - 1) (by omega)]; show th.getD (i - 1) 0 + (th.getD i 0 - ahd th i) = _; rw [ahd, if_neg n_201, Int32.add_comm, Int32.sub_add_cancel]
                  · rw [pk_un e]; exact (hY y).2 i (by omega)) _ _ _ G (lv_sub hl [0, 2, 3, 4, 5] rfl)
              · have n_201 := nb_eq (a := k) (b := 0) c_201 (by omega) (by omega)
                refine lv_iload hx hb dX11_takeColumn_204 (lv_at hl 0 rfl) ?_
                refine lv_goto (tgt := 221) hx hb dX11_takeColumn_206 (by decide) ?_
                refine k_mis (x := r_188) (i := k) C G 9 (k := 25) (n := 48) mp_25 (by decide) (by omega) dX11_takeColumn_221 (fun H locs (G : wd Z A s (mdW Z h ad iv1_ (ua av 25 (upd (av 25) k r_188))) H locs) => ?_)
                refine lv_iinc (v := nI (k + 1)) (lv' := [(4, .int (nI (k + 1))), (5, .int r_188), (3, .int (nI q)), (0, .ref h), (1, .int (nI c0)), (2, .int 2)]) hx hb dX11_takeColumn_222 hl (k := 1) rfl (nI_1 _) (by decide) rfl (fun ls hl => ?_)
                refine lv_goto (tgt := 146) hx hb dX11_takeColumn_225 (by decide) ?_
                exact ih (k + 1) _ _ a2 (by omega) h16_1 (by omega) h18_1 (hsI.tr hs1 (by decide)) (hsA.up (k := 25) (by decide) _) h21 (fun y => by
                  have e1 := hYp y k (by omega)
                  have ea := (hY y).1
                  rw [← ea, ← hsA 3 (by decide)] at e1
                  refine ⟨by rw [ha2, e1], fun i hi => ?_⟩
                  show (upd (av 25) k r_188) i = _
                  by_cases e : i = k
                  · subst e; rw [pk_us]; rw [hdd, e1]; show th.getD i 0 - ahd th i = _; rw [ahd, if_pos n_201]; exact Int32.sub_zero _
                  · rw [pk_un e]; exact (hY y).2 i (by omega)) _ _ _ G (lv_sub hl [0, 2, 3, 4, 5] rfl)
            · have hdd := hbr
              refine lv_istore (lv' := [(5, .int r_188), (4, .int (nI k)), (3, .int (nI q)), (0, .ref h), (1, .int (nI c0)), (2, .int 2)]) hx hb dX11_takeColumn_191 hl (by decide) rfl (fun ls hl => ?_)
              refine lv_aload_n hx hb dX11_takeColumn_193 rfl (lv_at hl 3 rfl) ?_
              refine k_mga C G 25 (by decide) mr_25 fl_X11_47 rfl dX11_takeColumn_194 ?_
              refine lv_iload hx hb dX11_takeColumn_197 (lv_at hl 1 rfl) ?_
              refine lv_iload hx hb dX11_takeColumn_199 (lv_at hl 1 rfl) ?_
              refine lv_if_ne (tgt := 209) hx hb dX11_takeColumn_201 (by decide) (fun c_201 => ?_) (fun c_201 => ?_)
              · have n_201 := nb_ne (a := k) (b := 0) c_201 (by omega) (by omega)
                refine lv_aload_n hx hb dX11_takeColumn_209 rfl (lv_at hl 3 rfl) ?_
                refine k_mga C G 25 (by decide) mr_25 fl_X11_47 rfl dX11_takeColumn_210 ?_
                refine lv_iload hx hb dX11_takeColumn_213 (lv_at hl 1 rfl) ?_
                refine lv_iconst (v := 1) hx hb dX11_takeColumn_215 (by decide) ?_
                refine lv_isub hx hb dX11_takeColumn_216 ?_
                refine k_topi (y := nI (k - 1)) (pk_sub (a := k) (b := 1) (by omega)) ?_
                refine k_mil (v := (av 25) (k - 1)) (i := k - 1) C G 9 (k := 25) (n := 48) mp_25 (by decide) (by omega) rfl dX11_takeColumn_217 ?_
                refine lv_iload hx hb dX11_takeColumn_218 (lv_at hl 0 rfl) ?_
                refine lv_iadd hx hb dX11_takeColumn_220 ?_
                refine k_mis (x := ((av 25) (k - 1)) + r_188) (i := k) C G 9 (k := 25) (n := 48) mp_25 (by decide) (by omega) dX11_takeColumn_221 (fun H locs (G : wd Z A s (mdW Z h ad iv1_ (ua av 25 (upd (av 25) k (((av 25) (k - 1)) + r_188)))) H locs) => ?_)
                refine lv_iinc (v := nI (k + 1)) (lv' := [(4, .int (nI (k + 1))), (5, .int r_188), (3, .int (nI q)), (0, .ref h), (1, .int (nI c0)), (2, .int 2)]) hx hb dX11_takeColumn_222 hl (k := 1) rfl (nI_1 _) (by decide) rfl (fun ls hl => ?_)
                refine lv_goto (tgt := 146) hx hb dX11_takeColumn_225 (by decide) ?_
                exact lp_tcZ C h18_1 (fun H locs ls G hl => kk _ _ a2 0 h16_1 (by omega) h18_1 (Or.inl rfl) (hsI.tr hs1 (by decide)) (hsA.up (k := 25) (by decide) _) h21 (fun y => absurd (by have e1 := hYp y k (by omega); rw [← (hY y).1, ← hsA 3 (by decide)] at e1; rw [e1]) hdd) _ _ _ G hl) G (lv_sub hl [0, 2, 3, 4, 5] rfl)
              · have n_201 := nb_eq (a := k) (b := 0) c_201 (by omega) (by omega)
                refine lv_iload hx hb dX11_takeColumn_204 (lv_at hl 0 rfl) ?_
                refine lv_goto (tgt := 221) hx hb dX11_takeColumn_206 (by decide) ?_
                refine k_mis (x := r_188) (i := k) C G 9 (k := 25) (n := 48) mp_25 (by decide) (by omega) dX11_takeColumn_221 (fun H locs (G : wd Z A s (mdW Z h ad iv1_ (ua av 25 (upd (av 25) k r_188))) H locs) => ?_)
                refine lv_iinc (v := nI (k + 1)) (lv' := [(4, .int (nI (k + 1))), (5, .int r_188), (3, .int (nI q)), (0, .ref h), (1, .int (nI c0)), (2, .int 2)]) hx hb dX11_takeColumn_222 hl (k := 1) rfl (nI_1 _) (by decide) rfl (fun ls hl => ?_)
                refine lv_goto (tgt := 146) hx hb dX11_takeColumn_225 (by decide) ?_
                exact lp_tcZ C h18_1 (fun H locs ls G hl => kk _ _ a2 0 h16_1 (by omega) h18_1 (Or.inl rfl) (hsI.tr hs1 (by decide)) (hsA.up (k := 25) (by decide) _) h21 (fun y => absurd (by have e1 := hYp y k (by omega); rw [← (hY y).1, ← hsA 3 (by decide)] at e1; rw [e1]) hdd) _ _ _ G hl) G (lv_sub hl [0, 2, 3, 4, 5] rfl)
        · exact absurd c_160 (by decide)
