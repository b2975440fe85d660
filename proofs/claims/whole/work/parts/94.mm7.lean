/-! MODEL (X11): takeVarint. -/
set_option maxRecDepth 100000 in
set_option maxHeartbeats 4000000 in
theorem lp_mtvX0 {p : Program} {l : Launch} {e : Env} {s : State} {m : MethodId} {args : Array Value} {below : List Frame} {meth : Method} {c : Code} {Z : zT} {A : Nat → Prop} {h : Nat} {ad : Nat → Nat} {iv : ivT} {av : avT} {z sh : Int32} {b : Nat} {post : Int32 → va_W → Prop} (C : cx p s m args meth c cX11_takeVarint 4 (some .int) RX11 "takeVarint") (h18 : iv 18 = 0) (hb8 : b < 256) (hp : post (ush z 1 ^^^ -(z &&& 1)) (mdW Z h ad (upd iv 18 0) av)) {H : Heap} {locs : List Loc} {ls : Array Slot} (G : wd Z A s (mdW Z h ad iv av) H locs) (hl : lv_has ls 4 [(1, .int z), (2, .int sh), (3, .int (nI b)), (0, .ref h)]) : W p l e ({ frames := 1, cells := 0, slots := 0, locals := 40 }) s m args below meth c H locs 0 0 (MQ below (va_Qi post (mB Z A) A) args s 0 0 A) (F0 m 8 ls []) := by
  have hx := C.1
  have hb := C.2.1
  have hown := C.2.2.2.2.2.1
  have hts := C.2.2.2.2.2.2.1
  refine lv_aload_n hx hb dX11_takeVarint_8 rfl (lv_at hl 3 rfl) ?_
  refine k_mgi (v := 0) C G 18 (by decide) mr_18 h18 fl_X11_175 rfl dX11_takeVarint_9 ?_
  refine lv_if_eq (tgt := 60) hx hb dX11_takeVarint_12 (by decide) (fun c_12 => ?_) (fun c_12 => ?_)
  · have n_12 := nb_eq (a := 0) (b := 0) c_12 (by omega) (by omega)
    refine lv_aload_n hx hb dX11_takeVarint_60 rfl (lv_at hl 3 rfl) ?_
    refine lv_aload_n hx hb dX11_takeVarint_61 rfl (lv_at hl 3 rfl) ?_
    refine k_mgi (v := 0) C G 18 (by decide) mr_18 h18 fl_X11_175 rfl dX11_takeVarint_62 ?_
    refine lv_if_eq (tgt := 79) hx hb dX11_takeVarint_65 (by decide) (fun c_65 => ?_) (fun c_65 => ?_)
    · have n_65 := nb_eq (a := 0) (b := 0) c_65 (by omega) (by omega)
      refine lv_iconst (v := 0) hx hb dX11_takeVarint_79 (by decide) ?_
      refine k_mpi (v := 0) (ty := .boolean) C G 18 (by decide) mr_18 fl_X11_175 rfl rfl rfl rfl rfl dX11_takeVarint_80 (fun H locs (G : wd Z A s (mdW Z h ad (upd iv 18 0) av) H locs) => ?_)
      refine lv_iload_n hx hb dX11_takeVarint_83 rfl (lv_at hl 0 rfl) ?_
      refine lv_iconst (v := 1) hx hb dX11_takeVarint_84 (by decide) ?_
      refine lv_iushr (v := ush z 1) hx hb dX11_takeVarint_85 rfl ?_
      refine lv_iload_n hx hb dX11_takeVarint_86 rfl (lv_at hl 0 rfl) ?_
      refine lv_iconst (v := 1) hx hb dX11_takeVarint_87 (by decide) ?_
      refine lv_iand hx hb dX11_takeVarint_88 ?_
      refine lv_ineg hx hb dX11_takeVarint_89 ?_
      refine lv_ixor hx hb dX11_takeVarint_90 ?_
      exact kr_i C G hp (Nat.le_of_ble_eq_true rfl) (Nat.le_of_ble_eq_true rfl) dX11_takeVarint_91
    · exact absurd c_65 (by decide)
  · exact absurd c_12 (by decide)
set_option maxRecDepth 100000 in
set_option maxHeartbeats 4000000 in
theorem lp_mtvX1 {p : Program} {l : Launch} {e : Env} {s : State} {m : MethodId} {args : Array Value} {below : List Frame} {meth : Method} {c : Code} {Z : zT} {A : Nat → Prop} {h : Nat} {ad : Nat → Nat} {iv : ivT} {av : avT} {z sh : Int32} {b : Nat} {post : Int32 → va_W → Prop} (C : cx p s m args meth c cX11_takeVarint 4 (some .int) RX11 "takeVarint") (h18 : iv 18 = 1) (hb8 : b < 128) (hp : post (ush z 1 ^^^ -(z &&& 1)) (mdW Z h ad (upd iv 18 1) av)) {H : Heap} {locs : List Loc} {ls : Array Slot} (G : wd Z A s (mdW Z h ad iv av) H locs) (hl : lv_has ls 4 [(1, .int z), (2, .int sh), (3, .int (nI b)), (0, .ref h)]) : W p l e ({ frames := 1, cells := 0, slots := 0, locals := 40 }) s m args below meth c H locs 0 0 (MQ below (va_Qi post (mB Z A) A) args s 0 0 A) (F0 m 8 ls []) := by
  have hx := C.1
  have hb := C.2.1
  have hown := C.2.2.2.2.2.1
  have hts := C.2.2.2.2.2.2.1
  refine lv_aload_n hx hb dX11_takeVarint_8 rfl (lv_at hl 3 rfl) ?_
  refine k_mgi (v := 1) C G 18 (by decide) mr_18 h18 fl_X11_175 rfl dX11_takeVarint_9 ?_
  refine lv_if_eq (tgt := 60) hx hb dX11_takeVarint_12 (by decide) (fun c_12 => ?_) (fun c_12 => ?_)
  · exact absurd c_12 (by decide)
  · have n_12 := nb_ne (a := 1) (b := 0) c_12 (by omega) (by omega)
    refine lv_iload_n hx hb dX11_takeVarint_15 rfl (lv_at hl 2 rfl) ?_
    refine lv_sipush (v := 128) hx hb dX11_takeVarint_16 (by decide) ?_
    refine lv_icmp_lt (tgt := 60) hx hb dX11_takeVarint_19 (by decide) (fun c_19 => ?_) (fun c_19 => ?_)
    · have n_19 := nb_lt (a := b) (b := 128) c_19 (by omega) (by omega)
      refine lv_aload_n hx hb dX11_takeVarint_60 rfl (lv_at hl 3 rfl) ?_
      refine lv_aload_n hx hb dX11_takeVarint_61 rfl (lv_at hl 3 rfl) ?_
      refine k_mgi (v := 1) C G 18 (by decide) mr_18 h18 fl_X11_175 rfl dX11_takeVarint_62 ?_
      refine lv_if_eq (tgt := 79) hx hb dX11_takeVarint_65 (by decide) (fun c_65 => ?_) (fun c_65 => ?_)
      · exact absurd c_65 (by decide)
      · have n_65 := nb_ne (a := 1) (b := 0) c_65 (by omega) (by omega)
        refine lv_iload_n hx hb dX11_takeVarint_68 rfl (lv_at hl 2 rfl) ?_
        refine lv_sipush (v := 128) hx hb dX11_takeVarint_69 (by decide) ?_
        refine lv_icmp_ge (tgt := 79) hx hb dX11_takeVarint_72 (by decide) (fun c_72 => ?_) (fun c_72 => ?_)
        · exact absurd (nb_le (a := 128) (b := b) c_72 (by omega) (by omega)) (by omega)
        · have n_72 := nb_nle (a := 128) (b := b) c_72 (by omega) (by omega)
          refine lv_iconst (v := 1) hx hb dX11_takeVarint_75 (by decide) ?_
          refine lv_goto (tgt := 80) hx hb dX11_takeVarint_76 (by decide) ?_
          refine k_mpi (v := 1) (ty := .boolean) C G 18 (by decide) mr_18 fl_X11_175 rfl rfl rfl rfl rfl dX11_takeVarint_80 (fun H locs (G : wd Z A s (mdW Z h ad (upd iv 18 1) av) H locs) => ?_)
          refine lv_iload_n hx hb dX11_takeVarint_83 rfl (lv_at hl 0 rfl) ?_
          refine lv_iconst (v := 1) hx hb dX11_takeVarint_84 (by decide) ?_
          refine lv_iushr (v := ush z 1) hx hb dX11_takeVarint_85 rfl ?_
          refine lv_iload_n hx hb dX11_takeVarint_86 rfl (lv_at hl 0 rfl) ?_
          refine lv_iconst (v := 1) hx hb dX11_takeVarint_87 (by decide) ?_
          refine lv_iand hx hb dX11_takeVarint_88 ?_
          refine lv_ineg hx hb dX11_takeVarint_89 ?_
          refine lv_ixor hx hb dX11_takeVarint_90 ?_
          exact kr_i C G hp (Nat.le_of_ble_eq_true rfl) (Nat.le_of_ble_eq_true rfl) dX11_takeVarint_91
    · exact absurd (nb_nlt (a := b) (b := 128) c_19 (by omega) (by omega)) (by omega)
set_option maxRecDepth 100000 in
set_option maxHeartbeats 4000000 in
theorem lp_mtv {p : Program} {l : Launch} {e : Env} {s : State} {m : MethodId} {args : Array Value} {below : List Frame} {meth : Method} {c : Code} {Z : zT} {A : Nat → Prop} {h : Nat} {ad : Nat → Nat} {iv0 : ivT} {av : avT} {a0 en : Nat} {RES : Int32 × Nat × Int32} {post : Int32 → va_W → Prop} (C : cx p s m args meth c cX11_takeVarint 4 (some .int) RX11 "takeVarint") (hf : ∀ i, fits .byte (.int (av 3 i)) = true) (ha0 : a0 ≤ 150000) (hen : en ≤ 140000) (hp : ∀ (iv2 : ivT) (a2 : Nat) (r : Int32), sI [16, 18] iv0 iv2 → iv2 16 = nI a2 → a0 ≤ a2 → a2 ≤ a0 + 5 → ((RES.2.2 = 0 ∧ iv2 18 = 1 ∧ a2 = RES.2.1 ∧ r = RES.1) ∨ (¬ RES.2.2 = 0 ∧ iv2 18 = 0)) → post r (mdW Z h ad iv2 av)) : ∀ (n j : Nat) (z : Int32) (a : Nat) (iv : ivT) (b : Nat), j + n = 5 → iv 16 = nI a → iv 17 = nI en → iv 18 = 1 → 128 ≤ b → b < 256 → sI [16, 18] iv0 iv → a = a0 + j → rvL (av 3) en 0 n j z a = RES → ∀ (H : Heap) (locs : List Loc) (ls : Array Slot), wd Z A s (mdW Z h ad iv av) H locs → lv_has ls 4 [(1, .int z), (2, .int (nI (7 * j))), (3, .int (nI b)), (0, .ref h)] → W p l e ({ frames := 1, cells := 0, slots := 0, locals := 40 }) s m args below meth c H locs 0 0 (MQ below (va_Qi post (mB Z A) A) args s 0 0 A) (F0 m 8 ls []) := by
  have hx := C.1
  have hb := C.2.1
  have hown := C.2.2.2.2.2.1
  have hts := C.2.2.2.2.2.2.1
  intro n
  induction n with
  | zero =>
    intro j z a iv b hj h16 h17 h18 hb1 hb2 hsI haj hR H locs ls G hl
    refine lv_aload_n hx hb dX11_takeVarint_8 rfl (lv_at hl 3 rfl) ?_
    refine k_mgi (v := 1) C G 18 (by decide) mr_18 h18 fl_X11_175 rfl dX11_takeVarint_9 ?_
    refine lv_if_eq (tgt := 60) hx hb dX11_takeVarint_12 (by decide) (fun c_12 => ?_) (fun c_12 => ?_)
    · exact absurd c_12 (by decide)
    · have n_12 := nb_ne (a := 1) (b := 0) c_12 (by omega) (by omega)
      refine lv_iload_n hx hb dX11_takeVarint_15 rfl (lv_at hl 2 rfl) ?_
      refine lv_sipush (v := 128) hx hb dX11_takeVarint_16 (by decide) ?_
      refine lv_icmp_lt (tgt := 60) hx hb dX11_takeVarint_19 (by decide) (fun c_19 => ?_) (fun c_19 => ?_)
      · exact absurd (nb_lt (a := b) (b := 128) c_19 (by omega) (by omega)) (by omega)
      · have n_19 := nb_nlt (a := b) (b := 128) c_19 (by omega) (by omega)
        refine lv_iload_n hx hb dX11_takeVarint_22 rfl (lv_at hl 1 rfl) ?_
        refine lv_bipush (v := 35) hx hb dX11_takeVarint_23 (by decide) ?_
        refine lv_icmp_ge (tgt := 60) hx hb dX11_takeVarint_25 (by decide) (fun c_25 => ?_) (fun c_25 => ?_)
        · have n_25 := nb_le (a := 35) (b := 7 * j) c_25 (by omega) (by omega)
          refine lv_aload_n hx hb dX11_takeVarint_60 rfl (lv_at hl 3 rfl) ?_
          refine lv_aload_n hx hb dX11_takeVarint_61 rfl (lv_at hl 3 rfl) ?_
          refine k_mgi (v := 1) C G 18 (by decide) mr_18 h18 fl_X11_175 rfl dX11_takeVarint_62 ?_
          refine lv_if_eq (tgt := 79) hx hb dX11_takeVarint_65 (by decide) (fun c_65 => ?_) (fun c_65 => ?_)
          · exact absurd c_65 (by decide)
          · have n_65 := nb_ne (a := 1) (b := 0) c_65 (by omega) (by omega)
            refine lv_iload_n hx hb dX11_takeVarint_68 rfl (lv_at hl 2 rfl) ?_
            refine lv_sipush (v := 128) hx hb dX11_takeVarint_69 (by decide) ?_
            refine lv_icmp_ge (tgt := 79) hx hb dX11_takeVarint_72 (by decide) (fun c_72 => ?_) (fun c_72 => ?_)
            · have n_72 := nb_le (a := 128) (b := b) c_72 (by omega) (by omega)
              refine lv_iconst (v := 0) hx hb dX11_takeVarint_79 (by decide) ?_
              refine k_mpi (v := 0) (ty := .boolean) C G 18 (by decide) mr_18 fl_X11_175 rfl rfl rfl rfl rfl dX11_takeVarint_80 (fun H locs (G : wd Z A s (mdW Z h ad (upd iv 18 0) av) H locs) => ?_)
              refine lv_iload_n hx hb dX11_takeVarint_83 rfl (lv_at hl 0 rfl) ?_
              refine lv_iconst (v := 1) hx hb dX11_takeVarint_84 (by decide) ?_
              refine lv_iushr (v := ush z 1) hx hb dX11_takeVarint_85 rfl ?_
              refine lv_iload_n hx hb dX11_takeVarint_86 rfl (lv_at hl 0 rfl) ?_
              refine lv_iconst (v := 1) hx hb dX11_takeVarint_87 (by decide) ?_
              refine lv_iand hx hb dX11_takeVarint_88 ?_
              refine lv_ineg hx hb dX11_takeVarint_89 ?_
              refine lv_ixor hx hb dX11_takeVarint_90 ?_
              exact kr_i C G (hp _ a _ (hsI.up (by decide) _) h16 (by omega) (by omega) (Or.inr ⟨by rw [← hR]; show ¬ (1 : Int32) = 0; decide, rfl⟩)) (Nat.le_of_ble_eq_true rfl) (Nat.le_of_ble_eq_true rfl) dX11_takeVarint_91
            · exact absurd (nb_nle (a := 128) (b := b) c_72 (by omega) (by omega)) (by omega)
        · exact absurd (nb_nle (a := 35) (b := 7 * j) c_25 (by omega) (by omega)) (by omega)
  | succ n ih =>
    intro j z a iv b hj h16 h17 h18 hb1 hb2 hsI haj hR H locs ls G hl
    refine lv_aload_n hx hb dX11_takeVarint_8 rfl (lv_at hl 3 rfl) ?_
    refine k_mgi (v := 1) C G 18 (by decide) mr_18 h18 fl_X11_175 rfl dX11_takeVarint_9 ?_
    refine lv_if_eq (tgt := 60) hx hb dX11_takeVarint_12 (by decide) (fun c_12 => ?_) (fun c_12 => ?_)
    · exact absurd c_12 (by decide)
    · have n_12 := nb_ne (a := 1) (b := 0) c_12 (by omega) (by omega)
      refine lv_iload_n hx hb dX11_takeVarint_15 rfl (lv_at hl 2 rfl) ?_
      refine lv_sipush (v := 128) hx hb dX11_takeVarint_16 (by decide) ?_
      refine lv_icmp_lt (tgt := 60) hx hb dX11_takeVarint_19 (by decide) (fun c_19 => ?_) (fun c_19 => ?_)
      · exact absurd (nb_lt (a := b) (b := 128) c_19 (by omega) (by omega)) (by omega)
      · have n_19 := nb_nlt (a := b) (b := 128) c_19 (by omega) (by omega)
        refine lv_iload_n hx hb dX11_takeVarint_22 rfl (lv_at hl 1 rfl) ?_
        refine lv_bipush (v := 35) hx hb dX11_takeVarint_23 (by decide) ?_
        refine lv_icmp_ge (tgt := 60) hx hb dX11_takeVarint_25 (by decide) (fun c_25 => ?_) (fun c_25 => ?_)
        · exact absurd (nb_le (a := 35) (b := 7 * j) c_25 (by omega) (by omega)) (by omega)
        · have n_25 := nb_nle (a := 35) (b := 7 * j) c_25 (by omega) (by omega)
          refine lv_aload_n hx hb dX11_takeVarint_28 rfl (lv_at hl 3 rfl) ?_
          refine lv_iconst (v := 1) hx hb dX11_takeVarint_29 (by decide) ?_
          refine kcM_l G (krV 1 rfl (As := [.int 1]) (rest := []) (ci := 12) (CC := RX11) (T := TX11) (N := 61) C G pmN (c_mt1 Z l h ad iv av a en 1 h16 h17 h18 (Or.inr rfl) (by omega) (by omega) _) (gdV ml_X11_213 im_X11_take se_X11_take ii_X11 co_X11_take) (by decide +kernel) ⟨Nat.le_of_ble_eq_true rfl, Nat.le_of_ble_eq_true rfl⟩ rfl 0 rfl hl rfl (Nat.le_of_ble_eq_true rfl) ⟨Nat.le_of_ble_eq_true rfl, Nat.le_of_ble_eq_true rfl⟩ dX11_takeVarint_30) (fun r_30 u H locs hu G => ?_)
          obtain ⟨iv1_, rfl, hs1, h16_1, hcs1⟩ := hu
          have h17_1 : iv1_ 17 = nI en := (hs1 17 (by decide)).trans h17
          rcases hcs1 with ⟨hg_1, hle_1, h18_1, r_30_e⟩ | ⟨hno_1, h18_1, r_30_e⟩
          · obtain ⟨bb_1, hbb_1⟩ : ∃ b, b = ub ((av 3) a) := ⟨_, rfl⟩
            have hlbb_1 : bb_1 < 256 := by rw [hbb_1]; exact ub_lt _
            rw [← hbb_1] at r_30_e
            subst r_30_e
            refine lv_l2i (v := ((nI bb_1).toInt64).toInt32) hx hb dX11_takeVarint_33 rfl ?_
            refine k_topi (y := nI bb_1) (l2i_i2l _) ?_
            refine lv_istore_n (lv' := [(3, .int (nI bb_1)), (1, .int z), (2, .int (nI (7 * j))), (0, .ref h)]) hx hb dX11_takeVarint_34 rfl hl (by decide) rfl (fun ls hl => ?_)
            refine lv_iload_n hx hb dX11_takeVarint_35 rfl (lv_at hl 1 rfl) ?_
            refine lv_iload_n hx hb dX11_takeVarint_36 rfl (lv_at hl 2 rfl) ?_
            refine lv_bipush (v := 32) hx hb dX11_takeVarint_37 (by decide) ?_
            refine lv_icmp_ge (tgt := 51) hx hb dX11_takeVarint_39 (by decide) (fun c_39 => ?_) (fun c_39 => ?_)
            · exact absurd (nb_le (a := 32) (b := 7 * j) c_39 (by omega) (by omega)) (by omega)
            · have n_39 := nb_nle (a := 32) (b := 7 * j) c_39 (by omega) (by omega)
              refine lv_iload_n hx hb dX11_takeVarint_42 rfl (lv_at hl 0 rfl) ?_
              refine lv_bipush (v := 127) hx hb dX11_takeVarint_43 (by decide) ?_
              refine lv_iand hx hb dX11_takeVarint_45 ?_
              refine lv_iload_n hx hb dX11_takeVarint_46 rfl (lv_at hl 2 rfl) ?_
              refine lv_ishl hx hb dX11_takeVarint_47 ?_
              refine lv_goto (tgt := 52) hx hb dX11_takeVarint_48 (by decide) ?_
              refine lv_ior hx hb dX11_takeVarint_52 ?_
              refine k_topi (y := z ||| ((av 3 a &&& 127) <<< ((7 * nI j) &&& 31))) (by rw [hbb_1, ub_127, show nI (7 * j) = 7 * nI j from (pk_mul 7 j).symm]) ?_
              refine lv_istore_n (lv' := [(1, .int (z ||| ((av 3 a &&& 127) <<< ((7 * nI j) &&& 31)))), (3, .int (nI bb_1)), (2, .int (nI (7 * j))), (0, .ref h)]) hx hb dX11_takeVarint_53 rfl hl (by decide) rfl (fun ls hl => ?_)
              refine lv_iinc (v := nI (7 * (j + 1))) (lv' := [(2, .int (nI (7 * (j + 1)))), (1, .int (z ||| ((av 3 a &&& 127) <<< ((7 * nI j) &&& 31)))), (3, .int (nI bb_1)), (0, .ref h)]) hx hb dX11_takeVarint_54 hl (k := 2) rfl (nI_add _ 7) (by decide) rfl (fun ls hl => ?_)
              refine lv_goto (tgt := 8) hx hb dX11_takeVarint_57 (by decide) ?_
              rw [rvL, if_pos (show a < en by omega)] at hR
              by_cases h8 : 128 ≤ bb_1
              · rw [if_pos ((ub_neg (hf a)).mpr (by rw [← hbb_1]; exact h8))] at hR
                exact ih (j + 1) _ (a + 1) _ bb_1 (by omega) h16_1 h17_1 h18_1 h8 hlbb_1 (hsI.tr hs1 (by decide)) (by omega) hR _ _ _ G (lv_sub hl [1, 0, 2, 3] rfl)
              · rw [if_neg (fun z9 => absurd ((ub_neg (hf a)).mp z9) (by rw [← hbb_1]; exact h8))] at hR
                exact lp_mtvX1 C h18_1 (by omega) (hp _ (a + 1) _ ((hsI.tr hs1 (by decide)).up (by decide) _) h16_1 (by omega) (by omega) (Or.inl ⟨by rw [← hR], rfl, by rw [← hR], by rw [← hR]⟩)) G (lv_sub hl [1, 0, 2, 3] rfl)
          · subst r_30_e
            refine lv_l2i (v := (0 : Int64).toInt32) hx hb dX11_takeVarint_33 rfl ?_
            refine k_topi (y := nI 0) (by decide) ?_
            refine lv_istore_n (lv' := [(3, .int (nI 0)), (1, .int z), (2, .int (nI (7 * j))), (0, .ref h)]) hx hb dX11_takeVarint_34 rfl hl (by decide) rfl (fun ls hl => ?_)
            refine lv_iload_n hx hb dX11_takeVarint_35 rfl (lv_at hl 1 rfl) ?_
            refine lv_iload_n hx hb dX11_takeVarint_36 rfl (lv_at hl 2 rfl) ?_
            refine lv_bipush (v := 32) hx hb dX11_takeVarint_37 (by decide) ?_
            refine lv_icmp_ge (tgt := 51) hx hb dX11_takeVarint_39 (by decide) (fun c_39 => ?_) (fun c_39 => ?_)
            · exact absurd (nb_le (a := 32) (b := 7 * j) c_39 (by omega) (by omega)) (by omega)
            · have n_39 := nb_nle (a := 32) (b := 7 * j) c_39 (by omega) (by omega)
              refine lv_iload_n hx hb dX11_takeVarint_42 rfl (lv_at hl 0 rfl) ?_
              refine lv_bipush (v := 127) hx hb dX11_takeVarint_43 (by decide) ?_
              refine lv_iand hx hb dX11_takeVarint_45 ?_
              refine lv_iload_n hx hb dX11_takeVarint_46 rfl (lv_at hl 2 rfl) ?_
              refine lv_ishl hx hb dX11_takeVarint_47 ?_
              refine lv_goto (tgt := 52) hx hb dX11_takeVarint_48 (by decide) ?_
              refine lv_ior hx hb dX11_takeVarint_52 ?_
              refine lv_istore_n (lv' := [(1, .int (z ||| (((nI 0) &&& 127) <<< ((nI (7 * j)) &&& 31)))), (3, .int (nI 0)), (2, .int (nI (7 * j))), (0, .ref h)]) hx hb dX11_takeVarint_53 rfl hl (by decide) rfl (fun ls hl => ?_)
              refine lv_iinc (v := nI (7 * (j + 1))) (lv' := [(2, .int (nI (7 * (j + 1)))), (1, .int (z ||| (((nI 0) &&& 127) <<< ((nI (7 * j)) &&& 31)))), (3, .int (nI 0)), (0, .ref h)]) hx hb dX11_takeVarint_54 hl (k := 2) rfl (nI_add _ 7) (by decide) rfl (fun ls hl => ?_)
              refine lv_goto (tgt := 8) hx hb dX11_takeVarint_57 (by decide) ?_
              exact lp_mtvX0 C h18_1 (by omega) (hp _ (a + 1) _ ((hsI.tr hs1 (by decide)).up (by decide) _) h16_1 (by omega) (by omega) (Or.inr ⟨by rw [← hR, rvL, if_neg (show ¬ a < en from fun z9 => hno_1 ⟨rfl, z9⟩)]; show ¬ (1 : Int32) = 0; decide, rfl⟩)) G (lv_sub hl [1, 0, 2, 3] rfl)
set_option maxRecDepth 100000 in
set_option maxHeartbeats 4000000 in
theorem c_X11_takeVarint (Z : zT) (l : Launch) (h : Nat) (ad : Nat → Nat) (iv : ivT) (av : avT) (a en : Nat) (hf : ∀ i, fits .byte (.int (av 3 i)) = true) (ha0 : a ≤ 150000) (hen : en ≤ 140000) (h16 : iv 16 = nI a) (h17 : iv 17 = nI en) (h18 : iv 18 = 1) : Ki Z l yX11_takeVarint cX11_takeVarint 4 (some .int) ({ frames := 1, cells := 0, slots := 0, locals := 40 }) [.ref h] (mdW Z h ad iv av) (fun r u => ∃ (iv2 : ivT) (a2 : Nat), u = mdW Z h ad iv2 av ∧ sI [16, 18] iv iv2 ∧ iv2 16 = nI a2 ∧ a ≤ a2 ∧ a2 ≤ a + 5 ∧ (((rdV (av 3) en (a, 0)).2.2 = 0 ∧ iv2 18 = 1 ∧ a2 = (rdV (av 3) en (a, 0)).2.1 ∧ r = (rdV (av 3) en (a, 0)).1) ∨ (¬ (rdV (av 3) en (a, 0)).2.2 = 0 ∧ iv2 18 = 0))) := by
  intro sz
  refine Met.ofK (cc := cX11_takeVarint) (maxL := 4) (ret := (some .int)) (by decide) (Nat.le_of_ble_eq_true rfl) ?_
  intro p e s m below meth c ls C G hl
  generalize va_A _ sz = A at G ⊢
  have hx := C.1
  have hb := C.2.1
  have hown := C.2.2.2.2.2.1
  have hts := C.2.2.2.2.2.2.1
  refine lv_iconst (v := 0) hx hb dX11_takeVarint_0 (by decide) ?_
  refine lv_istore_n (lv' := [(1, .int 0), (0, .ref h)]) hx hb dX11_takeVarint_1 rfl hl (by decide) rfl (fun ls hl => ?_)
  refine lv_iconst (v := 0) hx hb dX11_takeVarint_2 (by decide) ?_
  refine k_topi (y := nI (7 * 0)) (by rfl) ?_
  refine lv_istore_n (lv' := [(2, .int (nI (7 * 0))), (1, .int 0), (0, .ref h)]) hx hb dX11_takeVarint_3 rfl hl (by decide) rfl (fun ls hl => ?_)
  refine lv_sipush (v := 128) hx hb dX11_takeVarint_4 (by decide) ?_
  refine k_topi (y := nI 128) (by rfl) ?_
  refine lv_istore_n (lv' := [(3, .int (nI 128)), (2, .int (nI (7 * 0))), (1, .int 0), (0, .ref h)]) hx hb dX11_takeVarint_7 rfl hl (by decide) rfl (fun ls hl => ?_)
  exact lp_mtv (RES := rvL (av 3) en 0 5 0 0 a) C hf ha0 hen (fun iv2 a2 r h1 h2 h3 h4 h5 => ⟨iv2, a2, rfl, h1, h2, h3, h4, h5⟩) 5 0 0 a iv 128 (by omega) h16 h17 h18 (by omega) (by omega) sI.rf (by omega) rfl _ _ _ G (lv_sub hl [2, 1, 0, 3] rfl)
