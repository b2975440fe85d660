/-! MODEL (X11): startsAppend. -/
set_option maxRecDepth 100000 in
set_option maxHeartbeats 4000000 in
theorem lp_msa1 {p : Program} {l : Launch} {e : Env} {R : Room} {s : State} {m : MethodId} {args : Array Value} {below : List Frame} {meth : Method} {c : Code} {Z : zT} {A : Nat → Prop} {Q : State → Prop} {h : Nat} {ad : Nat → Nat} {iv : ivT} {av : avT} {wn M p0 n0 : Nat} {S : List r4T} (C : cx p s m args meth c cX11_startsAppend 7 none RX11 "startsAppend") (hwn : wn < 4) (h47 : av 47 wn = nI M) (hM : M ≤ 96) (hp8 : p0 < 8) (hn0 : n0 = S.length) (hbd : ∀ k, k ≤ M → n0 + (gp (rowsM av wn k) (nI p0)).length ≤ 96) (kk : ∀ (T : Nat → Int32) (q : Nat), q = n0 + (gp (rowsM av wn M) (nI p0)).length → so_at T (S ++ gp (rowsM av wn M) (nI p0)) →  ∀ (H : Heap) (locs : List Loc) (ls : Array Slot), wd Z A s (mdW Z h ad iv (ua av 58 T)) H locs → lv_has ls 7 [(2, .int (nI q)), (0, .ref h), (1, .int (nI wn)), (3, .int (nI p0)), (4, .int (nI n0))] → W p l e R s m args below meth c H locs 0 0 Q (F0 m 100 ls [])) : ∀ (n k q : Nat) (T : Nat → Int32), k + n = M → q = n0 + (gp (rowsM av wn k) (nI p0)).length → so_at T (S ++ gp (rowsM av wn k) (nI p0)) →  ∀ (H : Heap) (locs : List Loc) (ls : Array Slot), wd Z A s (mdW Z h ad iv (ua av 58 T)) H locs → lv_has ls 7 [(5, .int (nI k)), (2, .int (nI q)), (0, .ref h), (1, .int (nI wn)), (3, .int (nI p0)), (4, .int (nI n0))] → W p l e R s m args below meth c H locs 0 0 Q (F0 m 16 ls []) := by
  have hx := C.1
  have hb := C.2.1
  have hown := C.2.2.2.2.2.1
  have hts := C.2.2.2.2.2.2.1
  intro n
  induction n with
  | zero =>
    intro k q T hk hq hT H locs ls G hl
    refine lv_iload hx hb dX11_startsAppend_16 (lv_at hl 0 rfl) ?_
    refine lv_aload_n hx hb dX11_startsAppend_18 rfl (lv_at hl 2 rfl) ?_
    refine k_mga C G 47 (by decide) mr_47 fl_X11_108 rfl dX11_startsAppend_19 ?_
    refine lv_iload_n hx hb dX11_startsAppend_22 rfl (lv_at hl 3 rfl) ?_
    refine k_mil (v := nI M) (i := wn) C G 29 (k := 47) (n := 4) mp_47 (by decide) (by omega) h47 dX11_startsAppend_23 ?_
    refine lv_icmp_ge (tgt := 100) hx hb dX11_startsAppend_24 (by decide) (fun c_24 => ?_) (fun c_24 => ?_)
    · have n_24 := nb_le (a := M) (b := k) c_24 (by omega) (by omega)
      have hkM : k = M := by omega
      subst hkM
      exact kk T q hq hT _ _ _ G (lv_sub hl [1, 2, 3, 4, 5] rfl)
    · exact absurd (nb_nle (a := M) (b := k) c_24 (by omega) (by omega)) (by omega)
  | succ n ih =>
    intro k q T hk hq hT H locs ls G hl
    have hqb : av 46 (4800 * wn + k) = nI p0 → q + 1 ≤ 96 := fun z => by
      have h9 := hbd (k + 1) (by omega)
      rw [rowsM_s, gp_y z, List.length_append, ← Nat.add_assoc, ← hq] at h9
      exact h9
    refine lv_iload hx hb dX11_startsAppend_16 (lv_at hl 0 rfl) ?_
    refine lv_aload_n hx hb dX11_startsAppend_18 rfl (lv_at hl 2 rfl) ?_
    refine k_mga C G 47 (by decide) mr_47 fl_X11_108 rfl dX11_startsAppend_19 ?_
    refine lv_iload_n hx hb dX11_startsAppend_22 rfl (lv_at hl 3 rfl) ?_
    refine k_mil (v := nI M) (i := wn) C G 29 (k := 47) (n := 4) mp_47 (by decide) (by omega) h47 dX11_startsAppend_23 ?_
    refine lv_icmp_ge (tgt := 100) hx hb dX11_startsAppend_24 (by decide) (fun c_24 => ?_) (fun c_24 => ?_)
    · exact absurd (nb_le (a := M) (b := k) c_24 (by omega) (by omega)) (by omega)
    · have n_24 := nb_nle (a := M) (b := k) c_24 (by omega) (by omega)
      refine lv_aload_n hx hb dX11_startsAppend_27 rfl (lv_at hl 2 rfl) ?_
      refine k_mga C G 46 (by decide) mr_46 fl_X11_105 rfl dX11_startsAppend_28 ?_
      refine lv_sipush (v := 4800) hx hb dX11_startsAppend_31 (by decide) ?_
      refine lv_iload_n hx hb dX11_startsAppend_34 rfl (lv_at hl 3 rfl) ?_
      refine lv_imul hx hb dX11_startsAppend_35 ?_
      refine k_topi (y := nI (4800 * wn)) (pk_mul 4800 wn) ?_
      refine lv_iload hx hb dX11_startsAppend_36 (lv_at hl 0 rfl) ?_
      refine lv_iadd hx hb dX11_startsAppend_38 ?_
      refine k_topi (y := nI (4800 * wn + k)) (nI_add (4800 * wn) k) ?_
      refine k_mil (v := (av 46) (4800 * wn + k)) (i := 4800 * wn + k) C G 28 (k := 46) (n := 19200) mp_46 (by decide) (by omega) rfl dX11_startsAppend_39 ?_
      refine lv_iload_n hx hb dX11_startsAppend_40 rfl (lv_at hl 4 rfl) ?_
      refine lv_icmp_eq (tgt := 47) hx hb dX11_startsAppend_41 (by decide) (fun c_41 => ?_) (fun c_41 => ?_)
      · have hq96 := hqb c_41
        refine lv_iconst (v := 0) hx hb dX11_startsAppend_47 (by decide) ?_
        refine lv_istore (lv' := [(6, .int 0), (5, .int (nI k)), (2, .int (nI q)), (0, .ref h), (1, .int (nI wn)), (3, .int (nI p0)), (4, .int (nI n0))]) hx hb dX11_startsAppend_48 hl (by decide) rfl (fun ls hl => ?_)
        refine lv_iload hx hb dX11_startsAppend_50 (lv_at hl 0 rfl) ?_
        refine lv_iconst (v := 3) hx hb dX11_startsAppend_52 (by decide) ?_
        refine lv_icmp_ge (tgt := 91) hx hb dX11_startsAppend_53 (by decide) (fun c_53 => ?_) (fun c_53 => ?_)
        · exact absurd c_53 (by decide)
        · have n_53 := nb_nle (a := 3) (b := 0) c_53 (by omega) (by omega)
          refine lv_aload_n hx hb dX11_startsAppend_56 rfl (lv_at hl 3 rfl) ?_
          refine k_mga C G 58 (by decide) mr_58 fl_X11_141 rfl dX11_startsAppend_57 ?_
          refine lv_iconst (v := 3) hx hb dX11_startsAppend_60 (by decide) ?_
          refine lv_iload_n hx hb dX11_startsAppend_61 rfl (lv_at hl 2 rfl) ?_
          refine lv_imul hx hb dX11_startsAppend_62 ?_
          refine k_topi (y := nI (3 * q)) (pk_mul 3 q) ?_
          refine lv_iload hx hb dX11_startsAppend_63 (lv_at hl 0 rfl) ?_
          refine lv_iadd hx hb dX11_startsAppend_65 ?_
          refine k_topi (y := nI (3 * q)) (Int32.add_zero _) ?_
          refine lv_aload_n hx hb dX11_startsAppend_66 rfl (lv_at hl 3 rfl) ?_
          refine k_mga C G 45 (by decide) mr_45 fl_X11_102 rfl dX11_startsAppend_67 ?_
          refine lv_sipush (v := 14400) hx hb dX11_startsAppend_70 (by decide) ?_
          refine lv_iload_n hx hb dX11_startsAppend_73 rfl (lv_at hl 4 rfl) ?_
          refine lv_imul hx hb dX11_startsAppend_74 ?_
          refine k_topi (y := nI (14400 * wn)) (pk_mul 14400 wn) ?_
          refine lv_iconst (v := 3) hx hb dX11_startsAppend_75 (by decide) ?_
          refine lv_iload hx hb dX11_startsAppend_76 (lv_at hl 1 rfl) ?_
          refine lv_imul hx hb dX11_startsAppend_78 ?_
          refine k_topi (y := nI (3 * k)) (pk_mul 3 k) ?_
          refine lv_iadd hx hb dX11_startsAppend_79 ?_
          refine k_topi (y := nI (14400 * wn + 3 * k)) (nI_add (14400 * wn) (3 * k)) ?_
          refine lv_iload hx hb dX11_startsAppend_80 (lv_at hl 0 rfl) ?_
          refine lv_iadd hx hb dX11_startsAppend_82 ?_
          refine k_topi (y := nI (14400 * wn + 3 * k)) (Int32.add_zero _) ?_
          refine k_mil (v := (av 45) (14400 * wn + 3 * k)) (i := 14400 * wn + 3 * k) C G 27 (k := 45) (n := 57600) mp_45 (by decide) (by omega) rfl dX11_startsAppend_83 ?_
          refine k_mis (x := (av 45) (14400 * wn + 3 * k)) (i := 3 * q) C G 40 (k := 58) (n := 288) mp_58 (by decide) (by omega) dX11_startsAppend_84 (fun H locs (G : wd Z A s (mdW Z h ad iv (ua (ua av 58 T) 58 (upd T (3 * q) ((av 45) (14400 * wn + 3 * k))))) H locs) => ?_)
          refine lv_iinc (v := 1) (lv' := [(6, .int 1), (5, .int (nI k)), (2, .int (nI q)), (0, .ref h), (1, .int (nI wn)), (3, .int (nI p0)), (4, .int (nI n0))]) hx hb dX11_startsAppend_85 hl (k := 0) rfl (by decide) (by decide) rfl (fun ls hl => ?_)
          refine lv_goto (tgt := 50) hx hb dX11_startsAppend_88 (by decide) ?_
          refine lv_iload hx hb dX11_startsAppend_50 (lv_at hl 0 rfl) ?_
          refine lv_iconst (v := 3) hx hb dX11_startsAppend_52 (by decide) ?_
          refine lv_icmp_ge (tgt := 91) hx hb dX11_startsAppend_53 (by decide) (fun c_53_1 => ?_) (fun c_53_1 => ?_)
          · exact absurd c_53_1 (by decide)
          · have n_53_1 := nb_nle (a := 3) (b := 1) c_53_1 (by omega) (by omega)
            refine lv_aload_n hx hb dX11_startsAppend_56 rfl (lv_at hl 3 rfl) ?_
            refine k_mga C G 58 (by decide) mr_58 fl_X11_141 rfl dX11_startsAppend_57 ?_
            refine lv_iconst (v := 3) hx hb dX11_startsAppend_60 (by decide) ?_
            refine lv_iload_n hx hb dX11_startsAppend_61 rfl (lv_at hl 2 rfl) ?_
            refine lv_imul hx hb dX11_startsAppend_62 ?_
            refine k_topi (y := nI (3 * q)) (pk_mul 3 q) ?_
            refine lv_iload hx hb dX11_startsAppend_63 (lv_at hl 0 rfl) ?_
            refine lv_iadd hx hb dX11_startsAppend_65 ?_
            refine k_topi (y := nI (3 * q + 1)) (nI_add (3 * q) 1) ?_
            refine lv_aload_n hx hb dX11_startsAppend_66 rfl (lv_at hl 3 rfl) ?_
            refine k_mga C G 45 (by decide) mr_45 fl_X11_102 rfl dX11_startsAppend_67 ?_
            refine lv_sipush (v := 14400) hx hb dX11_startsAppend_70 (by decide) ?_
            refine lv_iload_n hx hb dX11_startsAppend_73 rfl (lv_at hl 4 rfl) ?_
            refine lv_imul hx hb dX11_startsAppend_74 ?_
            refine k_topi (y := nI (14400 * wn)) (pk_mul 14400 wn) ?_
            refine lv_iconst (v := 3) hx hb dX11_startsAppend_75 (by decide) ?_
            refine lv_iload hx hb dX11_startsAppend_76 (lv_at hl 1 rfl) ?_
            refine lv_imul hx hb dX11_startsAppend_78 ?_
            refine k_topi (y := nI (3 * k)) (pk_mul 3 k) ?_
            refine lv_iadd hx hb dX11_startsAppend_79 ?_
            refine k_topi (y := nI (14400 * wn + 3 * k)) (nI_add (14400 * wn) (3 * k)) ?_
            refine lv_iload hx hb dX11_startsAppend_80 (lv_at hl 0 rfl) ?_
            refine lv_iadd hx hb dX11_startsAppend_82 ?_
            refine k_topi (y := nI (14400 * wn + 3 * k + 1)) (nI_add (14400 * wn + 3 * k) 1) ?_
            refine k_mil (v := (av 45) (14400 * wn + 3 * k + 1)) (i := 14400 * wn + 3 * k + 1) C G 27 (k := 45) (n := 57600) mp_45 (by decide) (by omega) rfl dX11_startsAppend_83 ?_
            refine k_mis (x := (av 45) (14400 * wn + 3 * k + 1)) (i := 3 * q + 1) C G 40 (k := 58) (n := 288) mp_58 (by decide) (by omega) dX11_startsAppend_84 (fun H locs (G : wd Z A s (mdW Z h ad iv (ua (ua (ua av 58 T) 58 (upd T (3 * q) ((av 45) (14400 * wn + 3 * k)))) 58 (upd (upd T (3 * q) ((av 45) (14400 * wn + 3 * k))) (3 * q + 1) ((av 45) (14400 * wn + 3 * k + 1))))) H locs) => ?_)
            refine lv_iinc (v := 2) (lv' := [(6, .int 2), (5, .int (nI k)), (2, .int (nI q)), (0, .ref h), (1, .int (nI wn)), (3, .int (nI p0)), (4, .int (nI n0))]) hx hb dX11_startsAppend_85 hl (k := 0) rfl (by decide) (by decide) rfl (fun ls hl => ?_)
            refine lv_goto (tgt := 50) hx hb dX11_startsAppend_88 (by decide) ?_
            refine lv_iload hx hb dX11_startsAppend_50 (lv_at hl 0 rfl) ?_
            refine lv_iconst (v := 3) hx hb dX11_startsAppend_52 (by decide) ?_
            refine lv_icmp_ge (tgt := 91) hx hb dX11_startsAppend_53 (by decide) (fun c_53_2 => ?_) (fun c_53_2 => ?_)
            · exact absurd c_53_2 (by decide)
            · have n_53_2 := nb_nle (a := 3) (b := 2) c_53_2 (by omega) (by omega)
              refine lv_aload_n hx hb dX11_startsAppend_56 rfl (lv_at hl 3 rfl) ?_
              refine k_mga C G 58 (by decide) mr_58 fl_X11_141 rfl dX11_startsAppend_57 ?_
              refine lv_iconst (v := 3) hx hb dX11_startsAppend_60 (by decide) ?_
              refine lv_iload_n hx hb dX11_startsAppend_61 rfl (lv_at hl 2 rfl) ?_
              refine lv_imul hx hb dX11_startsAppend_62 ?_
              refine k_topi (y := nI (3 * q)) (pk_mul 3 q) ?_
              refine lv_iload hx hb dX11_startsAppend_63 (lv_at hl 0 rfl) ?_
              refine lv_iadd hx hb dX11_startsAppend_65 ?_
              refine k_topi (y := nI (3 * q + 2)) (nI_add (3 * q) 2) ?_
              refine lv_aload_n hx hb dX11_startsAppend_66 rfl (lv_at hl 3 rfl) ?_
              refine k_mga C G 45 (by decide) mr_45 fl_X11_102 rfl dX11_startsAppend_67 ?_
              refine lv_sipush (v := 14400) hx hb dX11_startsAppend_70 (by decide) ?_
              refine lv_iload_n hx hb dX11_startsAppend_73 rfl (lv_at hl 4 rfl) ?_
              refine lv_imul hx hb dX11_startsAppend_74 ?_
              refine k_topi (y := nI (14400 * wn)) (pk_mul 14400 wn) ?_
              refine lv_iconst (v := 3) hx hb dX11_startsAppend_75 (by decide) ?_
              refine lv_iload hx hb dX11_startsAppend_76 (lv_at hl 1 rfl) ?_
              refine lv_imul hx hb dX11_startsAppend_78 ?_
              refine k_topi (y := nI (3 * k)) (pk_mul 3 k) ?_
              refine lv_iadd hx hb dX11_startsAppend_79 ?_
              refine k_topi (y := nI (14400 * wn + 3 * k)) (nI_add (14400 * wn) (3 * k)) ?_
              refine lv_iload hx hb dX11_startsAppend_80 (lv_at hl 0 rfl) ?_
              refine lv_iadd hx hb dX11_startsAppend_82 ?_
              refine k_topi (y := nI (14400 * wn + 3 * k + 2)) (nI_add (14400 * wn + 3 * k) 2) ?_
              refine k_mil (v := (av 45) (14400 * wn + 3 * k + 2)) (i := 14400 * wn + 3 * k + 2) C G 27 (k := 45) (n := 57600) mp_45 (by decide) (by omega) rfl dX11_startsAppend_83 ?_
              refine k_mis (x := (av 45) (14400 * wn + 3 * k + 2)) (i := 3 * q + 2) C G 40 (k := 58) (n := 288) mp_58 (by decide) (by omega) dX11_startsAppend_84 (fun H locs (G : wd Z A s (mdW Z h ad iv (ua (ua (ua (ua av 58 T) 58 (upd T (3 * q) ((av 45) (14400 * wn + 3 * k)))) 58 (upd (upd T (3 * q) ((av 45) (14400 * wn + 3 * k))) (3 * q + 1) ((av 45) (14400 * wn + 3 * k + 1)))) 58 (upd (upd (upd T (3 * q) ((av 45) (14400 * wn + 3 * k))) (3 * q + 1) ((av 45) (14400 * wn + 3 * k + 1))) (3 * q + 2) ((av 45) (14400 * wn + 3 * k + 2))))) H locs) => ?_)
              refine lv_iinc (v := 3) (lv' := [(6, .int 3), (5, .int (nI k)), (2, .int (nI q)), (0, .ref h), (1, .int (nI wn)), (3, .int (nI p0)), (4, .int (nI n0))]) hx hb dX11_startsAppend_85 hl (k := 0) rfl (by decide) (by decide) rfl (fun ls hl => ?_)
              refine lv_goto (tgt := 50) hx hb dX11_startsAppend_88 (by decide) ?_
              refine lv_iload hx hb dX11_startsAppend_50 (lv_at hl 0 rfl) ?_
              refine lv_iconst (v := 3) hx hb dX11_startsAppend_52 (by decide) ?_
              refine lv_icmp_ge (tgt := 91) hx hb dX11_startsAppend_53 (by decide) (fun c_53_3 => ?_) (fun c_53_3 => ?_)
              · have n_53_3 := nb_le (a := 3) (b := 3) c_53_3 (by omega) (by omega)
                refine lv_iinc (v := nI (q + 1)) (lv' := [(2, .int (nI (q + 1))), (6, .int 3), (5, .int (nI k)), (0, .ref h), (1, .int (nI wn)), (3, .int (nI p0)), (4, .int (nI n0))]) hx hb dX11_startsAppend_91 hl (k := 2) rfl (nI_1 _) (by decide) rfl (fun ls hl => ?_)
                refine lv_iinc (v := nI (k + 1)) (lv' := [(5, .int (nI (k + 1))), (2, .int (nI (q + 1))), (6, .int 3), (0, .ref h), (1, .int (nI wn)), (3, .int (nI p0)), (4, .int (nI n0))]) hx hb dX11_startsAppend_94 hl (k := 2) rfl (nI_1 _) (by decide) rfl (fun ls hl => ?_)
                refine lv_goto (tgt := 16) hx hb dX11_startsAppend_97 (by decide) ?_
                rw [ua_ua, ua_ua, ua_ua] at G
                exact ih (k + 1) (q + 1) _ (by omega) (by rw [rowsM_s, gp_y c_41, List.length_append, hq]; exact Nat.add_assoc _ _ _) (by rw [rowsM_s, gp_y c_41, ← List.append_assoc]; exact so_s _ _ _ _ hT (by rw [List.length_append, ← hn0]; exact hq)) _ _ _ G (lv_sub hl [0, 1, 3, 4, 5, 6] rfl)
              · exact absurd c_53_3 (by decide)
      · refine lv_goto (tgt := 94) hx hb dX11_startsAppend_44 (by decide) ?_
        refine lv_iinc (v := nI (k + 1)) (lv' := [(5, .int (nI (k + 1))), (2, .int (nI q)), (0, .ref h), (1, .int (nI wn)), (3, .int (nI p0)), (4, .int (nI n0))]) hx hb dX11_startsAppend_94 hl (k := 0) rfl (nI_1 _) (by decide) rfl (fun ls hl => ?_)
        refine lv_goto (tgt := 16) hx hb dX11_startsAppend_97 (by decide) ?_
        exact ih (k + 1) q T (by omega) (by rw [rowsM_s, gp_n c_41]; exact hq) (by rw [rowsM_s, gp_n c_41]; exact hT) _ _ _ G (lv_sub hl [0, 1, 2, 3, 4, 5] rfl)
theorem ua_self (av : avT) (k : Nat) : ua av k (av k) = av := by
  funext j
  by_cases e : j = k
  · subst e; exact ua_s
  · exact ua_n e
theorem so_eq {f g : Nat → Int32} {S G : List r4T} (h : so_at f S) (h2 : so_at g (S ++ G)) : ∀ i, i < 3 * S.length → g i = f i := by
  intro i hi
  have hj : i / 3 < S.length := by omega
  have e1 : S[i / 3]? = some S[i / 3] := List.getElem?_eq_getElem hj
  obtain ⟨a1, a2, a3⟩ := h _ _ e1
  obtain ⟨b1, b2, b3⟩ := h2 (i / 3) _ (by rw [List.getElem?_append_left hj]; exact e1)
  rcases (show i = 3 * (i / 3) ∨ i = 3 * (i / 3) + 1 ∨ i = 3 * (i / 3) + 2 by omega) with h9 | h9 | h9
  · rw [h9, a1, b1]
  · rw [h9, a2, b2]
  · rw [h9, a3, b3]
set_option maxRecDepth 100000 in
set_option maxHeartbeats 4000000 in
theorem lp_msa2 {p : Program} {l : Launch} {e : Env} {s : State} {m : MethodId} {args : Array Value} {below : List Frame} {meth : Method} {c : Code} {Z : zT} {A : Nat → Prop} {Q : State → Prop} {h : Nat} {ad : Nat → Nat} {iv : ivT} {av0 : avT} {wn M : Nat} (C : cx p s m args meth c cX11_startsAppend 7 none RX11 "startsAppend") (hwn : wn < 4) (h47 : av0 47 wn = nI M) (hM : M ≤ 96) (hgp : ∀ p, p < 8 → (gp (rowsM av0 wn M) (nI p)).length ≤ 48) (kk : ∀ (av : avT) (n0 : Nat), n0 = (gpS (rowsM av0 wn M) 8).length → sA [48, 49, 50, 51, 58] av0 av → oth [58] wn av0 av → so_at (av 58) (gpS (rowsM av0 wn M) 8) → plG (av 58) (gpS (rowsM av0 wn M) 8).length av wn (apO (rowsM av0 wn M) 8) →  ∀ (H : Heap) (locs : List Loc) (ls : Array Slot), wd Z A s (mdW Z h ad iv av) H locs → lv_has ls 7 [(2, .int (nI n0)), (0, .ref h), (1, .int (nI wn))] → W p l e ({ frames := 1, cells := 0, slots := 0, locals := 30 }) s m args below meth c H locs 0 0 Q (F0 m 124 ls [])) : ∀ (n p0 n0 : Nat) (av : avT), p0 + n = 8 → n0 = (gpS (rowsM av0 wn M) p0).length → sA [48, 49, 50, 51, 58] av0 av → oth [58] wn av0 av → so_at (av 58) (gpS (rowsM av0 wn M) p0) → plG (av 58) (gpS (rowsM av0 wn M) p0).length av wn (apO (rowsM av0 wn M) p0) →  ∀ (H : Heap) (locs : List Loc) (ls : Array Slot), wd Z A s (mdW Z h ad iv av) H locs → lv_has ls 7 [(3, .int (nI p0)), (2, .int (nI n0)), (0, .ref h), (1, .int (nI wn))] → W p l e ({ frames := 1, cells := 0, slots := 0, locals := 30 }) s m args below meth c H locs 0 0 Q (F0 m 4 ls []) := by
  have hx := C.1
  have hb := C.2.1
  have hown := C.2.2.2.2.2.1
  have hts := C.2.2.2.2.2.2.1
  intro n
  induction n with
  | zero =>
    intro p0 n0 av hp hn0 hsA hot hso hpl H locs ls G hl
    refine lv_iload_n hx hb dX11_startsAppend_4 rfl (lv_at hl 0 rfl) ?_
    refine lv_bipush (v := 8) hx hb dX11_startsAppend_5 (by decide) ?_
    refine lv_icmp_ge (tgt := 124) hx hb dX11_startsAppend_7 (by decide) (fun c_7 => ?_) (fun c_7 => ?_)
    · have n_7 := nb_le (a := 8) (b := p0) c_7 (by omega) (by omega)
      have hp8 : p0 = 8 := by omega
      subst hp8
      exact kk av n0 hn0 hsA hot hso hpl _ _ _ G (lv_sub hl [1, 2, 3] rfl)
    · exact absurd (nb_nle (a := 8) (b := p0) c_7 (by omega) (by omega)) (by omega)
  | succ n ih =>
    intro p0 n0 av hp hn0 hsA hot hso hpl H locs ls G hl
    have h45v : av 45 = av0 45 := hsA 45 (by decide)
    have h46v : av 46 = av0 46 := hsA 46 (by decide)
    have h47v : av 47 wn = nI M := by rw [hsA 47 (by decide)]; exact h47
    have hrs : ∀ k, rowsM av wn k = rowsM av0 wn k := fun k => rowsM_cong h45v h46v
    have hbd : ∀ k, k ≤ M → n0 + (gp (rowsM av wn k) (nI p0)).length ≤ 96 := fun k hk => by
      have h9 := gpS_le (rowsM av0 wn M) (p := p0 + 1) (by omega)
      rw [gpS_s, List.length_append, ← hn0, rowsM_len] at h9
      have h10 := gp_mono av wn (nI p0) (k := k) (M - k)
      rw [show k + (M - k) = M by omega, hrs M] at h10
      omega
    refine lv_iload_n hx hb dX11_startsAppend_4 rfl (lv_at hl 0 rfl) ?_
    refine lv_bipush (v := 8) hx hb dX11_startsAppend_5 (by decide) ?_
    refine lv_icmp_ge (tgt := 124) hx hb dX11_startsAppend_7 (by decide) (fun c_7 => ?_) (fun c_7 => ?_)
    · exact absurd (nb_le (a := 8) (b := p0) c_7 (by omega) (by omega)) (by omega)
    · have n_7 := nb_nle (a := 8) (b := p0) c_7 (by omega) (by omega)
      refine lv_iload_n hx hb dX11_startsAppend_10 rfl (lv_at hl 1 rfl) ?_
      refine lv_istore (lv' := [(4, .int (nI n0)), (3, .int (nI p0)), (2, .int (nI n0)), (0, .ref h), (1, .int (nI wn))]) hx hb dX11_startsAppend_11 hl (by decide) rfl (fun ls hl => ?_)
      refine lv_iconst (v := 0) hx hb dX11_startsAppend_13 (by decide) ?_
      refine k_topi (y := nI 0) (by rfl) ?_
      refine lv_istore (lv' := [(5, .int (nI 0)), (4, .int (nI n0)), (3, .int (nI p0)), (2, .int (nI n0)), (0, .ref h), (1, .int (nI wn))]) hx hb dX11_startsAppend_14 hl (by decide) rfl (fun ls hl => ?_)
      refine lp_msa1 (S := gpS (rowsM av0 wn M) p0) (p0 := p0) (n0 := n0) C hwn h47v hM (by omega) hn0 hbd (fun T q hq hT H locs ls G hl => ?_) M 0 n0 (av 58) (by omega) (by rfl) (by rw [show gp (rowsM av wn 0) (nI p0) = [] from rfl, List.append_nil]; exact hso) _ _ _ (by rw [ua_self]; exact G) (lv_sub hl [0, 3, 4, 5, 2, 1] rfl)
      rw [hrs] at hq hT
      rw [← gpS_s] at hT
      have hq2 : q = (gpS (rowsM av0 wn M) (p0 + 1)).length := by rw [gpS_s, List.length_append, ← hn0]; exact hq
      have hle := gpS_le (rowsM av0 wn M) (p := p0 + 1) (by omega)
      rw [rowsM_len] at hle
      have hpT : plG T (gpS (rowsM av0 wn M) p0).length (ua av 58 T) wn (apO (rowsM av0 wn M) p0) := plG_cong hpl (Nat.le_refl _) (so_eq hso (by rw [← gpS_s]; exact hT)) rfl rfl rfl rfl
      refine lv_iload_n hx hb dX11_startsAppend_100 rfl (lv_at hl 0 rfl) ?_
      refine lv_iload hx hb dX11_startsAppend_101 (lv_at hl 4 rfl) ?_
      refine lv_icmp_le (tgt := 118) hx hb dX11_startsAppend_103 (by decide) (fun c_103 => ?_) (fun c_103 => ?_)
      · have n_103 := nb_le (a := q) (b := n0) c_103 (by omega) (by omega)
        refine lv_iinc (v := nI (p0 + 1)) (lv' := [(3, .int (nI (p0 + 1))), (2, .int (nI q)), (0, .ref h), (1, .int (nI wn)), (4, .int (nI n0))]) hx hb dX11_startsAppend_118 hl (k := 3) rfl (nI_1 _) (by decide) rfl (fun ls hl => ?_)
        refine lv_goto (tgt := 4) hx hb dX11_startsAppend_121 (by decide) ?_
        have he : gp (rowsM av0 wn M) (nI p0) = [] := List.eq_nil_of_length_eq_zero (by omega)
        exact ih (p0 + 1) q (ua av 58 T) (by omega) hq2 (hsA.up (by decide) _) (hot.all (by decide) _) hT (by rw [apO_e he]; exact plG_cong hpT (by rw [← hn0, ← hq2]; omega) (fun _ _ => rfl) rfl rfl rfl rfl) _ _ _ G (lv_sub hl [0, 1, 2, 3] rfl)
      · have n_103 := nb_nle (a := q) (b := n0) c_103 (by omega) (by omega)
        refine lv_aload_n hx hb dX11_startsAppend_106 rfl (lv_at hl 1 rfl) ?_
        refine lv_iload_n hx hb dX11_startsAppend_107 rfl (lv_at hl 2 rfl) ?_
        refine lv_iload_n hx hb dX11_startsAppend_108 rfl (lv_at hl 3 rfl) ?_
        refine lv_iload hx hb dX11_startsAppend_109 (lv_at hl 4 rfl) ?_
        refine lv_iload_n hx hb dX11_startsAppend_111 rfl (lv_at hl 0 rfl) ?_
        refine lv_iload hx hb dX11_startsAppend_112 (lv_at hl 4 rfl) ?_
        refine lv_isub hx hb dX11_startsAppend_114 ?_
        refine k_topi (y := nI (q - n0)) (pk_sub (a := q) (b := n0) (by omega)) ?_
        refine kcM_v G (krV 4 rfl (As := [.int (nI wn), .int (nI p0), .int (nI n0), .int (nI (q - n0))]) (rest := []) (ci := 12) (CC := RX11) (T := TX11) (N := 61) C G pmN (c_X11_adds Z l h ad iv (ua av 58 T) wn (apO (rowsM av0 wn M) p0).length (nI p0) (nI n0) (nI (q - n0)) hwn hpl.1 (by have h9 := apO_le (rowsM av0 wn M) p0; omega) _) (gdV ml_X11_298 im_X11_adds se_X11_adds ii_X11 co_X11_adds) (by decide +kernel) ⟨Nat.le_of_ble_eq_true rfl, Nat.le_of_ble_eq_true rfl⟩ rfl 0 rfl hl rfl (Nat.le_of_ble_eq_true rfl) ⟨Nat.le_of_ble_eq_true rfl, Nat.le_of_ble_eq_true rfl⟩ dX11_startsAppend_115) (fun u H locs hu G => ?_)
        subst hu
        refine lv_iinc (v := nI (p0 + 1)) (lv' := [(3, .int (nI (p0 + 1))), (2, .int (nI q)), (0, .ref h), (1, .int (nI wn)), (4, .int (nI n0))]) hx hb dX11_startsAppend_118 hl (k := 3) rfl (nI_1 _) (by decide) rfl (fun ls hl => ?_)
        refine lv_goto (tgt := 4) hx hb dX11_startsAppend_121 (by decide) ?_
        have he : ¬ gp (rowsM av0 wn M) (nI p0) = [] := fun z => by rw [z] at hq; simp at hq; omega
        exact ih (p0 + 1) q _ (by omega) hq2 ((hsA.up (k := 58) (by decide) T).ad _ _ _ (by decide) (by decide) (by decide) (by decide)) ((hot.all (by decide) T).ad (by have h9 := apO_le (rowsM av0 wn M) p0; omega) _ _ _) hT (by rw [apO_n he]; exact plG_add (S := gpS (rowsM av0 wn M) p0) (nI p0) hpT (by rw [← hn0, ← hq2]; omega) (by rw [← gpS_s]; exact hT) (by omega) (hgp p0 (by omega)) (by rw [← List.length_append, ← gpS_s]; exact Nat.le_refl _) hn0 (by omega)) _ _ _ G (lv_sub hl [0, 1, 2, 3] rfl)
def oW (z wn : Nat) (f g : Nat → Int32) : Prop := ∀ j, (j < z * wn ∨ z * wn + z ≤ j) → g j = f j
set_option maxRecDepth 100000 in
set_option maxHeartbeats 4000000 in
theorem lp_msa3 {p : Program} {l : Launch} {e : Env} {s : State} {m : MethodId} {args : Array Value} {below : List Frame} {meth : Method} {c : Code} {Z : zT} {A : Nat → Prop} {h : Nat} {ad : Nat → Nat} {iv : ivT} {av : avT} {wn n0 : Nat} {post : va_W → Prop} (C : cx p s m args meth c cX11_startsAppend 7 none RX11 "startsAppend") (hwn : wn < 4) (hn0 : n0 ≤ 96) (hp : ∀ V, oW 14400 wn (av 45) V → (∀ j, j < 3 * n0 → V (14400 * wn + j) = av 58 j) →  post (mdW Z h ad iv (ua av 45 V))) : ∀ (n i : Nat) (V : Nat → Int32), i + n = 3 * n0 → oW 14400 wn (av 45) V → (∀ j, j < i → V (14400 * wn + j) = av 58 j) →  ∀ (H : Heap) (locs : List Loc) (ls : Array Slot), wd Z A s (mdW Z h ad iv (ua av 45 V)) H locs → lv_has ls 7 [(3, .int (nI i)), (0, .ref h), (1, .int (nI wn)), (2, .int (nI n0))] → W p l e ({ frames := 1, cells := 0, slots := 0, locals := 30 }) s m args below meth c H locs 0 0 (MQ below (va_Qv post (mB Z A) A) args s 0 0 A) (F0 m 126 ls []) := by
  have hx := C.1
  have hb := C.2.1
  have hown := C.2.2.2.2.2.1
  have hts := C.2.2.2.2.2.2.1
  intro n
  induction n with
  | zero =>
    intro i V hi hV1 hV2 H locs ls G hl
    refine lv_iload_n hx hb dX11_startsAppend_126 rfl (lv_at hl 0 rfl) ?_
    refine lv_iconst (v := 3) hx hb dX11_startsAppend_127 (by decide) ?_
    refine lv_iload_n hx hb dX11_startsAppend_128 rfl (lv_at hl 3 rfl) ?_
    refine lv_imul hx hb dX11_startsAppend_129 ?_
    refine k_topi (y := nI (3 * n0)) (pk_mul 3 n0) ?_
    refine lv_icmp_ge (tgt := 157) hx hb dX11_startsAppend_130 (by decide) (fun c_130 => ?_) (fun c_130 => ?_)
    · have n_130 := nb_le (a := 3 * n0) (b := i) c_130 (by omega) (by omega)
      have hin : i = 3 * n0 := by omega
      subst hin
      exact kr_v C G (hp V hV1 hV2) (Nat.le_of_ble_eq_true rfl) (Nat.le_of_ble_eq_true rfl) dX11_startsAppend_157
    · exact absurd (nb_nle (a := 3 * n0) (b := i) c_130 (by omega) (by omega)) (by omega)
  | succ n ih =>
    intro i V hi hV1 hV2 H locs ls G hl
    refine lv_iload_n hx hb dX11_startsAppend_126 rfl (lv_at hl 0 rfl) ?_
    refine lv_iconst (v := 3) hx hb dX11_startsAppend_127 (by decide) ?_
    refine lv_iload_n hx hb dX11_startsAppend_128 rfl (lv_at hl 3 rfl) ?_
    refine lv_imul hx hb dX11_startsAppend_129 ?_
    refine k_topi (y := nI (3 * n0)) (pk_mul 3 n0) ?_
    refine lv_icmp_ge (tgt := 157) hx hb dX11_startsAppend_130 (by decide) (fun c_130 => ?_) (fun c_130 => ?_)
    · exact absurd (nb_le (a := 3 * n0) (b := i) c_130 (by omega) (by omega)) (by omega)
    · have n_130 := nb_nle (a := 3 * n0) (b := i) c_130 (by omega) (by omega)
      refine lv_aload_n hx hb dX11_startsAppend_133 rfl (lv_at hl 1 rfl) ?_
      refine k_mga C G 45 (by decide) mr_45 fl_X11_102 rfl dX11_startsAppend_134 ?_
      refine lv_sipush (v := 14400) hx hb dX11_startsAppend_137 (by decide) ?_
      refine lv_iload_n hx hb dX11_startsAppend_140 rfl (lv_at hl 2 rfl) ?_
      refine lv_imul hx hb dX11_startsAppend_141 ?_
      refine k_topi (y := nI (14400 * wn)) (pk_mul 14400 wn) ?_
      refine lv_iload_n hx hb dX11_startsAppend_142 rfl (lv_at hl 0 rfl) ?_
      refine lv_iadd hx hb dX11_startsAppend_143 ?_
      refine k_topi (y := nI (14400 * wn + i)) (nI_add (14400 * wn) i) ?_
      refine lv_aload_n hx hb dX11_startsAppend_144 rfl (lv_at hl 1 rfl) ?_
      refine k_mga C G 58 (by decide) mr_58 fl_X11_141 rfl dX11_startsAppend_145 ?_
      refine lv_iload_n hx hb dX11_startsAppend_148 rfl (lv_at hl 0 rfl) ?_
      refine k_mil (v := (av 58) i) (i := i) C G 40 (k := 58) (n := 288) mp_58 (by decide) (by omega) rfl dX11_startsAppend_149 ?_
      refine k_mis (x := (av 58) i) (i := 14400 * wn + i) C G 27 (k := 45) (n := 57600) mp_45 (by decide) (by omega) dX11_startsAppend_150 (fun H locs (G : wd Z A s (mdW Z h ad iv (ua (ua av 45 V) 45 (upd V (14400 * wn + i) ((av 58) i)))) H locs) => ?_)
      refine lv_iinc (v := nI (i + 1)) (lv' := [(3, .int (nI (i + 1))), (0, .ref h), (1, .int (nI wn)), (2, .int (nI n0))]) hx hb dX11_startsAppend_151 hl (k := 0) rfl (nI_1 _) (by decide) rfl (fun ls hl => ?_)
      refine lv_goto (tgt := 126) hx hb dX11_startsAppend_154 (by decide) ?_
      rw [ua_ua] at G
      exact ih (i + 1) _ (by omega) (fun j hj => by rw [pk_un (by omega)]; exact hV1 j hj) (fun j hj => by
        by_cases e : j = i
        · subst e; rw [pk_us]
        · rw [pk_un (by omega)]; exact hV2 j (by omega)) _ _ _ G (lv_sub hl [0, 1, 2, 3] rfl)
theorem oth.wr {L : List Nat} {wn : Nat} {a b : avT} (h : oth L wn a b) {k z : Nat} (hz : oz k = z) {g : Nat → Int32} (hg : oW z wn (b k) g) : oth L wn a (ua b k g) := by
  intro k2 hk j hj
  by_cases e : k2 = k
  · subst e
    subst hz
    rw [ua_s, hg j hj]
    exact h k2 hk j hj
  · rw [ua_n e]
    exact h k2 hk j hj
set_option maxRecDepth 100000 in
set_option maxHeartbeats 4000000 in
theorem c_X11_startsAppend (Z : zT) (l : Launch) (h : Nat) (ad : Nat → Nat) (iv : ivT) (av : avT) (wn M : Nat) (hwn : wn < 4) (h47 : av 47 wn = nI M) (h48 : av 48 wn = 0) (hM : M ≤ 96) (hgp : ∀ p, p < 8 → (gp (rowsM av wn M) (nI p)).length ≤ 48) : Kv Z l yX11_startsAppend cX11_startsAppend 7 none ({ frames := 1, cells := 0, slots := 0, locals := 30 }) [.ref h, .int (nI wn)] (mdW Z h ad iv av) (fun u => ∃ (av2 : avT), u = mdW Z h ad iv av2 ∧ sA [45, 48, 49, 50, 51, 58] av av2 ∧ oth [58] wn av av2 ∧ plM av2 wn (apO (rowsM av wn M) 8)) := by
  intro sz
  refine Met.ofK (cc := cX11_startsAppend) (maxL := 7) (ret := none) (by decide) (Nat.le_of_ble_eq_true rfl) ?_
  intro p e s m below meth c ls C G hl
  generalize va_A _ sz = A at G ⊢
  have hx := C.1
  have hb := C.2.1
  have hown := C.2.2.2.2.2.1
  have hts := C.2.2.2.2.2.2.1
  refine lv_iconst (v := 0) hx hb dX11_startsAppend_0 (by decide) ?_
  refine k_topi (y := nI 0) (by rfl) ?_
  refine lv_istore_n (lv' := [(2, .int (nI 0)), (0, .ref h), (1, .int (nI wn))]) hx hb dX11_startsAppend_1 rfl hl (by decide) rfl (fun ls hl => ?_)
  refine lv_iconst (v := 0) hx hb dX11_startsAppend_2 (by decide) ?_
  refine k_topi (y := nI 0) (by rfl) ?_
  refine lv_istore_n (lv' := [(3, .int (nI 0)), (2, .int (nI 0)), (0, .ref h), (1, .int (nI wn))]) hx hb dX11_startsAppend_3 rfl hl (by decide) rfl (fun ls hl => ?_)
  refine lp_msa2 (av0 := av) C hwn h47 hM hgp (fun av1 n1 hn1 hsA hot hso hpl H locs ls G hl => ?_) 8 0 0 av rfl rfl sA.rf oth.rf (so_0 _) (plG_0 h48) _ _ _ G (lv_sub hl [0, 1, 2, 3] rfl)
  refine lv_iconst (v := 0) hx hb dX11_startsAppend_124 (by decide) ?_
  refine k_topi (y := nI 0) (by rfl) ?_
  refine lv_istore_n (lv' := [(3, .int (nI 0)), (2, .int (nI n1)), (0, .ref h), (1, .int (nI wn))]) hx hb dX11_startsAppend_125 rfl hl (by decide) rfl (fun ls hl => ?_)
  have hle := gpS_le (rowsM av wn M) (p := 8) (by omega)
  rw [rowsM_len] at hle
  exact lp_msa3 (n0 := n1) C hwn (by omega) (fun V hV1 hV2 => ⟨_, rfl, ((hsA.mo (by decide)).up (by decide) _), hot.wr (show oz 45 = 14400 from rfl) hV1, plG_cong (f := av1 58) (b := n1) (by rw [hn1]; exact hpl) (by omega) (fun i hi => hV2 i hi) rfl rfl rfl rfl⟩) (3 * n1) 0 (av1 45) (by omega) (fun _ _ => rfl) (fun j hj => absurd hj (by omega)) _ _ _ (by rw [ua_self]; exact G) (lv_sub hl [0, 2, 3, 1] rfl)
