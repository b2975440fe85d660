/-! MODEL (X11): makeColumn. -/
theorem ua_ua {av : avT} {k : Nat} {f g : Nat → Int32} : ua (ua av k f) k g = ua av k g := by
  funext j
  by_cases e : j = k
  · subst e; rw [ua_s, ua_s]
  · rw [ua_n e, ua_n e, ua_n e]
theorem ob_len (w : Nat) : ∀ (l : List Int32) (s : List Int8 × Int32), (l.foldl (obS w) s).1.length ≤ s.1.length + 5 * l.length
  | [], s => Nat.le_refl _
  | v :: l, s => by
    have h := ob_len w l (obS w s v)
    have h2 : (obS w s v).1.length ≤ s.1.length + 5 := by
      unfold obS
      split
      · omega
      · show (s.1 ++ _).length ≤ _
        rw [List.length_append]
        split
        · rw [u4b_len]; omega
        · have := vbs_le (v - s.2); omega
    rw [List.foldl_cons, List.length_cons]; omega
theorem obF_len (w : Nat) (l : List Int32) : (obF w l).1.length ≤ 5 * l.length := by
  have := ob_len w l ([], 0)
  simpa [obF] using this
theorem rnB_len {V : Nat → Int32} {c n : Nat} (hn : n ≤ 48) : (rnB (tf (col V c n))).length ≤ 240 := by
  have h1 := (rn_sw n V c).1
  have h2 := (swF_le V c n).2.1
  unfold rnB
  rw [tf_rn, h1]; omega
set_option maxRecDepth 100000 in
set_option maxHeartbeats 4000000 in
theorem lp_mcA {p : Program} {l : Launch} {e : Env} {s : State} {m : MethodId} {args : Array Value} {below : List Frame} {meth : Method} {c : Code} {Z : zT} {A : Nat → Prop} {Q : State → Prop} {h : Nat} {ad : Nat → Nat} {iv : ivT} {av : avT} {c0 N : Nat} (C : cx p s m args meth c cX11_makeColumn 9 none RX11 "makeColumn") (h20 : iv 20 = nI N) (hN : N ≤ 48) (hc : c0 < 3) (kk : ∀ (T : Nat → Int32), (∀ i, i < (tf (col (mV av) c0 N)).length → T i = (tf (col (mV av) c0 N)).getD i 0) → ∀ (H : Heap) (locs : List Loc) (ls : Array Slot), wd Z A s (mdW Z h ad iv (ua av 25 T)) H locs → lv_has ls 9 [(2, .int (nI (tf (col (mV av) c0 N)).length)), (0, .ref h), (1, .int (nI c0))] → W p l e ({ frames := 2, cells := 0, slots := 0, locals := 60 }) s m args below meth c H locs 0 0 Q (F0 m 55 ls [])) : ∀ (n : Nat) (r q : Nat) (T : Nat → Int32), r + n = N → q = (tf (col (mV av) c0 r)).length → (∀ i, i < q → T i = (tf (col (mV av) c0 r)).getD i 0) → ∀ (H : Heap) (locs : List Loc) (ls : Array Slot), wd Z A s (mdW Z h ad iv (ua av 25 T)) H locs → lv_has ls 9 [(3, .int (nI r)), (2, .int (nI q)), (0, .ref h), (1, .int (nI c0))] → W p l e ({ frames := 2, cells := 0, slots := 0, locals := 60 }) s m args below meth c H locs 0 0 Q (F0 m 4 ls []) := by
  have hx := C.1
  have hb := C.2.1
  have hown := C.2.2.2.2.2.1
  have hts := C.2.2.2.2.2.2.1
  intro n
  induction n with
  | zero =>
    intro r q T hr hq hT H locs ls G hl
    refine lv_iload_n hx hb dX11_makeColumn_4 rfl (lv_at hl 0 rfl) ?_
    refine lv_aload_n hx hb dX11_makeColumn_5 rfl (lv_at hl 2 rfl) ?_
    refine k_mgi (v := nI N) C G 20 (by decide) mr_20 h20 fl_X11_196 rfl dX11_makeColumn_6 ?_
    refine lv_icmp_ge (tgt := 55) hx hb dX11_makeColumn_9 (by decide) (fun c_9 => ?_) (fun c_9 => ?_)
    · have n_9 := nb_le (a := N) (b := r) c_9 (by omega) (by omega)
      have hrN : r = N := by omega
      subst hrN
      subst hq
      exact kk T hT _ _ _ G (lv_sub hl [1, 2, 3] rfl)
    · exact absurd (nb_nle (a := N) (b := r) c_9 (by omega) (by omega)) (by omega)
  | succ n ih =>
    intro r q T hr hq hT H locs ls G hl
    have hqr : q ≤ r := by rw [hq]; have h9 := tf_len (col (mV av) c0 r); rwa [col_len] at h9
    refine lv_iload_n hx hb dX11_makeColumn_4 rfl (lv_at hl 0 rfl) ?_
    refine lv_aload_n hx hb dX11_makeColumn_5 rfl (lv_at hl 2 rfl) ?_
    refine k_mgi (v := nI N) C G 20 (by decide) mr_20 h20 fl_X11_196 rfl dX11_makeColumn_6 ?_
    refine lv_icmp_ge (tgt := 55) hx hb dX11_makeColumn_9 (by decide) (fun c_9 => ?_) (fun c_9 => ?_)
    · exact absurd (nb_le (a := N) (b := r) c_9 (by omega) (by omega)) (by omega)
    · have n_9 := nb_nle (a := N) (b := r) c_9 (by omega) (by omega)
      refine lv_aload_n hx hb dX11_makeColumn_12 rfl (lv_at hl 2 rfl) ?_
      refine k_mga C G 21 (by decide) mr_21 fl_X11_34 rfl dX11_makeColumn_13 ?_
      refine lv_iconst (v := 3) hx hb dX11_makeColumn_16 (by decide) ?_
      refine lv_iload_n hx hb dX11_makeColumn_17 rfl (lv_at hl 0 rfl) ?_
      refine lv_imul hx hb dX11_makeColumn_18 ?_
      refine k_topi (y := nI (3 * r)) (pk_mul 3 r) ?_
      refine lv_iload_n hx hb dX11_makeColumn_19 rfl (lv_at hl 3 rfl) ?_
      refine lv_iadd hx hb dX11_makeColumn_20 ?_
      refine k_topi (y := nI (3 * r + c0)) (nI_add (3 * r) c0) ?_
      refine k_mil (v := mV av (48 * c0 + r)) (i := 3 * r + c0) C G 5 (k := 21) (n := 144) mp_21 (by decide) (by omega) ((mV_at av (by omega)).symm) dX11_makeColumn_21 ?_
      refine lv_ldc (v := (-2147483648)) hx hb hown (hts _ kn_X11_206) dX11_makeColumn_22 ?_
      refine lv_icmp_ne (tgt := 30) hx hb dX11_makeColumn_24 (by decide) (fun c_24 => ?_) (fun c_24 => ?_)
      · refine lv_aload_n hx hb dX11_makeColumn_30 rfl (lv_at hl 2 rfl) ?_
        refine k_mga C G 25 (by decide) mr_25 fl_X11_47 rfl dX11_makeColumn_31 ?_
        refine lv_iload_n hx hb dX11_makeColumn_34 rfl (lv_at hl 1 rfl) ?_
        refine lv_aload_n hx hb dX11_makeColumn_35 rfl (lv_at hl 2 rfl) ?_
        refine k_mga C G 21 (by decide) mr_21 fl_X11_34 rfl dX11_makeColumn_36 ?_
        refine lv_iconst (v := 3) hx hb dX11_makeColumn_39 (by decide) ?_
        refine lv_iload_n hx hb dX11_makeColumn_40 rfl (lv_at hl 0 rfl) ?_
        refine lv_imul hx hb dX11_makeColumn_41 ?_
        refine k_topi (y := nI (3 * r)) (pk_mul 3 r) ?_
        refine lv_iload_n hx hb dX11_makeColumn_42 rfl (lv_at hl 3 rfl) ?_
        refine lv_iadd hx hb dX11_makeColumn_43 ?_
        refine k_topi (y := nI (3 * r + c0)) (nI_add (3 * r) c0) ?_
        refine k_mil (v := mV av (48 * c0 + r)) (i := 3 * r + c0) C G 5 (k := 21) (n := 144) mp_21 (by decide) (by omega) ((mV_at av (by omega)).symm) dX11_makeColumn_44 ?_
        refine k_mis (x := mV av (48 * c0 + r)) (i := q) C G 9 (k := 25) (n := 48) mp_25 (by decide) (by omega) dX11_makeColumn_45 (fun H locs (G : wd Z A s (mdW Z h ad iv (ua (ua av 25 T) 25 (upd T q (mV av (48 * c0 + r))))) H locs) => ?_)
        refine lv_iinc (v := nI (q + 1)) (lv' := [(2, .int (nI (q + 1))), (3, .int (nI r)), (0, .ref h), (1, .int (nI c0))]) hx hb dX11_makeColumn_46 hl (k := 1) rfl (nI_1 _) (by decide) rfl (fun ls hl => ?_)
        refine lv_iinc (v := nI (r + 1)) (lv' := [(3, .int (nI (r + 1))), (2, .int (nI (q + 1))), (0, .ref h), (1, .int (nI c0))]) hx hb dX11_makeColumn_49 hl (k := 1) rfl (nI_1 _) (by decide) rfl (fun ls hl => ?_)
        refine lv_goto (tgt := 4) hx hb dX11_makeColumn_52 (by decide) ?_
        rw [ua_ua] at G
        exact ih (r + 1) (q + 1) _ (by omega) (by rw [col_s, tf_y c_24, List.length_append, ← hq]; rfl) (fun i hi => by
          rw [col_s, tf_y c_24]
          by_cases e : i = q
          · subst e; rw [pk_us]; conv => rhs; rw [hq]
            exact getD_app_eq.symm
          · rw [pk_un e, getD_app_lt (by omega)]; exact hT i (by omega)) _ _ _ G (lv_sub hl [0, 1, 2, 3] rfl)
      · refine lv_goto (tgt := 49) hx hb dX11_makeColumn_27 (by decide) ?_
        refine lv_iinc (v := nI (r + 1)) (lv' := [(3, .int (nI (r + 1))), (2, .int (nI q)), (0, .ref h), (1, .int (nI c0))]) hx hb dX11_makeColumn_49 hl (k := 0) rfl (nI_1 _) (by decide) rfl (fun ls hl => ?_)
        refine lv_goto (tgt := 4) hx hb dX11_makeColumn_52 (by decide) ?_
        exact ih (r + 1) q T (by omega) (by rw [col_s, tf_n c_24]; exact hq) (fun i hi => by rw [col_s, tf_n c_24]; exact hT i hi) _ _ _ G (lv_sub hl [0, 1, 2, 3] rfl)
set_option maxRecDepth 100000 in
set_option maxHeartbeats 4000000 in
theorem lp_mcB {p : Program} {l : Launch} {e : Env} {s : State} {m : MethodId} {args : Array Value} {below : List Frame} {meth : Method} {c : Code} {Z : zT} {A : Nat → Prop} {Q : State → Prop} {h : Nat} {ad : Nat → Nat} {iv : ivT} {av : avT} {c0 : Nat} {th : List Int32} (C : cx p s m args meth c cX11_makeColumn 9 none RX11 "makeColumn") (hT : ∀ i, i < th.length → av 25 i = th.getD i 0) (hm : ∀ v ∈ th, ¬ v = MIS) (hth : th.length ≤ 48) (kk : ∀ (ru va : Nat) (z : Int32), swF th = (4 * th.length, 5 * ru, va, z) → ∀ (H : Heap) (locs : List Loc) (ls : Array Slot), wd Z A s (mdW Z h ad iv av) H locs → lv_has ls 9 [(3, .int (nI ru)), (4, .int (nI va)), (0, .ref h), (1, .int (nI c0)), (2, .int (nI th.length))] → W p l e ({ frames := 2, cells := 0, slots := 0, locals := 60 }) s m args below meth c H locs 0 0 Q (F0 m 147 ls [])) : ∀ (n : Nat) (k ru va : Nat), k + n = th.length → swF (th.take k) = (4 * k, 5 * ru, va, ahd th k) → ∀ (H : Heap) (locs : List Loc) (ls : Array Slot), wd Z A s (mdW Z h ad iv av) H locs → lv_has ls 9 [(5, .int (nI k)), (3, .int (nI ru)), (4, .int (nI va)), (0, .ref h), (1, .int (nI c0)), (2, .int (nI th.length))] → W p l e ({ frames := 2, cells := 0, slots := 0, locals := 60 }) s m args below meth c H locs 0 0 Q (F0 m 63 ls []) := by
  have hx := C.1
  have hb := C.2.1
  have hown := C.2.2.2.2.2.1
  have hts := C.2.2.2.2.2.2.1
  intro n
  induction n with
  | zero =>
    intro k ru va hk hsw H locs ls G hl
    refine lv_iload hx hb dX11_makeColumn_63 (lv_at hl 0 rfl) ?_
    refine lv_iload_n hx hb dX11_makeColumn_65 rfl (lv_at hl 5 rfl) ?_
    refine lv_icmp_ge (tgt := 147) hx hb dX11_makeColumn_66 (by decide) (fun c_66 => ?_) (fun c_66 => ?_)
    · have n_66 := nb_le (a := th.length) (b := k) c_66 (by omega) (by omega)
      have hkt : k = th.length := by omega
      subst hkt
      rw [List.take_length] at hsw
      exact kk ru va _ hsw _ _ _ G (lv_sub hl [1, 2, 3, 4, 5] rfl)
    · exact absurd (nb_nle (a := th.length) (b := k) c_66 (by omega) (by omega)) (by omega)
  | succ n ih =>
    intro k ru va hk hsw H locs ls G hl
    refine lv_iload hx hb dX11_makeColumn_63 (lv_at hl 0 rfl) ?_
    refine lv_iload_n hx hb dX11_makeColumn_65 rfl (lv_at hl 5 rfl) ?_
    refine lv_icmp_ge (tgt := 147) hx hb dX11_makeColumn_66 (by decide) (fun c_66 => ?_) (fun c_66 => ?_)
    · exact absurd (nb_le (a := th.length) (b := k) c_66 (by omega) (by omega)) (by omega)
    · have n_66 := nb_nle (a := th.length) (b := k) c_66 (by omega) (by omega)
      refine lv_iload_n hx hb dX11_makeColumn_69 rfl (lv_at hl 1 rfl) ?_
      refine lv_iload hx hb dX11_makeColumn_70 (lv_at hl 0 rfl) ?_
      refine lv_if_eq (tgt := 94) hx hb dX11_makeColumn_72 (by decide) (fun c_72 => ?_) (fun c_72 => ?_)
      · have n_72 := nb_eq (a := k) (b := 0) c_72 (by omega) (by omega)
        refine lv_iconst (v := 1) hx hb dX11_makeColumn_94 (by decide) ?_
        refine lv_goto (tgt := 99) hx hb dX11_makeColumn_95 (by decide) ?_
        refine lv_iadd hx hb dX11_makeColumn_99 ?_
        refine k_topi (y := nI (ru + 1)) (nI_add ru 1) ?_
        refine lv_istore_n (lv' := [(3, .int (nI (ru + 1))), (5, .int (nI k)), (4, .int (nI va)), (0, .ref h), (1, .int (nI c0)), (2, .int (nI th.length))]) hx hb dX11_makeColumn_100 rfl hl (by decide) rfl (fun ls hl => ?_)
        refine lv_iload hx hb dX11_makeColumn_101 (lv_at hl 2 rfl) ?_
        refine lv_iload hx hb dX11_makeColumn_103 (lv_at hl 1 rfl) ?_
        refine lv_if_ne (tgt := 118) hx hb dX11_makeColumn_105 (by decide) (fun c_105 => ?_) (fun c_105 => ?_)
        · exact absurd c_72 c_105
        · have n_105 := nb_eq (a := k) (b := 0) c_105 (by omega) (by omega)
          refine lv_aload_n hx hb dX11_makeColumn_108 rfl (lv_at hl 3 rfl) ?_
          refine k_mga C G 25 (by decide) mr_25 fl_X11_47 rfl dX11_makeColumn_109 ?_
          refine lv_iload hx hb dX11_makeColumn_112 (lv_at hl 1 rfl) ?_
          refine k_mil (v := th.getD k 0) (i := k) C G 9 (k := 25) (n := 48) mp_25 (by decide) (by omega) (hT k (by omega)) dX11_makeColumn_114 ?_
          refine lv_goto (tgt := 135) hx hb dX11_makeColumn_115 (by decide) ?_
          refine k_topi (y := th.getD k 0 - ahd th k) (by unfold ahd; rw [if_pos n_72]; exact (Int32.sub_zero _).symm) ?_
          refine kcM_i G (krS 1 rfl (As := [.int (th.getD k 0 - ahd th k)]) (rest := [.int (nI va)]) C G pmN (c_X11_bytesOf Z l h ad iv av (th.getD k 0 - ahd th k) _) (gdS ml_X11_207 sm_X11_bytesOf ii_X11 co_X11_bytesOf) (by decide +kernel) ⟨Nat.le_of_ble_eq_true rfl, Nat.le_of_ble_eq_true rfl⟩ hl rfl (Nat.le_of_ble_eq_true rfl) ⟨Nat.le_of_ble_eq_true rfl, Nat.le_of_ble_eq_true rfl⟩ dX11_makeColumn_135) (fun r_135 u H locs hu G => ?_)
          obtain ⟨r_135_e, rfl⟩ := hu
          obtain ⟨lv, hlv⟩ : ∃ lv, lv = (vbs (th.getD k 0 - ahd th k)).length := ⟨_, rfl⟩
          rw [← hlv] at r_135_e
          subst r_135_e
          refine lv_iadd hx hb dX11_makeColumn_138 ?_
          refine k_topi (y := nI (va + lv)) (nI_add va lv) ?_
          refine lv_istore (lv' := [(4, .int (nI (va + lv))), (3, .int (nI (ru + 1))), (5, .int (nI k)), (0, .ref h), (1, .int (nI c0)), (2, .int (nI th.length))]) hx hb dX11_makeColumn_139 hl (by decide) rfl (fun ls hl => ?_)
          refine lv_iinc (v := nI (k + 1)) (lv' := [(5, .int (nI (k + 1))), (4, .int (nI (va + lv))), (3, .int (nI (ru + 1))), (0, .ref h), (1, .int (nI c0)), (2, .int (nI th.length))]) hx hb dX11_makeColumn_141 hl (k := 2) rfl (nI_1 _) (by decide) rfl (fun ls hl => ?_)
          refine lv_goto (tgt := 63) hx hb dX11_makeColumn_144 (by decide) ?_
          exact ih (k + 1) (ru + 1) (va + lv) (by omega) (by rw [sw_k hm (by omega) hsw, if_pos (Or.inl n_72), hlv]) _ _ _ G (lv_sub hl [0, 2, 1, 3, 4, 5] rfl)
      · have n_72 := nb_ne (a := k) (b := 0) c_72 (by omega) (by omega)
        refine lv_aload_n hx hb dX11_makeColumn_75 rfl (lv_at hl 3 rfl) ?_
        refine k_mga C G 25 (by decide) mr_25 fl_X11_47 rfl dX11_makeColumn_76 ?_
        refine lv_iload hx hb dX11_makeColumn_79 (lv_at hl 0 rfl) ?_
        refine k_mil (v := th.getD k 0) (i := k) C G 9 (k := 25) (n := 48) mp_25 (by decide) (by omega) (hT k (by omega)) dX11_makeColumn_81 ?_
        refine lv_aload_n hx hb dX11_makeColumn_82 rfl (lv_at hl 3 rfl) ?_
        refine k_mga C G 25 (by decide) mr_25 fl_X11_47 rfl dX11_makeColumn_83 ?_
        refine lv_iload hx hb dX11_makeColumn_86 (lv_at hl 0 rfl) ?_
        refine lv_iconst (v := 1) hx hb dX11_makeColumn_88 (by decide) ?_
        refine lv_isub hx hb dX11_makeColumn_89 ?_
        refine k_topi (y := nI (k - 1)) (pk_sub (a := k) (b := 1) (by omega)) ?_
        refine k_mil (v := th.getD (k - 1) 0) (i := k - 1) C G 9 (k := 25) (n := 48) mp_25 (by decide) (by omega) (hT (k - 1) (by omega)) dX11_makeColumn_90 ?_
        refine lv_icmp_eq (tgt := 98) hx hb dX11_makeColumn_91 (by decide) (fun c_91 => ?_) (fun c_91 => ?_)
        · refine lv_iconst (v := 0) hx hb dX11_makeColumn_98 (by decide) ?_
          refine lv_iadd hx hb dX11_makeColumn_99 ?_
          refine k_topi (y := nI (ru)) (Int32.add_zero _) ?_
          refine lv_istore_n (lv' := [(3, .int (nI ru)), (5, .int (nI k)), (4, .int (nI va)), (0, .ref h), (1, .int (nI c0)), (2, .int (nI th.length))]) hx hb dX11_makeColumn_100 rfl hl (by decide) rfl (fun ls hl => ?_)
          refine lv_iload hx hb dX11_makeColumn_101 (lv_at hl 2 rfl) ?_
          refine lv_iload hx hb dX11_makeColumn_103 (lv_at hl 1 rfl) ?_
          refine lv_if_ne (tgt := 118) hx hb dX11_makeColumn_105 (by decide) (fun c_105 => ?_) (fun c_105 => ?_)
          · have n_105 := nb_ne (a := k) (b := 0) c_105 (by omega) (by omega)
            refine lv_aload_n hx hb dX11_makeColumn_118 rfl (lv_at hl 3 rfl) ?_
            refine k_mga C G 25 (by decide) mr_25 fl_X11_47 rfl dX11_makeColumn_119 ?_
            refine lv_iload hx hb dX11_makeColumn_122 (lv_at hl 1 rfl) ?_
            refine k_mil (v := th.getD k 0) (i := k) C G 9 (k := 25) (n := 48) mp_25 (by decide) (by omega) (hT k (by omega)) dX11_makeColumn_124 ?_
            refine lv_aload_n hx hb dX11_makeColumn_125 rfl (lv_at hl 3 rfl) ?_
            refine k_mga C G 25 (by decide) mr_25 fl_X11_47 rfl dX11_makeColumn_126 ?_
            refine lv_iload hx hb dX11_makeColumn_129 (lv_at hl 1 rfl) ?_
            refine lv_iconst (v := 1) hx hb dX11_makeColumn_131 (by decide) ?_
            refine lv_isub hx hb dX11_makeColumn_132 ?_
            refine k_topi (y := nI (k - 1)) (pk_sub (a := k) (b := 1) (by omega)) ?_
            refine k_mil (v := th.getD (k - 1) 0) (i := k - 1) C G 9 (k := 25) (n := 48) mp_25 (by decide) (by omega) (hT (k - 1) (by omega)) dX11_makeColumn_133 ?_
            refine lv_isub hx hb dX11_makeColumn_134 ?_
            refine k_topi (y := th.getD k 0 - ahd th k) (by unfold ahd; rw [if_neg n_72]) ?_
            refine kcM_i G (krS 1 rfl (As := [.int (th.getD k 0 - ahd th k)]) (rest := [.int (nI va)]) C G pmN (c_X11_bytesOf Z l h ad iv av (th.getD k 0 - ahd th k) _) (gdS ml_X11_207 sm_X11_bytesOf ii_X11 co_X11_bytesOf) (by decide +kernel) ⟨Nat.le_of_ble_eq_true rfl, Nat.le_of_ble_eq_true rfl⟩ hl rfl (Nat.le_of_ble_eq_true rfl) ⟨Nat.le_of_ble_eq_true rfl, Nat.le_of_ble_eq_true rfl⟩ dX11_makeColumn_135) (fun r_135_1 u H locs hu G => ?_)
            obtain ⟨r_135_1_e, rfl⟩ := hu
            obtain ⟨lv, hlv⟩ : ∃ lv, lv = (vbs (th.getD k 0 - ahd th k)).length := ⟨_, rfl⟩
            rw [← hlv] at r_135_1_e
            subst r_135_1_e
            refine lv_iadd hx hb dX11_makeColumn_138 ?_
            refine k_topi (y := nI (va + lv)) (nI_add va lv) ?_
            refine lv_istore (lv' := [(4, .int (nI (va + lv))), (3, .int (nI ru)), (5, .int (nI k)), (0, .ref h), (1, .int (nI c0)), (2, .int (nI th.length))]) hx hb dX11_makeColumn_139 hl (by decide) rfl (fun ls hl => ?_)
            refine lv_iinc (v := nI (k + 1)) (lv' := [(5, .int (nI (k + 1))), (4, .int (nI (va + lv))), (3, .int (nI ru)), (0, .ref h), (1, .int (nI c0)), (2, .int (nI th.length))]) hx hb dX11_makeColumn_141 hl (k := 2) rfl (nI_1 _) (by decide) rfl (fun ls hl => ?_)
            refine lv_goto (tgt := 63) hx hb dX11_makeColumn_144 (by decide) ?_
            exact ih (k + 1) (ru) (va + lv) (by omega) (by rw [sw_k hm (by omega) hsw, if_neg (by rintro (z | z); exact n_72 z; exact z c_91), hlv]) _ _ _ G (lv_sub hl [0, 2, 1, 3, 4, 5] rfl)
          · exact absurd c_105 c_72
        · refine lv_iconst (v := 1) hx hb dX11_makeColumn_94 (by decide) ?_
          refine lv_goto (tgt := 99) hx hb dX11_makeColumn_95 (by decide) ?_
          refine lv_iadd hx hb dX11_makeColumn_99 ?_
          refine k_topi (y := nI (ru + 1)) (nI_add ru 1) ?_
          refine lv_istore_n (lv' := [(3, .int (nI (ru + 1))), (5, .int (nI k)), (4, .int (nI va)), (0, .ref h), (1, .int (nI c0)), (2, .int (nI th.length))]) hx hb dX11_makeColumn_100 rfl hl (by decide) rfl (fun ls hl => ?_)
          refine lv_iload hx hb dX11_makeColumn_101 (lv_at hl 2 rfl) ?_
          refine lv_iload hx hb dX11_makeColumn_103 (lv_at hl 1 rfl) ?_
          refine lv_if_ne (tgt := 118) hx hb dX11_makeColumn_105 (by decide) (fun c_105 => ?_) (fun c_105 => ?_)
          · have n_105 := nb_ne (a := k) (b := 0) c_105 (by omega) (by omega)
            refine lv_aload_n hx hb dX11_makeColumn_118 rfl (lv_at hl 3 rfl) ?_
            refine k_mga C G 25 (by decide) mr_25 fl_X11_47 rfl dX11_makeColumn_119 ?_
            refine lv_iload hx hb dX11_makeColumn_122 (lv_at hl 1 rfl) ?_
            refine k_mil (v := th.getD k 0) (i := k) C G 9 (k := 25) (n := 48) mp_25 (by decide) (by omega) (hT k (by omega)) dX11_makeColumn_124 ?_
            refine lv_aload_n hx hb dX11_makeColumn_125 rfl (lv_at hl 3 rfl) ?_
            refine k_mga C G 25 (by decide) mr_25 fl_X11_47 rfl dX11_makeColumn_126 ?_
            refine lv_iload hx hb dX11_makeColumn_129 (lv_at hl 1 rfl) ?_
            refine lv_iconst (v := 1) hx hb dX11_makeColumn_131 (by decide) ?_
            refine lv_isub hx hb dX11_makeColumn_132 ?_
            refine k_topi (y := nI (k - 1)) (pk_sub (a := k) (b := 1) (by omega)) ?_
            refine k_mil (v := th.getD (k - 1) 0) (i := k - 1) C G 9 (k := 25) (n := 48) mp_25 (by decide) (by omega) (hT (k - 1) (by omega)) dX11_makeColumn_133 ?_
            refine lv_isub hx hb dX11_makeColumn_134 ?_
            refine k_topi (y := th.getD k 0 - ahd th k) (by unfold ahd; rw [if_neg n_72]) ?_
            refine kcM_i G (krS 1 rfl (As := [.int (th.getD k 0 - ahd th k)]) (rest := [.int (nI va)]) C G pmN (c_X11_bytesOf Z l h ad iv av (th.getD k 0 - ahd th k) _) (gdS ml_X11_207 sm_X11_bytesOf ii_X11 co_X11_bytesOf) (by decide +kernel) ⟨Nat.le_of_ble_eq_true rfl, Nat.le_of_ble_eq_true rfl⟩ hl rfl (Nat.le_of_ble_eq_true rfl) ⟨Nat.le_of_ble_eq_true rfl, Nat.le_of_ble_eq_true rfl⟩ dX11_makeColumn_135) (fun r_135_2 u H locs hu G => ?_)
            obtain ⟨r_135_2_e, rfl⟩ := hu
            obtain ⟨lv, hlv⟩ : ∃ lv, lv = (vbs (th.getD k 0 - ahd th k)).length := ⟨_, rfl⟩
            rw [← hlv] at r_135_2_e
            subst r_135_2_e
            refine lv_iadd hx hb dX11_makeColumn_138 ?_
            refine k_topi (y := nI (va + lv)) (nI_add va lv) ?_
            refine lv_istore (lv' := [(4, .int (nI (va + lv))), (3, .int (nI (ru + 1))), (5, .int (nI k)), (0, .ref h), (1, .int (nI c0)), (2, .int (nI th.length))]) hx hb dX11_makeColumn_139 hl (by decide) rfl (fun ls hl => ?_)
            refine lv_iinc (v := nI (k + 1)) (lv' := [(5, .int (nI (k + 1))), (4, .int (nI (va + lv))), (3, .int (nI (ru + 1))), (0, .ref h), (1, .int (nI c0)), (2, .int (nI th.length))]) hx hb dX11_makeColumn_141 hl (k := 2) rfl (nI_1 _) (by decide) rfl (fun ls hl => ?_)
            refine lv_goto (tgt := 63) hx hb dX11_makeColumn_144 (by decide) ?_
            exact ih (k + 1) (ru + 1) (va + lv) (by omega) (by rw [sw_k hm (by omega) hsw, if_pos (Or.inr c_91), hlv]) _ _ _ G (lv_sub hl [0, 2, 1, 3, 4, 5] rfl)
          · exact absurd c_105 c_72
set_option maxRecDepth 100000 in
set_option maxHeartbeats 4000000 in
theorem lp_mcC {p : Program} {l : Launch} {e : Env} {s : State} {m : MethodId} {args : Array Value} {below : List Frame} {meth : Method} {c : Code} {Z : zT} {A : Nat → Prop} {Q : State → Prop} {h : Nat} {ad : Nat → Nat} {iv : ivT} {av : avT} {c0 ru va : Nat} {z : Int32} {th : List Int32} (C : cx p s m args meth c cX11_makeColumn 9 none RX11 "makeColumn") (hth : th.length ≤ 48) (hsw : swF th = (4 * th.length, 5 * ru, va, z)) (kk : ∀ (wn : Nat), swW th = wn → ∀ (H : Heap) (locs : List Loc) (ls : Array Slot), wd Z A s (mdW Z h ad iv av) H locs → lv_has ls 9 [(5, .int (nI wn)), (0, .ref h), (1, .int (nI c0)), (2, .int (nI th.length))] → W p l e ({ frames := 2, cells := 0, slots := 0, locals := 60 }) s m args below meth c H locs 0 0 Q (F0 m 186 ls [])) {H : Heap} {locs : List Loc} {ls : Array Slot} (G : wd Z A s (mdW Z h ad iv av) H locs) (hl : lv_has ls 9 [(3, .int (nI ru)), (4, .int (nI va)), (0, .ref h), (1, .int (nI c0)), (2, .int (nI th.length))]) : W p l e ({ frames := 2, cells := 0, slots := 0, locals := 60 }) s m args below meth c H locs 0 0 Q (F0 m 147 ls []) := by
  have hx := C.1
  have hb := C.2.1
  have hown := C.2.2.2.2.2.1
  have hts := C.2.2.2.2.2.2.1
  have hb2 := sw_le (l := th) hth
  rw [hsw] at hb2
  dsimp only at hb2
  refine lv_iconst (v := 5) hx hb dX11_makeColumn_147 (by decide) ?_
  refine lv_iload_n hx hb dX11_makeColumn_148 rfl (lv_at hl 0 rfl) ?_
  refine lv_imul hx hb dX11_makeColumn_149 ?_
  refine k_topi (y := nI (5 * ru)) (pk_mul 5 ru) ?_
  refine lv_iconst (v := 4) hx hb dX11_makeColumn_150 (by decide) ?_
  refine lv_iload_n hx hb dX11_makeColumn_151 rfl (lv_at hl 4 rfl) ?_
  refine lv_imul hx hb dX11_makeColumn_152 ?_
  refine k_topi (y := nI (4 * th.length)) (pk_mul 4 th.length) ?_
  refine lv_icmp_ge (tgt := 160) hx hb dX11_makeColumn_153 (by decide) (fun c_153 => ?_) (fun c_153 => ?_)
  · have n_153 := nb_le (a := 4 * th.length) (b := 5 * ru) c_153 (by omega) (by omega)
    refine lv_iconst (v := 0) hx hb dX11_makeColumn_160 (by decide) ?_
    refine lv_istore (lv' := [(5, .int 0), (3, .int (nI ru)), (4, .int (nI va)), (0, .ref h), (1, .int (nI c0)), (2, .int (nI th.length))]) hx hb dX11_makeColumn_161 hl (by decide) rfl (fun ls hl => ?_)
    refine lv_iload hx hb dX11_makeColumn_163 (lv_at hl 2 rfl) ?_
    refine lv_iload hx hb dX11_makeColumn_165 (lv_at hl 0 rfl) ?_
    refine lv_iconst (v := 1) hx hb dX11_makeColumn_167 (by decide) ?_
    refine lv_icmp_ne (tgt := 177) hx hb dX11_makeColumn_168 (by decide) (fun c_168 => ?_) (fun c_168 => ?_)
    · have n_168 := nb_ne (a := 0) (b := 1) c_168 (by omega) (by omega)
      refine lv_iconst (v := 4) hx hb dX11_makeColumn_177 (by decide) ?_
      refine lv_iload_n hx hb dX11_makeColumn_178 rfl (lv_at hl 5 rfl) ?_
      refine lv_imul hx hb dX11_makeColumn_179 ?_
      refine k_topi (y := nI (4 * th.length)) (pk_mul 4 th.length) ?_
      refine lv_icmp_ge (tgt := 186) hx hb dX11_makeColumn_180 (by decide) (fun c_180 => ?_) (fun c_180 => ?_)
      · have n_180 := nb_le (a := 4 * th.length) (b := va) c_180 (by omega) (by omega)
        exact kk 0 (by unfold swW; rw [hsw]; dsimp only; rw [if_neg (by omega), if_neg (by omega)]) _ _ _ G (lv_sub hl [0, 3, 4, 5] rfl)
      · have n_180 := nb_nle (a := 4 * th.length) (b := va) c_180 (by omega) (by omega)
        refine lv_iconst (v := 2) hx hb dX11_makeColumn_183 (by decide) ?_
        refine lv_istore (lv' := [(5, .int 2), (3, .int (nI ru)), (4, .int (nI va)), (0, .ref h), (1, .int (nI c0)), (2, .int (nI th.length))]) hx hb dX11_makeColumn_184 hl (by decide) rfl (fun ls hl => ?_)
        exact kk 2 (by unfold swW; rw [hsw]; dsimp only; rw [if_pos (by omega)]) _ _ _ G (lv_sub hl [0, 3, 4, 5] rfl)
    · exact absurd c_168 (by decide)
  · have n_153 := nb_nle (a := 4 * th.length) (b := 5 * ru) c_153 (by omega) (by omega)
    refine lv_iconst (v := 1) hx hb dX11_makeColumn_156 (by decide) ?_
    refine lv_goto (tgt := 161) hx hb dX11_makeColumn_157 (by decide) ?_
    refine lv_istore (lv' := [(5, .int 1), (3, .int (nI ru)), (4, .int (nI va)), (0, .ref h), (1, .int (nI c0)), (2, .int (nI th.length))]) hx hb dX11_makeColumn_161 hl (by decide) rfl (fun ls hl => ?_)
    refine lv_iload hx hb dX11_makeColumn_163 (lv_at hl 2 rfl) ?_
    refine lv_iload hx hb dX11_makeColumn_165 (lv_at hl 0 rfl) ?_
    refine lv_iconst (v := 1) hx hb dX11_makeColumn_167 (by decide) ?_
    refine lv_icmp_ne (tgt := 177) hx hb dX11_makeColumn_168 (by decide) (fun c_168 => ?_) (fun c_168 => ?_)
    · exact absurd c_168 (by decide)
    · have n_168 := nb_eq (a := 1) (b := 1) c_168 (by omega) (by omega)
      refine lv_iconst (v := 5) hx hb dX11_makeColumn_171 (by decide) ?_
      refine lv_iload_n hx hb dX11_makeColumn_172 rfl (lv_at hl 1 rfl) ?_
      refine lv_imul hx hb dX11_makeColumn_173 ?_
      refine k_topi (y := nI (5 * ru)) (pk_mul 5 ru) ?_
      refine lv_goto (tgt := 180) hx hb dX11_makeColumn_174 (by decide) ?_
      refine lv_icmp_ge (tgt := 186) hx hb dX11_makeColumn_180 (by decide) (fun c_180 => ?_) (fun c_180 => ?_)
      · have n_180 := nb_le (a := 5 * ru) (b := va) c_180 (by omega) (by omega)
        exact kk 1 (by unfold swW; rw [hsw]; dsimp only; rw [if_neg (by omega), if_pos (by omega)]) _ _ _ G (lv_sub hl [0, 3, 4, 5] rfl)
      · have n_180 := nb_nle (a := 5 * ru) (b := va) c_180 (by omega) (by omega)
        refine lv_iconst (v := 2) hx hb dX11_makeColumn_183 (by decide) ?_
        refine lv_istore (lv' := [(5, .int 2), (3, .int (nI ru)), (4, .int (nI va)), (0, .ref h), (1, .int (nI c0)), (2, .int (nI th.length))]) hx hb dX11_makeColumn_184 hl (by decide) rfl (fun ls hl => ?_)
        exact kk 2 (by unfold swW; rw [hsw]; dsimp only; rw [if_pos (by omega)]) _ _ _ G (lv_sub hl [0, 3, 4, 5] rfl)
set_option maxRecDepth 100000 in
set_option maxHeartbeats 4000000 in
theorem lp_mcD8 {p : Program} {l : Launch} {e : Env} {s : State} {m : MethodId} {args : Array Value} {below : List Frame} {meth : Method} {c : Code} {Z : zT} {A : Nat → Prop} {Q : State → Prop} {h : Nat} {ad : Nat → Nat} {iv : ivT} {av : avT} {c0 N t nt wn : Nat} (C : cx p s m args meth c cX11_makeColumn 9 none RX11 "makeColumn") (h20 : iv 20 = nI N) (hN : N ≤ 48) (hc : c0 < 3) (ht : 8 * t < N) (kk : ∀ (H : Heap) (locs : List Loc) (ls : Array Slot), wd Z A s (mdW Z h ad iv av) H locs → lv_has ls 9 [(7, .int (nI (mBn (mV av) c0 N (8 * t) 8))), (6, .int (nI (8 * t))), (0, .ref h), (1, .int (nI c0)), (2, .int (nI nt)), (5, .int (nI wn))] → W p l e ({ frames := 2, cells := 0, slots := 0, locals := 60 }) s m args below meth c H locs 0 0 Q (F0 m 268 ls [])) : ∀ (n : Nat) (k bt : Nat), k + n = 8 → bt = mBn (mV av) c0 N (8 * t) k → ∀ (H : Heap) (locs : List Loc) (ls : Array Slot), wd Z A s (mdW Z h ad iv av) H locs → lv_has ls 9 [(8, .int (nI k)), (7, .int (nI bt)), (6, .int (nI (8 * t))), (0, .ref h), (1, .int (nI c0)), (2, .int (nI nt)), (5, .int (nI wn))] → W p l e ({ frames := 2, cells := 0, slots := 0, locals := 60 }) s m args below meth c H locs 0 0 Q (F0 m 212 ls []) := by
  have hx := C.1
  have hb := C.2.1
  have hown := C.2.2.2.2.2.1
  have hts := C.2.2.2.2.2.2.1
  intro n
  induction n with
  | zero =>
    intro k bt hk hbt H locs ls G hl
    refine lv_iload hx hb dX11_makeColumn_212 (lv_at hl 0 rfl) ?_
    refine lv_bipush (v := 8) hx hb dX11_makeColumn_214 (by decide) ?_
    refine lv_icmp_ge (tgt := 268) hx hb dX11_makeColumn_216 (by decide) (fun c_216 => ?_) (fun c_216 => ?_)
    · have n_216 := nb_le (a := 8) (b := k) c_216 (by omega) (by omega)
      have hk8 : k = 8 := by omega
      subst hk8
      subst hbt
      exact kk _ _ _ G (lv_sub hl [1, 2, 3, 4, 5, 6] rfl)
    · exact absurd (nb_nle (a := 8) (b := k) c_216 (by omega) (by omega)) (by omega)
  | succ n ih =>
    intro k bt hk hbt H locs ls G hl
    refine lv_iload hx hb dX11_makeColumn_212 (lv_at hl 0 rfl) ?_
    refine lv_bipush (v := 8) hx hb dX11_makeColumn_214 (by decide) ?_
    refine lv_icmp_ge (tgt := 268) hx hb dX11_makeColumn_216 (by decide) (fun c_216 => ?_) (fun c_216 => ?_)
    · exact absurd (nb_le (a := 8) (b := k) c_216 (by omega) (by omega)) (by omega)
    · have n_216 := nb_nle (a := 8) (b := k) c_216 (by omega) (by omega)
      refine lv_iconst (v := 2) hx hb dX11_makeColumn_219 (by decide) ?_
      refine lv_iload hx hb dX11_makeColumn_220 (lv_at hl 1 rfl) ?_
      refine lv_imul hx hb dX11_makeColumn_222 ?_
      refine k_topi (y := nI (2 * bt)) (pk_mul 2 bt) ?_
      refine lv_iload hx hb dX11_makeColumn_223 (lv_at hl 2 rfl) ?_
      refine lv_iload hx hb dX11_makeColumn_225 (lv_at hl 0 rfl) ?_
      refine lv_iadd hx hb dX11_makeColumn_227 ?_
      refine k_topi (y := nI (8 * t + k)) (nI_add (8 * t) k) ?_
      refine lv_aload_n hx hb dX11_makeColumn_228 rfl (lv_at hl 3 rfl) ?_
      refine k_mgi (v := nI N) C G 20 (by decide) mr_20 h20 fl_X11_196 rfl dX11_makeColumn_229 ?_
      refine lv_icmp_ge (tgt := 258) hx hb dX11_makeColumn_232 (by decide) (fun c_232 => ?_) (fun c_232 => ?_)
      · have n_232 := nb_le (a := N) (b := 8 * t + k) c_232 (by omega) (by omega)
        refine lv_iconst (v := 0) hx hb dX11_makeColumn_258 (by decide) ?_
        refine lv_iadd hx hb dX11_makeColumn_259 ?_
        refine k_topi (y := nI (2 * bt)) (Int32.add_zero _) ?_
        refine lv_istore (lv' := [(7, .int (nI (2 * bt))), (8, .int (nI k)), (6, .int (nI (8 * t))), (0, .ref h), (1, .int (nI c0)), (2, .int (nI nt)), (5, .int (nI wn))]) hx hb dX11_makeColumn_260 hl (by decide) rfl (fun ls hl => ?_)
        refine lv_iinc (v := nI (k + 1)) (lv' := [(8, .int (nI (k + 1))), (7, .int (nI (2 * bt))), (6, .int (nI (8 * t))), (0, .ref h), (1, .int (nI c0)), (2, .int (nI nt)), (5, .int (nI wn))]) hx hb dX11_makeColumn_262 hl (k := 1) rfl (nI_1 _) (by decide) rfl (fun ls hl => ?_)
        refine lv_goto (tgt := 212) hx hb dX11_makeColumn_265 (by decide) ?_
        exact ih (k + 1) _ (by omega) (by rw [mBn, ← hbt, mB1, if_neg (fun z => absurd z.1 (by omega)), Nat.add_zero]) _ _ _ G (lv_sub hl [0, 1, 2, 3, 4, 5, 6] rfl)
      · have n_232 := nb_nle (a := N) (b := 8 * t + k) c_232 (by omega) (by omega)
        refine lv_aload_n hx hb dX11_makeColumn_235 rfl (lv_at hl 3 rfl) ?_
        refine k_mga C G 21 (by decide) mr_21 fl_X11_34 rfl dX11_makeColumn_236 ?_
        refine lv_iconst (v := 3) hx hb dX11_makeColumn_239 (by decide) ?_
        refine lv_iload hx hb dX11_makeColumn_240 (lv_at hl 2 rfl) ?_
        refine lv_iload hx hb dX11_makeColumn_242 (lv_at hl 0 rfl) ?_
        refine lv_iadd hx hb dX11_makeColumn_244 ?_
        refine k_topi (y := nI (8 * t + k)) (nI_add (8 * t) k) ?_
        refine lv_imul hx hb dX11_makeColumn_245 ?_
        refine k_topi (y := nI (3 * (8 * t + k))) (pk_mul 3 (8 * t + k)) ?_
        refine lv_iload_n hx hb dX11_makeColumn_246 rfl (lv_at hl 4 rfl) ?_
        refine lv_iadd hx hb dX11_makeColumn_247 ?_
        refine k_topi (y := nI (3 * (8 * t + k) + c0)) (nI_add (3 * (8 * t + k)) c0) ?_
        refine k_mil (v := mV av (48 * c0 + (8 * t + k))) (i := 3 * (8 * t + k) + c0) C G 5 (k := 21) (n := 144) mp_21 (by decide) (by omega) ((mV_at av (by omega)).symm) dX11_makeColumn_248 ?_
        refine lv_ldc (v := (-2147483648)) hx hb hown (hts _ kn_X11_206) dX11_makeColumn_249 ?_
        refine lv_icmp_ne (tgt := 258) hx hb dX11_makeColumn_251 (by decide) (fun c_251 => ?_) (fun c_251 => ?_)
        · refine lv_iconst (v := 0) hx hb dX11_makeColumn_258 (by decide) ?_
          refine lv_iadd hx hb dX11_makeColumn_259 ?_
          refine k_topi (y := nI (2 * bt)) (Int32.add_zero _) ?_
          refine lv_istore (lv' := [(7, .int (nI (2 * bt))), (8, .int (nI k)), (6, .int (nI (8 * t))), (0, .ref h), (1, .int (nI c0)), (2, .int (nI nt)), (5, .int (nI wn))]) hx hb dX11_makeColumn_260 hl (by decide) rfl (fun ls hl => ?_)
          refine lv_iinc (v := nI (k + 1)) (lv' := [(8, .int (nI (k + 1))), (7, .int (nI (2 * bt))), (6, .int (nI (8 * t))), (0, .ref h), (1, .int (nI c0)), (2, .int (nI nt)), (5, .int (nI wn))]) hx hb dX11_makeColumn_262 hl (k := 1) rfl (nI_1 _) (by decide) rfl (fun ls hl => ?_)
          refine lv_goto (tgt := 212) hx hb dX11_makeColumn_265 (by decide) ?_
          exact ih (k + 1) _ (by omega) (by rw [mBn, ← hbt, mB1, if_neg (fun z => c_251 z.2), Nat.add_zero]) _ _ _ G (lv_sub hl [0, 1, 2, 3, 4, 5, 6] rfl)
        · refine lv_iconst (v := 1) hx hb dX11_makeColumn_254 (by decide) ?_
          refine lv_goto (tgt := 259) hx hb dX11_makeColumn_255 (by decide) ?_
          refine lv_iadd hx hb dX11_makeColumn_259 ?_
          refine k_topi (y := nI (2 * bt + 1)) (nI_add (2 * bt) 1) ?_
          refine lv_istore (lv' := [(7, .int (nI (2 * bt + 1))), (8, .int (nI k)), (6, .int (nI (8 * t))), (0, .ref h), (1, .int (nI c0)), (2, .int (nI nt)), (5, .int (nI wn))]) hx hb dX11_makeColumn_260 hl (by decide) rfl (fun ls hl => ?_)
          refine lv_iinc (v := nI (k + 1)) (lv' := [(8, .int (nI (k + 1))), (7, .int (nI (2 * bt + 1))), (6, .int (nI (8 * t))), (0, .ref h), (1, .int (nI c0)), (2, .int (nI nt)), (5, .int (nI wn))]) hx hb dX11_makeColumn_262 hl (k := 1) rfl (nI_1 _) (by decide) rfl (fun ls hl => ?_)
          refine lv_goto (tgt := 212) hx hb dX11_makeColumn_265 (by decide) ?_
          exact ih (k + 1) _ (by omega) (by rw [mBn, ← hbt, mB1, if_pos ⟨by omega, c_251⟩]) _ _ _ G (lv_sub hl [0, 1, 2, 3, 4, 5, 6] rfl)
set_option maxRecDepth 100000 in
set_option maxHeartbeats 4000000 in
theorem lp_mcD {p : Program} {l : Launch} {e : Env} {s : State} {m : MethodId} {args : Array Value} {below : List Frame} {meth : Method} {c : Code} {Z : zT} {A : Nat → Prop} {Q : State → Prop} {h : Nat} {ad : Nat → Nat} {iv0 : ivT} {av0 : avT} {c0 N nt wn : Nat} {bs : List Int8} (C : cx p s m args meth c cX11_makeColumn 9 none RX11 "makeColumn") (h20 : iv0 20 = nI N) (hN : N ≤ 48) (hc : c0 < 3) (hbs : bs.length ≤ 1100) (kk : ∀ (iv : ivT) (av : avT), mk_at iv av (bs ++ mBs (mV av0) c0 N ((N + 7) / 8)) → sI [15] iv0 iv → sA [14] av0 av → ∀ (H : Heap) (locs : List Loc) (ls : Array Slot), wd Z A s (mdW Z h ad iv av) H locs → lv_has ls 9 [(0, .ref h), (1, .int (nI c0)), (2, .int (nI nt)), (5, .int (nI wn))] → W p l e ({ frames := 2, cells := 0, slots := 0, locals := 60 }) s m args below meth c H locs 0 0 Q (F0 m 282 ls [])) : ∀ (n : Nat) (t : Nat) (iv : ivT) (av : avT), t + n = (N + 7) / 8 → mk_at iv av (bs ++ mBs (mV av0) c0 N t) → sI [15] iv0 iv → sA [14] av0 av → ∀ (H : Heap) (locs : List Loc) (ls : Array Slot), wd Z A s (mdW Z h ad iv av) H locs → lv_has ls 9 [(6, .int (nI (8 * t))), (0, .ref h), (1, .int (nI c0)), (2, .int (nI nt)), (5, .int (nI wn))] → W p l e ({ frames := 2, cells := 0, slots := 0, locals := 60 }) s m args below meth c H locs 0 0 Q (F0 m 197 ls []) := by
  have hx := C.1
  have hb := C.2.1
  have hown := C.2.2.2.2.2.1
  have hts := C.2.2.2.2.2.2.1
  intro n
  induction n with
  | zero =>
    intro t iv av ht hmk hsI hsA H locs ls G hl
    have h20v : iv 20 = nI N := by rw [hsI 20 (by decide)]; exact h20
    have hmV : mV av = mV av0 := mV_same (hsA 21 (by decide))
    refine lv_iload hx hb dX11_makeColumn_197 (lv_at hl 0 rfl) ?_
    refine lv_aload_n hx hb dX11_makeColumn_199 rfl (lv_at hl 1 rfl) ?_
    refine k_mgi (v := nI N) C G 20 (by decide) mr_20 h20v fl_X11_196 rfl dX11_makeColumn_200 ?_
    refine lv_icmp_ge (tgt := 282) hx hb dX11_makeColumn_203 (by decide) (fun c_203 => ?_) (fun c_203 => ?_)
    · have n_203 := nb_le (a := N) (b := 8 * t) c_203 (by omega) (by omega)
      have htN : t = (N + 7) / 8 := by omega
      subst htN
      exact kk iv av hmk hsI hsA _ _ _ G (lv_sub hl [1, 2, 3, 4] rfl)
    · exact absurd (nb_nle (a := N) (b := 8 * t) c_203 (by omega) (by omega)) (by omega)
  | succ n ih =>
    intro t iv av ht hmk hsI hsA H locs ls G hl
    have h20v : iv 20 = nI N := by rw [hsI 20 (by decide)]; exact h20
    have hmV : mV av = mV av0 := mV_same (hsA 21 (by decide))
    refine lv_iload hx hb dX11_makeColumn_197 (lv_at hl 0 rfl) ?_
    refine lv_aload_n hx hb dX11_makeColumn_199 rfl (lv_at hl 1 rfl) ?_
    refine k_mgi (v := nI N) C G 20 (by decide) mr_20 h20v fl_X11_196 rfl dX11_makeColumn_200 ?_
    refine lv_icmp_ge (tgt := 282) hx hb dX11_makeColumn_203 (by decide) (fun c_203 => ?_) (fun c_203 => ?_)
    · exact absurd (nb_le (a := N) (b := 8 * t) c_203 (by omega) (by omega)) (by omega)
    · have n_203 := nb_nle (a := N) (b := 8 * t) c_203 (by omega) (by omega)
      refine lv_iconst (v := 0) hx hb dX11_makeColumn_206 (by decide) ?_
      refine k_topi (y := nI 0) (by rfl) ?_
      refine lv_istore (lv' := [(7, .int (nI 0)), (6, .int (nI (8 * t))), (0, .ref h), (1, .int (nI c0)), (2, .int (nI nt)), (5, .int (nI wn))]) hx hb dX11_makeColumn_207 hl (by decide) rfl (fun ls hl => ?_)
      refine lv_iconst (v := 0) hx hb dX11_makeColumn_209 (by decide) ?_
      refine k_topi (y := nI 0) (by rfl) ?_
      refine lv_istore (lv' := [(8, .int (nI 0)), (7, .int (nI 0)), (6, .int (nI (8 * t))), (0, .ref h), (1, .int (nI c0)), (2, .int (nI nt)), (5, .int (nI wn))]) hx hb dX11_makeColumn_210 hl (by decide) rfl (fun ls hl => ?_)
      refine lp_mcD8 (nt := nt) (wn := wn) C h20v hN hc (by omega) (fun H locs ls G hl => ?_) 8 0 0 (by omega) rfl _ _ _ G (lv_sub hl [0, 1, 2, 3, 4, 5, 6] rfl)
      refine lv_aload_n hx hb dX11_makeColumn_268 rfl (lv_at hl 2 rfl) ?_
      refine lv_iload hx hb dX11_makeColumn_269 (lv_at hl 0 rfl) ?_
      refine lv_i2l (v := (nI (mBn (mV av) c0 N (8 * t) 8)).toInt64) hx hb dX11_makeColumn_271 rfl ?_
      refine lv_iconst (v := 1) hx hb dX11_makeColumn_272 (by decide) ?_
      refine kcM_v G (krV 2 rfl (As := [.long ((nI (mBn (mV av) c0 N (8 * t) 8)).toInt64), .int 1]) (rest := []) (ci := 12) (CC := RX11) (T := TX11) (N := 61) C G pmN (c_mu1 Z l h ad iv av _ (nI (mBn (mV av) c0 N (8 * t) 8)) hmk (by rw [List.length_append, mBs_len]; omega) _) (gdV ml_X11_161 im_X11_u se_X11_u ii_X11 co_X11_u) (by decide +kernel) ⟨Nat.le_of_ble_eq_true rfl, Nat.le_of_ble_eq_true rfl⟩ rfl 0 rfl hl rfl (Nat.le_of_ble_eq_true rfl) ⟨Nat.le_of_ble_eq_true rfl, Nat.le_of_ble_eq_true rfl⟩ dX11_makeColumn_273) (fun u H locs hu G => ?_)
      obtain ⟨iv1_, av1_, rfl, hm1, hs1, ha1⟩ := hu
      refine lv_iinc (v := nI (8 * (t + 1))) (lv' := [(6, .int (nI (8 * (t + 1)))), (7, .int (nI (mBn (mV av) c0 N (8 * t) 8))), (0, .ref h), (1, .int (nI c0)), (2, .int (nI nt)), (5, .int (nI wn))]) hx hb dX11_makeColumn_276 hl (k := 1) rfl (nI_add _ 8) (by decide) rfl (fun ls hl => ?_)
      refine lv_goto (tgt := 197) hx hb dX11_makeColumn_279 (by decide) ?_
      exact ih (t + 1) _ _ (by omega) (by rw [mBs_s, ← List.append_assoc, mbits_8 _ _ _ _ (by omega)]; have h9 := hm1; rw [hmV] at h9; exact h9) (hsI.tr hs1 (by decide)) (hsA.tr ha1 (by decide)) _ _ _ G (lv_sub hl [0, 2, 3, 4, 5] rfl)
set_option maxRecDepth 100000 in
set_option maxHeartbeats 4000000 in
theorem lp_mcE0 {p : Program} {l : Launch} {e : Env} {s : State} {m : MethodId} {args : Array Value} {below : List Frame} {meth : Method} {c : Code} {Z : zT} {A : Nat → Prop} {Q : State → Prop} {h : Nat} {ad : Nat → Nat} {iv0 : ivT} {av0 : avT} {c0 : Nat} {th : List Int32} {bs : List Int8} (C : cx p s m args meth c cX11_makeColumn 9 none RX11 "makeColumn") (hT : ∀ i, i < th.length → av0 25 i = th.getD i 0) (hm : ∀ v ∈ th, ¬ v = MIS) (hth : th.length ≤ 48) (hbs : bs.length ≤ 1150) (kk : ∀ (iv : ivT) (av : avT), mk_at iv av (bs ++ (obF 0 th).1) → sI [15] iv0 iv → sA [14] av0 av → ∀ (H : Heap) (locs : List Loc) (ls : Array Slot), wd Z A s (mdW Z h ad iv av) H locs → lv_has ls 9 [(0, .ref h), (1, .int (nI c0)), (2, .int (nI th.length))] → W p l e ({ frames := 2, cells := 0, slots := 0, locals := 60 }) s m args below meth c H locs 0 0 Q (F0 m 446 ls [])) : ∀ (n : Nat) (k : Nat) (iv : ivT) (av : avT), k + n = th.length → mk_at iv av (bs ++ (obF 0 (th.take k)).1) → sI [15] iv0 iv → sA [14] av0 av → ∀ (H : Heap) (locs : List Loc) (ls : Array Slot), wd Z A s (mdW Z h ad iv av) H locs → lv_has ls 9 [(6, .int (nI k)), (0, .ref h), (1, .int (nI c0)), (2, .int (nI th.length)), (5, .int 0)] → W p l e ({ frames := 2, cells := 0, slots := 0, locals := 60 }) s m args below meth c H locs 0 0 Q (F0 m 285 ls []) := by
  have hx := C.1
  have hb := C.2.1
  have hown := C.2.2.2.2.2.1
  have hts := C.2.2.2.2.2.2.1
  intro n
  induction n with
  | zero =>
    intro k iv av hk hmk hsI hsA H locs ls G hl
    refine lv_iload hx hb dX11_makeColumn_285 (lv_at hl 0 rfl) ?_
    refine lv_iload_n hx hb dX11_makeColumn_287 rfl (lv_at hl 3 rfl) ?_
    refine lv_icmp_ge (tgt := 446) hx hb dX11_makeColumn_288 (by decide) (fun c_288 => ?_) (fun c_288 => ?_)
    · have n_288 := nb_le (a := th.length) (b := k) c_288 (by omega) (by omega)
      have hkt : k = th.length := by omega
      subst hkt
      rw [List.take_length] at hmk
      exact kk iv av hmk hsI hsA _ _ _ G (lv_sub hl [1, 2, 3] rfl)
    · exact absurd (nb_nle (a := th.length) (b := k) c_288 (by omega) (by omega)) (by omega)
  | succ n ih =>
    intro k iv av hk hmk hsI hsA H locs ls G hl
    have hTv : ∀ i, i < th.length → av 25 i = th.getD i 0 := by rw [hsA 25 (by decide)]; exact hT
    have hob2 := (ob_k 0 hm (show k < th.length by omega)).2
    rw [if_pos rfl] at hob2
    refine lv_iload hx hb dX11_makeColumn_285 (lv_at hl 0 rfl) ?_
    refine lv_iload_n hx hb dX11_makeColumn_287 rfl (lv_at hl 3 rfl) ?_
    refine lv_icmp_ge (tgt := 446) hx hb dX11_makeColumn_288 (by decide) (fun c_288 => ?_) (fun c_288 => ?_)
    · exact absurd (nb_le (a := th.length) (b := k) c_288 (by omega) (by omega)) (by omega)
    · have n_288 := nb_nle (a := th.length) (b := k) c_288 (by omega) (by omega)
      refine lv_iload hx hb dX11_makeColumn_291 (lv_at hl 4 rfl) ?_
      refine lv_if_ne (tgt := 312) hx hb dX11_makeColumn_293 (by decide) (fun c_293 => ?_) (fun c_293 => ?_)
      · exact absurd c_293 (by decide)
      · have n_293 := nb_eq (a := 0) (b := 0) c_293 (by omega) (by omega)
        refine lv_aload_n hx hb dX11_makeColumn_296 rfl (lv_at hl 1 rfl) ?_
        refine lv_aload_n hx hb dX11_makeColumn_297 rfl (lv_at hl 1 rfl) ?_
        refine k_mga C G 25 (by decide) mr_25 fl_X11_47 rfl dX11_makeColumn_298 ?_
        refine lv_iload hx hb dX11_makeColumn_301 (lv_at hl 0 rfl) ?_
        refine k_mil (v := th.getD k 0) (i := k) C G 9 (k := 25) (n := 48) mp_25 (by decide) (by omega) (hTv k (by omega)) dX11_makeColumn_303 ?_
        refine lv_i2l (v := (th.getD k 0).toInt64) hx hb dX11_makeColumn_304 rfl ?_
        refine lv_iconst (v := 4) hx hb dX11_makeColumn_305 (by decide) ?_
        refine kcM_v G (krV 2 rfl (As := [.long ((th.getD k 0).toInt64), .int 4]) (rest := []) (ci := 12) (CC := RX11) (T := TX11) (N := 61) C G pmN (c_mu4 Z l h ad iv av _ (th.getD k 0) hmk (by rw [List.length_append]; have h9 := obF_len 0 (th.take k); rw [List.length_take] at h9; omega) _) (gdV ml_X11_161 im_X11_u se_X11_u ii_X11 co_X11_u) (by decide +kernel) ⟨Nat.le_of_ble_eq_true rfl, Nat.le_of_ble_eq_true rfl⟩ rfl 0 rfl hl rfl (Nat.le_of_ble_eq_true rfl) ⟨Nat.le_of_ble_eq_true rfl, Nat.le_of_ble_eq_true rfl⟩ dX11_makeColumn_306) (fun u H locs hu G => ?_)
        obtain ⟨iv1_, av1_, rfl, hm1, hs1, ha1⟩ := hu
        refine lv_goto (tgt := 440) hx hb dX11_makeColumn_309 (by decide) ?_
        refine lv_iinc (v := nI (k + 1)) (lv' := [(6, .int (nI (k + 1))), (0, .ref h), (1, .int (nI c0)), (2, .int (nI th.length)), (5, .int 0)]) hx hb dX11_makeColumn_440 hl (k := 0) rfl (nI_1 _) (by decide) rfl (fun ls hl => ?_)
        refine lv_goto (tgt := 285) hx hb dX11_makeColumn_443 (by decide) ?_
        exact ih (k + 1) _ _ (by omega) (by rw [hob2, ← List.append_assoc]; exact hm1) (hsI.tr hs1 (by decide)) (hsA.tr ha1 (by decide)) _ _ _ G (lv_sub hl [0, 1, 2, 3, 4] rfl)
set_option maxRecDepth 100000 in
set_option maxHeartbeats 4000000 in
theorem lp_mcE2 {p : Program} {l : Launch} {e : Env} {s : State} {m : MethodId} {args : Array Value} {below : List Frame} {meth : Method} {c : Code} {Z : zT} {A : Nat → Prop} {Q : State → Prop} {h : Nat} {ad : Nat → Nat} {iv0 : ivT} {av0 : avT} {c0 : Nat} {th : List Int32} {bs : List Int8} (C : cx p s m args meth c cX11_makeColumn 9 none RX11 "makeColumn") (hT : ∀ i, i < th.length → av0 25 i = th.getD i 0) (hm : ∀ v ∈ th, ¬ v = MIS) (hth : th.length ≤ 48) (hbs : bs.length ≤ 1150) (kk : ∀ (iv : ivT) (av : avT), mk_at iv av (bs ++ (obF 2 th).1) → sI [15] iv0 iv → sA [14] av0 av → ∀ (H : Heap) (locs : List Loc) (ls : Array Slot), wd Z A s (mdW Z h ad iv av) H locs → lv_has ls 9 [(0, .ref h), (1, .int (nI c0)), (2, .int (nI th.length))] → W p l e ({ frames := 2, cells := 0, slots := 0, locals := 60 }) s m args below meth c H locs 0 0 Q (F0 m 446 ls [])) : ∀ (n : Nat) (k : Nat) (iv : ivT) (av : avT), k + n = th.length → mk_at iv av (bs ++ (obF 2 (th.take k)).1) → sI [15] iv0 iv → sA [14] av0 av → ∀ (H : Heap) (locs : List Loc) (ls : Array Slot), wd Z A s (mdW Z h ad iv av) H locs → lv_has ls 9 [(6, .int (nI k)), (0, .ref h), (1, .int (nI c0)), (2, .int (nI th.length)), (5, .int 2)] → W p l e ({ frames := 2, cells := 0, slots := 0, locals := 60 }) s m args below meth c H locs 0 0 Q (F0 m 285 ls []) := by
  have hx := C.1
  have hb := C.2.1
  have hown := C.2.2.2.2.2.1
  have hts := C.2.2.2.2.2.2.1
  intro n
  induction n with
  | zero =>
    intro k iv av hk hmk hsI hsA H locs ls G hl
    refine lv_iload hx hb dX11_makeColumn_285 (lv_at hl 0 rfl) ?_
    refine lv_iload_n hx hb dX11_makeColumn_287 rfl (lv_at hl 3 rfl) ?_
    refine lv_icmp_ge (tgt := 446) hx hb dX11_makeColumn_288 (by decide) (fun c_288 => ?_) (fun c_288 => ?_)
    · have n_288 := nb_le (a := th.length) (b := k) c_288 (by omega) (by omega)
      have hkt : k = th.length := by omega
      subst hkt
      rw [List.take_length] at hmk
      exact kk iv av hmk hsI hsA _ _ _ G (lv_sub hl [1, 2, 3] rfl)
    · exact absurd (nb_nle (a := th.length) (b := k) c_288 (by omega) (by omega)) (by omega)
  | succ n ih =>
    intro k iv av hk hmk hsI hsA H locs ls G hl
    have hTv : ∀ i, i < th.length → av 25 i = th.getD i 0 := by rw [hsA 25 (by decide)]; exact hT
    have hob2 := (ob_k 2 hm (show k < th.length by omega)).2
    rw [if_neg (by decide)] at hob2
    refine lv_iload hx hb dX11_makeColumn_285 (lv_at hl 0 rfl) ?_
    refine lv_iload_n hx hb dX11_makeColumn_287 rfl (lv_at hl 3 rfl) ?_
    refine lv_icmp_ge (tgt := 446) hx hb dX11_makeColumn_288 (by decide) (fun c_288 => ?_) (fun c_288 => ?_)
    · exact absurd (nb_le (a := th.length) (b := k) c_288 (by omega) (by omega)) (by omega)
    · have n_288 := nb_nle (a := th.length) (b := k) c_288 (by omega) (by omega)
      refine lv_iload hx hb dX11_makeColumn_291 (lv_at hl 4 rfl) ?_
      refine lv_if_ne (tgt := 312) hx hb dX11_makeColumn_293 (by decide) (fun c_293 => ?_) (fun c_293 => ?_)
      · have n_293 := nb_ne (a := 2) (b := 0) c_293 (by omega) (by omega)
        refine lv_iload hx hb dX11_makeColumn_312 (lv_at hl 4 rfl) ?_
        refine lv_iconst (v := 2) hx hb dX11_makeColumn_314 (by decide) ?_
        refine lv_icmp_ne (tgt := 357) hx hb dX11_makeColumn_315 (by decide) (fun c_315 => ?_) (fun c_315 => ?_)
        · exact absurd c_315 (by decide)
        · have n_315 := nb_eq (a := 2) (b := 2) c_315 (by omega) (by omega)
          refine lv_aload_n hx hb dX11_makeColumn_318 rfl (lv_at hl 1 rfl) ?_
          refine lv_iload hx hb dX11_makeColumn_319 (lv_at hl 0 rfl) ?_
          refine lv_if_ne (tgt := 334) hx hb dX11_makeColumn_321 (by decide) (fun c_321 => ?_) (fun c_321 => ?_)
          · have n_321 := nb_ne (a := k) (b := 0) c_321 (by omega) (by omega)
            refine lv_aload_n hx hb dX11_makeColumn_334 rfl (lv_at hl 1 rfl) ?_
            refine k_mga C G 25 (by decide) mr_25 fl_X11_47 rfl dX11_makeColumn_335 ?_
            refine lv_iload hx hb dX11_makeColumn_338 (lv_at hl 0 rfl) ?_
            refine k_mil (v := th.getD k 0) (i := k) C G 9 (k := 25) (n := 48) mp_25 (by decide) (by omega) (hTv k (by omega)) dX11_makeColumn_340 ?_
            refine lv_aload_n hx hb dX11_makeColumn_341 rfl (lv_at hl 1 rfl) ?_
            refine k_mga C G 25 (by decide) mr_25 fl_X11_47 rfl dX11_makeColumn_342 ?_
            refine lv_iload hx hb dX11_makeColumn_345 (lv_at hl 0 rfl) ?_
            refine lv_iconst (v := 1) hx hb dX11_makeColumn_347 (by decide) ?_
            refine lv_isub hx hb dX11_makeColumn_348 ?_
            refine k_topi (y := nI (k - 1)) (pk_sub (a := k) (b := 1) (by omega)) ?_
            refine k_mil (v := th.getD (k - 1) 0) (i := k - 1) C G 9 (k := 25) (n := 48) mp_25 (by decide) (by omega) (hTv (k - 1) (by omega)) dX11_makeColumn_349 ?_
            refine lv_isub hx hb dX11_makeColumn_350 ?_
            refine k_topi (y := th.getD k 0 - ahd th k) (by unfold ahd; rw [if_neg n_321]) ?_
            refine kcM_v G (krV 1 rfl (As := [.int (th.getD k 0 - ahd th k)]) (rest := []) (ci := 12) (CC := RX11) (T := TX11) (N := 61) C G pmN (c_X11_varint Z l h ad iv av _ (th.getD k 0 - ahd th k) hmk (by rw [List.length_append]; have h9 := obF_len 2 (th.take k); rw [List.length_take] at h9; have h8 := vbs_le (th.getD k 0 - ahd th k); omega) _) (gdV ml_X11_210 im_X11_varint se_X11_varint ii_X11 co_X11_varint) (by decide +kernel) ⟨Nat.le_of_ble_eq_true rfl, Nat.le_of_ble_eq_true rfl⟩ rfl 0 rfl hl rfl (Nat.le_of_ble_eq_true rfl) ⟨Nat.le_of_ble_eq_true rfl, Nat.le_of_ble_eq_true rfl⟩ dX11_makeColumn_351) (fun u H locs hu G => ?_)
            obtain ⟨iv1_, av1_, rfl, hm1, hs1, ha1⟩ := hu
            refine lv_goto (tgt := 440) hx hb dX11_makeColumn_354 (by decide) ?_
            refine lv_iinc (v := nI (k + 1)) (lv' := [(6, .int (nI (k + 1))), (0, .ref h), (1, .int (nI c0)), (2, .int (nI th.length)), (5, .int 2)]) hx hb dX11_makeColumn_440 hl (k := 0) rfl (nI_1 _) (by decide) rfl (fun ls hl => ?_)
            refine lv_goto (tgt := 285) hx hb dX11_makeColumn_443 (by decide) ?_
            exact ih (k + 1) _ _ (by omega) (by rw [hob2, ← List.append_assoc]; exact hm1) (hsI.tr hs1 (by decide)) (hsA.tr ha1 (by decide)) _ _ _ G (lv_sub hl [0, 1, 2, 3, 4] rfl)
          · have n_321 := nb_eq (a := k) (b := 0) c_321 (by omega) (by omega)
            refine lv_aload_n hx hb dX11_makeColumn_324 rfl (lv_at hl 1 rfl) ?_
            refine k_mga C G 25 (by decide) mr_25 fl_X11_47 rfl dX11_makeColumn_325 ?_
            refine lv_iload hx hb dX11_makeColumn_328 (lv_at hl 0 rfl) ?_
            refine k_mil (v := th.getD k 0) (i := k) C G 9 (k := 25) (n := 48) mp_25 (by decide) (by omega) (hTv k (by omega)) dX11_makeColumn_330 ?_
            refine lv_goto (tgt := 351) hx hb dX11_makeColumn_331 (by decide) ?_
            refine k_topi (y := th.getD k 0 - ahd th k) (by unfold ahd; rw [if_pos n_321]; exact (Int32.sub_zero _).symm) ?_
            refine kcM_v G (krV 1 rfl (As := [.int (th.getD k 0 - ahd th k)]) (rest := []) (ci := 12) (CC := RX11) (T := TX11) (N := 61) C G pmN (c_X11_varint Z l h ad iv av _ (th.getD k 0 - ahd th k) hmk (by rw [List.length_append]; have h9 := obF_len 2 (th.take k); rw [List.length_take] at h9; have h8 := vbs_le (th.getD k 0 - ahd th k); omega) _) (gdV ml_X11_210 im_X11_varint se_X11_varint ii_X11 co_X11_varint) (by decide +kernel) ⟨Nat.le_of_ble_eq_true rfl, Nat.le_of_ble_eq_true rfl⟩ rfl 0 rfl hl rfl (Nat.le_of_ble_eq_true rfl) ⟨Nat.le_of_ble_eq_true rfl, Nat.le_of_ble_eq_true rfl⟩ dX11_makeColumn_351) (fun u H locs hu G => ?_)
            obtain ⟨iv2_, av2_, rfl, hm2, hs2, ha2⟩ := hu
            refine lv_goto (tgt := 440) hx hb dX11_makeColumn_354 (by decide) ?_
            refine lv_iinc (v := nI (k + 1)) (lv' := [(6, .int (nI (k + 1))), (0, .ref h), (1, .int (nI c0)), (2, .int (nI th.length)), (5, .int 2)]) hx hb dX11_makeColumn_440 hl (k := 0) rfl (nI_1 _) (by decide) rfl (fun ls hl => ?_)
            refine lv_goto (tgt := 285) hx hb dX11_makeColumn_443 (by decide) ?_
            exact ih (k + 1) _ _ (by omega) (by rw [hob2, ← List.append_assoc]; exact hm2) (hsI.tr hs2 (by decide)) (hsA.tr ha2 (by decide)) _ _ _ G (lv_sub hl [0, 1, 2, 3, 4] rfl)
      · exact absurd c_293 (by decide)
set_option maxRecDepth 100000 in
set_option maxHeartbeats 4000000 in
theorem lp_mcR {p : Program} {l : Launch} {e : Env} {s : State} {m : MethodId} {args : Array Value} {below : List Frame} {meth : Method} {c : Code} {Z : zT} {A : Nat → Prop} {Q : State → Prop} {h : Nat} {ad : Nat → Nat} {iv : ivT} {av : avT} {c0 k : Nat} {th : List Int32} (C : cx p s m args meth c cX11_makeColumn 9 none RX11 "makeColumn") (hT : ∀ i, i < th.length → av 25 i = th.getD i 0) (hth : th.length ≤ 48) (hk : k < th.length) (kk : ∀ (j : Nat), j = 1 + ((th.drop (k + 1)).takeWhile (fun x => decide (x = th.getD k 0))).length → j ≤ 48 → ∀ (H : Heap) (locs : List Loc) (ls : Array Slot), wd Z A s (mdW Z h ad iv av) H locs → lv_has ls 9 [(7, .int (nI j)), (6, .int (nI k)), (0, .ref h), (1, .int (nI c0)), (2, .int (nI th.length)), (5, .int 1)] → W p l e ({ frames := 2, cells := 0, slots := 0, locals := 60 }) s m args below meth c H locs 0 0 Q (F0 m 419 ls [])) : ∀ (n : Nat) (j : Nat), k + j + n = th.length → 1 ≤ j → k + j ≤ th.length → (∀ i, 1 ≤ i → i < j → th.getD (k + i) 0 = th.getD k 0) → ∀ (H : Heap) (locs : List Loc) (ls : Array Slot), wd Z A s (mdW Z h ad iv av) H locs → lv_has ls 9 [(7, .int (nI j)), (6, .int (nI k)), (0, .ref h), (1, .int (nI c0)), (2, .int (nI th.length)), (5, .int 1)] → W p l e ({ frames := 2, cells := 0, slots := 0, locals := 60 }) s m args below meth c H locs 0 0 Q (F0 m 384 ls []) := by
  have hx := C.1
  have hb := C.2.1
  have hown := C.2.2.2.2.2.1
  have hts := C.2.2.2.2.2.2.1
  intro n
  induction n with
  | zero =>
    intro j hn hj1 hjl hall H locs ls G hl
    refine lv_iload hx hb dX11_makeColumn_384 (lv_at hl 1 rfl) ?_
    refine lv_iload hx hb dX11_makeColumn_386 (lv_at hl 0 rfl) ?_
    refine lv_iadd hx hb dX11_makeColumn_388 ?_
    refine k_topi (y := nI (k + j)) (nI_add k j) ?_
    refine lv_iload_n hx hb dX11_makeColumn_389 rfl (lv_at hl 4 rfl) ?_
    refine lv_icmp_ge (tgt := 419) hx hb dX11_makeColumn_390 (by decide) (fun c_390 => ?_) (fun c_390 => ?_)
    · have n_390 := nb_le (a := th.length) (b := k + j) c_390 (by omega) (by omega)
      have hjl := run_len (v := th.getD k 0) hj1 (by omega) hall (fun z => absurd z (by omega))
      exact kk j hjl (by omega) _ _ _ G (lv_sub hl [0, 1, 2, 3, 4, 5] rfl)
    · exact absurd (nb_nle (a := th.length) (b := k + j) c_390 (by omega) (by omega)) (by omega)
  | succ n ih =>
    intro j hn hj1 hjl hall H locs ls G hl
    refine lv_iload hx hb dX11_makeColumn_384 (lv_at hl 1 rfl) ?_
    refine lv_iload hx hb dX11_makeColumn_386 (lv_at hl 0 rfl) ?_
    refine lv_iadd hx hb dX11_makeColumn_388 ?_
    refine k_topi (y := nI (k + j)) (nI_add k j) ?_
    refine lv_iload_n hx hb dX11_makeColumn_389 rfl (lv_at hl 4 rfl) ?_
    refine lv_icmp_ge (tgt := 419) hx hb dX11_makeColumn_390 (by decide) (fun c_390 => ?_) (fun c_390 => ?_)
    · have n_390 := nb_le (a := th.length) (b := k + j) c_390 (by omega) (by omega)
      have hjl := run_len (v := th.getD k 0) hj1 (by omega) hall (fun z => absurd z (by omega))
      exact kk j hjl (by omega) _ _ _ G (lv_sub hl [0, 1, 2, 3, 4, 5] rfl)
    · have n_390 := nb_nle (a := th.length) (b := k + j) c_390 (by omega) (by omega)
      refine lv_aload_n hx hb dX11_makeColumn_393 rfl (lv_at hl 2 rfl) ?_
      refine k_mga C G 25 (by decide) mr_25 fl_X11_47 rfl dX11_makeColumn_394 ?_
      refine lv_iload hx hb dX11_makeColumn_397 (lv_at hl 1 rfl) ?_
      refine lv_iload hx hb dX11_makeColumn_399 (lv_at hl 0 rfl) ?_
      refine lv_iadd hx hb dX11_makeColumn_401 ?_
      refine k_topi (y := nI (k + j)) (nI_add k j) ?_
      refine k_mil (v := th.getD (k + j) 0) (i := k + j) C G 9 (k := 25) (n := 48) mp_25 (by decide) (by omega) (hT (k + j) (by omega)) dX11_makeColumn_402 ?_
      refine lv_aload_n hx hb dX11_makeColumn_403 rfl (lv_at hl 2 rfl) ?_
      refine k_mga C G 25 (by decide) mr_25 fl_X11_47 rfl dX11_makeColumn_404 ?_
      refine lv_iload hx hb dX11_makeColumn_407 (lv_at hl 1 rfl) ?_
      refine k_mil (v := th.getD k 0) (i := k) C G 9 (k := 25) (n := 48) mp_25 (by decide) (by omega) (hT k (by omega)) dX11_makeColumn_409 ?_
      refine lv_icmp_ne (tgt := 419) hx hb dX11_makeColumn_410 (by decide) (fun c_410 => ?_) (fun c_410 => ?_)
      · have hjl := run_len (v := th.getD k 0) hj1 (by omega) hall (fun _ => c_410)
        exact kk j hjl (by omega) _ _ _ G (lv_sub hl [0, 1, 2, 3, 4, 5] rfl)
      · refine lv_iinc (v := nI (j + 1)) (lv' := [(7, .int (nI (j + 1))), (6, .int (nI k)), (0, .ref h), (1, .int (nI c0)), (2, .int (nI th.length)), (5, .int 1)]) hx hb dX11_makeColumn_413 hl (k := 0) rfl (nI_1 _) (by decide) rfl (fun ls hl => ?_)
        refine lv_goto (tgt := 384) hx hb dX11_makeColumn_416 (by decide) ?_
        exact ih (j + 1) (by omega) (by omega) (by omega) (fun i h1 h2 => by
          by_cases e : i = j
          · subst e; exact c_410
          · exact hall i h1 (by omega)) _ _ _ G (lv_sub hl [0, 1, 2, 3, 4, 5] rfl)
set_option maxRecDepth 100000 in
set_option maxHeartbeats 4000000 in
theorem lp_mcE1 {p : Program} {l : Launch} {e : Env} {s : State} {m : MethodId} {args : Array Value} {below : List Frame} {meth : Method} {c : Code} {Z : zT} {A : Nat → Prop} {Q : State → Prop} {h : Nat} {ad : Nat → Nat} {iv0 : ivT} {av0 : avT} {c0 : Nat} {th : List Int32} {bs : List Int8} (C : cx p s m args meth c cX11_makeColumn 9 none RX11 "makeColumn") (hT : ∀ i, i < th.length → av0 25 i = th.getD i 0) (hth : th.length ≤ 48) (hbs : bs.length ≤ 1150) (hrl : (rnB th).length ≤ 240) (kk : ∀ (iv : ivT) (av : avT), mk_at iv av (bs ++ rnB th) → sI [15] iv0 iv → sA [14] av0 av → ∀ (H : Heap) (locs : List Loc) (ls : Array Slot), wd Z A s (mdW Z h ad iv av) H locs → lv_has ls 9 [(0, .ref h), (1, .int (nI c0)), (2, .int (nI th.length))] → W p l e ({ frames := 2, cells := 0, slots := 0, locals := 60 }) s m args below meth c H locs 0 0 Q (F0 m 446 ls [])) : ∀ (n : Nat) (k : Nat) (E : List Int8) (iv : ivT) (av : avT), k + n = th.length → E ++ emR (prv th k) (th.drop k) = rnB th → mk_at iv av (bs ++ E) → sI [15] iv0 iv → sA [14] av0 av → ∀ (H : Heap) (locs : List Loc) (ls : Array Slot), wd Z A s (mdW Z h ad iv av) H locs → lv_has ls 9 [(6, .int (nI k)), (0, .ref h), (1, .int (nI c0)), (2, .int (nI th.length)), (5, .int 1)] → W p l e ({ frames := 2, cells := 0, slots := 0, locals := 60 }) s m args below meth c H locs 0 0 Q (F0 m 285 ls []) := by
  have hx := C.1
  have hb := C.2.1
  have hown := C.2.2.2.2.2.1
  have hts := C.2.2.2.2.2.2.1
  intro n
  induction n with
  | zero =>
    intro k E iv av hk hE hmk hsI hsA H locs ls G hl
    refine lv_iload hx hb dX11_makeColumn_285 (lv_at hl 0 rfl) ?_
    refine lv_iload_n hx hb dX11_makeColumn_287 rfl (lv_at hl 3 rfl) ?_
    refine lv_icmp_ge (tgt := 446) hx hb dX11_makeColumn_288 (by decide) (fun c_288 => ?_) (fun c_288 => ?_)
    · have n_288 := nb_le (a := th.length) (b := k) c_288 (by omega) (by omega)
      have hkt : k = th.length := by omega
      subst hkt
      rw [List.drop_length, emR, List.append_nil] at hE
      rw [hE] at hmk
      exact kk iv av hmk hsI hsA _ _ _ G (lv_sub hl [1, 2, 3] rfl)
    · exact absurd (nb_nle (a := th.length) (b := k) c_288 (by omega) (by omega)) (by omega)
  | succ n ih =>
    intro k E iv av hk hE hmk hsI hsA H locs ls G hl
    have hTv : ∀ i, i < th.length → av 25 i = th.getD i 0 := by rw [hsA 25 (by decide)]; exact hT
    have hEl : E.length ≤ 240 := by have h9 := congrArg List.length hE; rw [List.length_append] at h9; omega
    refine lv_iload hx hb dX11_makeColumn_285 (lv_at hl 0 rfl) ?_
    refine lv_iload_n hx hb dX11_makeColumn_287 rfl (lv_at hl 3 rfl) ?_
    refine lv_icmp_ge (tgt := 446) hx hb dX11_makeColumn_288 (by decide) (fun c_288 => ?_) (fun c_288 => ?_)
    · exact absurd (nb_le (a := th.length) (b := k) c_288 (by omega) (by omega)) (by omega)
    · have n_288 := nb_nle (a := th.length) (b := k) c_288 (by omega) (by omega)
      refine lv_iload hx hb dX11_makeColumn_291 (lv_at hl 4 rfl) ?_
      refine lv_if_ne (tgt := 312) hx hb dX11_makeColumn_293 (by decide) (fun c_293 => ?_) (fun c_293 => ?_)
      · have n_293 := nb_ne (a := 1) (b := 0) c_293 (by omega) (by omega)
        refine lv_iload hx hb dX11_makeColumn_312 (lv_at hl 4 rfl) ?_
        refine lv_iconst (v := 2) hx hb dX11_makeColumn_314 (by decide) ?_
        refine lv_icmp_ne (tgt := 357) hx hb dX11_makeColumn_315 (by decide) (fun c_315 => ?_) (fun c_315 => ?_)
        · have n_315 := nb_ne (a := 1) (b := 2) c_315 (by omega) (by omega)
          refine lv_iload hx hb dX11_makeColumn_357 (lv_at hl 0 rfl) ?_
          refine lv_if_eq (tgt := 381) hx hb dX11_makeColumn_359 (by decide) (fun c_359 => ?_) (fun c_359 => ?_)
          · have n_359 := nb_eq (a := k) (b := 0) c_359 (by omega) (by omega)
            refine lv_iconst (v := 1) hx hb dX11_makeColumn_381 (by decide) ?_
            refine k_topi (y := nI 1) (by rfl) ?_
            refine lv_istore (lv' := [(7, .int (nI 1)), (6, .int (nI k)), (0, .ref h), (1, .int (nI c0)), (2, .int (nI th.length)), (5, .int 1)]) hx hb dX11_makeColumn_382 hl (by decide) rfl (fun ls hl => ?_)
            refine lp_mcR C hTv hth (show k < th.length by omega) (fun j hj hj48 H locs ls G hl => ?_) (th.length - k - 1) 1 (by omega) (by omega) (by omega) (fun i h1 h2 => absurd h1 (by omega)) _ _ _ G (lv_sub hl [0, 1, 2, 3, 4, 5] rfl)
            refine lv_aload_n hx hb dX11_makeColumn_419 rfl (lv_at hl 2 rfl) ?_
            refine lv_iload hx hb dX11_makeColumn_420 (lv_at hl 0 rfl) ?_
            refine lv_i2l (v := (nI j).toInt64) hx hb dX11_makeColumn_422 rfl ?_
            refine lv_iconst (v := 1) hx hb dX11_makeColumn_423 (by decide) ?_
            refine kcM_v G (krV 2 rfl (As := [.long ((nI j).toInt64), .int 1]) (rest := []) (ci := 12) (CC := RX11) (T := TX11) (N := 61) C G pmN (c_mu1 Z l h ad iv av _ (nI j) hmk (by rw [List.length_append]; omega) _) (gdV ml_X11_161 im_X11_u se_X11_u ii_X11 co_X11_u) (by decide +kernel) ⟨Nat.le_of_ble_eq_true rfl, Nat.le_of_ble_eq_true rfl⟩ rfl 0 rfl hl rfl (Nat.le_of_ble_eq_true rfl) ⟨Nat.le_of_ble_eq_true rfl, Nat.le_of_ble_eq_true rfl⟩ dX11_makeColumn_424) (fun u H locs hu G => ?_)
            obtain ⟨iv1_, av1_, rfl, hm1, hs1, ha1⟩ := hu
            refine lv_aload_n hx hb dX11_makeColumn_427 rfl (lv_at hl 2 rfl) ?_
            refine lv_aload_n hx hb dX11_makeColumn_428 rfl (lv_at hl 2 rfl) ?_
            refine k_mga C G 25 (by decide) mr_25 fl_X11_47 rfl dX11_makeColumn_429 ?_
            refine lv_iload hx hb dX11_makeColumn_432 (lv_at hl 1 rfl) ?_
            refine k_mil (v := th.getD k 0) (i := k) C G 9 (k := 25) (n := 48) mp_25 (by decide) (by omega) ((congrFun (ha1 25 (by decide)) k).trans (hTv k (by omega))) dX11_makeColumn_434 ?_
            refine lv_i2l (v := (th.getD k 0).toInt64) hx hb dX11_makeColumn_435 rfl ?_
            refine lv_iconst (v := 4) hx hb dX11_makeColumn_436 (by decide) ?_
            refine kcM_v G (krV 2 rfl (As := [.long ((th.getD k 0).toInt64), .int 4]) (rest := []) (ci := 12) (CC := RX11) (T := TX11) (N := 61) C G pmN (c_mu4 Z l h ad iv1_ av1_ _ (th.getD k 0) hm1 (by rw [List.length_append, List.length_append, List.length_singleton]; omega) _) (gdV ml_X11_161 im_X11_u se_X11_u ii_X11 co_X11_u) (by decide +kernel) ⟨Nat.le_of_ble_eq_true rfl, Nat.le_of_ble_eq_true rfl⟩ rfl 0 rfl hl rfl (Nat.le_of_ble_eq_true rfl) ⟨Nat.le_of_ble_eq_true rfl, Nat.le_of_ble_eq_true rfl⟩ dX11_makeColumn_437) (fun u H locs hu G => ?_)
            obtain ⟨iv2_, av2_, rfl, hm2, hs2, ha2⟩ := hu
            refine lv_iinc (v := nI (k + 1)) (lv' := [(6, .int (nI (k + 1))), (7, .int (nI j)), (0, .ref h), (1, .int (nI c0)), (2, .int (nI th.length)), (5, .int 1)]) hx hb dX11_makeColumn_440 hl (k := 1) rfl (nI_1 _) (by decide) rfl (fun ls hl => ?_)
            refine lv_goto (tgt := 285) hx hb dX11_makeColumn_443 (by decide) ?_
            exact ih (k + 1) (E ++ ([(nI j).toInt8] ++ u4b (th.getD k 0))) _ _ (by omega) (by rw [emR_k (by omega), if_pos (Or.inl n_359), ← hj] at hE; rw [List.append_assoc]; exact hE) (by rw [← List.append_assoc, ← List.append_assoc]; exact hm2) ((hsI.tr hs1 (by decide)).tr hs2 (by decide)) ((hsA.tr ha1 (by decide)).tr ha2 (by decide)) _ _ _ G (lv_sub hl [0, 2, 3, 4, 5] rfl)
          · have n_359 := nb_ne (a := k) (b := 0) c_359 (by omega) (by omega)
            refine lv_aload_n hx hb dX11_makeColumn_362 rfl (lv_at hl 1 rfl) ?_
            refine k_mga C G 25 (by decide) mr_25 fl_X11_47 rfl dX11_makeColumn_363 ?_
            refine lv_iload hx hb dX11_makeColumn_366 (lv_at hl 0 rfl) ?_
            refine k_mil (v := th.getD k 0) (i := k) C G 9 (k := 25) (n := 48) mp_25 (by decide) (by omega) (hTv k (by omega)) dX11_makeColumn_368 ?_
            refine lv_aload_n hx hb dX11_makeColumn_369 rfl (lv_at hl 1 rfl) ?_
            refine k_mga C G 25 (by decide) mr_25 fl_X11_47 rfl dX11_makeColumn_370 ?_
            refine lv_iload hx hb dX11_makeColumn_373 (lv_at hl 0 rfl) ?_
            refine lv_iconst (v := 1) hx hb dX11_makeColumn_375 (by decide) ?_
            refine lv_isub hx hb dX11_makeColumn_376 ?_
            refine k_topi (y := nI (k - 1)) (pk_sub (a := k) (b := 1) (by omega)) ?_
            refine k_mil (v := th.getD (k - 1) 0) (i := k - 1) C G 9 (k := 25) (n := 48) mp_25 (by decide) (by omega) (hTv (k - 1) (by omega)) dX11_makeColumn_377 ?_
            refine lv_icmp_eq (tgt := 440) hx hb dX11_makeColumn_378 (by decide) (fun c_378 => ?_) (fun c_378 => ?_)
            · refine lv_iinc (v := nI (k + 1)) (lv' := [(6, .int (nI (k + 1))), (0, .ref h), (1, .int (nI c0)), (2, .int (nI th.length)), (5, .int 1)]) hx hb dX11_makeColumn_440 hl (k := 0) rfl (nI_1 _) (by decide) rfl (fun ls hl => ?_)
              refine lv_goto (tgt := 285) hx hb dX11_makeColumn_443 (by decide) ?_
              exact ih (k + 1) E _ _ (by omega) (by rw [emR_k (by omega), if_neg (by rintro (z | z); exact n_359 z; exact z c_378), List.nil_append] at hE; exact hE) hmk hsI hsA _ _ _ G (lv_sub hl [0, 1, 2, 3, 4] rfl)
            · refine lv_iconst (v := 1) hx hb dX11_makeColumn_381 (by decide) ?_
              refine k_topi (y := nI 1) (by rfl) ?_
              refine lv_istore (lv' := [(7, .int (nI 1)), (6, .int (nI k)), (0, .ref h), (1, .int (nI c0)), (2, .int (nI th.length)), (5, .int 1)]) hx hb dX11_makeColumn_382 hl (by decide) rfl (fun ls hl => ?_)
              refine lp_mcR C hTv hth (show k < th.length by omega) (fun j hj hj48 H locs ls G hl => ?_) (th.length - k - 1) 1 (by omega) (by omega) (by omega) (fun i h1 h2 => absurd h1 (by omega)) _ _ _ G (lv_sub hl [0, 1, 2, 3, 4, 5] rfl)
              refine lv_aload_n hx hb dX11_makeColumn_419 rfl (lv_at hl 2 rfl) ?_
              refine lv_iload hx hb dX11_makeColumn_420 (lv_at hl 0 rfl) ?_
              refine lv_i2l (v := (nI j).toInt64) hx hb dX11_makeColumn_422 rfl ?_
              refine lv_iconst (v := 1) hx hb dX11_makeColumn_423 (by decide) ?_
              refine kcM_v G (krV 2 rfl (As := [.long ((nI j).toInt64), .int 1]) (rest := []) (ci := 12) (CC := RX11) (T := TX11) (N := 61) C G pmN (c_mu1 Z l h ad iv av _ (nI j) hmk (by rw [List.length_append]; omega) _) (gdV ml_X11_161 im_X11_u se_X11_u ii_X11 co_X11_u) (by decide +kernel) ⟨Nat.le_of_ble_eq_true rfl, Nat.le_of_ble_eq_true rfl⟩ rfl 0 rfl hl rfl (Nat.le_of_ble_eq_true rfl) ⟨Nat.le_of_ble_eq_true rfl, Nat.le_of_ble_eq_true rfl⟩ dX11_makeColumn_424) (fun u H locs hu G => ?_)
              obtain ⟨iv3_, av3_, rfl, hm3, hs3, ha3⟩ := hu
              refine lv_aload_n hx hb dX11_makeColumn_427 rfl (lv_at hl 2 rfl) ?_
              refine lv_aload_n hx hb dX11_makeColumn_428 rfl (lv_at hl 2 rfl) ?_
              refine k_mga C G 25 (by decide) mr_25 fl_X11_47 rfl dX11_makeColumn_429 ?_
              refine lv_iload hx hb dX11_makeColumn_432 (lv_at hl 1 rfl) ?_
              refine k_mil (v := th.getD k 0) (i := k) C G 9 (k := 25) (n := 48) mp_25 (by decide) (by omega) ((congrFun (ha3 25 (by decide)) k).trans (hTv k (by omega))) dX11_makeColumn_434 ?_
              refine lv_i2l (v := (th.getD k 0).toInt64) hx hb dX11_makeColumn_435 rfl ?_
              refine lv_iconst (v := 4) hx hb dX11_makeColumn_436 (by decide) ?_
              refine kcM_v G (krV 2 rfl (As := [.long ((th.getD k 0).toInt64), .int 4]) (rest := []) (ci := 12) (CC := RX11) (T := TX11) (N := 61) C G pmN (c_mu4 Z l h ad iv3_ av3_ _ (th.getD k 0) hm3 (by rw [List.length_append, List.length_append, List.length_singleton]; omega) _) (gdV ml_X11_161 im_X11_u se_X11_u ii_X11 co_X11_u) (by decide +kernel) ⟨Nat.le_of_ble_eq_true rfl, Nat.le_of_ble_eq_true rfl⟩ rfl 0 rfl hl rfl (Nat.le_of_ble_eq_true rfl) ⟨Nat.le_of_ble_eq_true rfl, Nat.le_of_ble_eq_true rfl⟩ dX11_makeColumn_437) (fun u H locs hu G => ?_)
              obtain ⟨iv4_, av4_, rfl, hm4, hs4, ha4⟩ := hu
              refine lv_iinc (v := nI (k + 1)) (lv' := [(6, .int (nI (k + 1))), (7, .int (nI j)), (0, .ref h), (1, .int (nI c0)), (2, .int (nI th.length)), (5, .int 1)]) hx hb dX11_makeColumn_440 hl (k := 1) rfl (nI_1 _) (by decide) rfl (fun ls hl => ?_)
              refine lv_goto (tgt := 285) hx hb dX11_makeColumn_443 (by decide) ?_
              exact ih (k + 1) (E ++ ([(nI j).toInt8] ++ u4b (th.getD k 0))) _ _ (by omega) (by rw [emR_k (by omega), if_pos (Or.inr c_378), ← hj] at hE; rw [List.append_assoc]; exact hE) (by rw [← List.append_assoc, ← List.append_assoc]; exact hm4) ((hsI.tr hs3 (by decide)).tr hs4 (by decide)) ((hsA.tr ha3 (by decide)).tr ha4 (by decide)) _ _ _ G (lv_sub hl [0, 2, 3, 4, 5] rfl)
        · exact absurd c_315 (by decide)
      · exact absurd c_293 (by decide)
