/-! MODEL (X11): startsDelete. -/
set_option maxRecDepth 100000 in
set_option maxHeartbeats 4000000 in
theorem lp_msd1 {p : Program} {l : Launch} {e : Env} {s : State} {m : MethodId} {args : Array Value} {below : List Frame} {meth : Method} {c : Code} {Z : zT} {A : Nat → Prop} {Q : State → Prop} {h : Nat} {ad : Nat → Nat} {iv : ivT} {av : avT} {c0 N k wn : Nat} {wh nu : Int32} (C : cx p s m args meth c cX11_startsDelete 7 none RX11 "startsDelete") (hwn : wn < 4) (h20 : iv 20 = nI N) (hN : N ≤ 48) (hc : c0 < 3) (h42 : av 42 wn = nI c0) (h43 : av 43 wn = wh) (h44 : av 44 wn = nu) (kk : ∀ (hh : Nat), hh = hitF wh nu (col (mV av) c0 N) → ∀ (H : Heap) (locs : List Loc) (ls : Array Slot), wd Z A s (mdW Z h ad iv av) H locs → lv_has ls 7 [(4, .int (nI hh)), (0, .ref h), (1, .int (nI wn)), (2, .int (nI k))] → W p l e ({ frames := 6, cells := 0, slots := 0, locals := 200 }) s m args below meth c H locs 0 0 Q (F0 m 127 ls [])) : ∀ (n r hh : Nat), r + n = N → hh = hitF wh nu (col (mV av) c0 r) → ∀ (H : Heap) (locs : List Loc) (ls : Array Slot), wd Z A s (mdW Z h ad iv av) H locs → lv_has ls 7 [(5, .int (nI r)), (4, .int (nI hh)), (0, .ref h), (1, .int (nI wn)), (2, .int (nI k))] → W p l e ({ frames := 6, cells := 0, slots := 0, locals := 200 }) s m args below meth c H locs 0 0 Q (F0 m 68 ls []) := by
  have hx := C.1
  have hb := C.2.1
  have hown := C.2.2.2.2.2.1
  have hts := C.2.2.2.2.2.2.1
  intro n
  induction n with
  | zero =>
    intro r hh hr hh1 H locs ls G hl
    refine lv_iload hx hb dX11_startsDelete_68 (lv_at hl 0 rfl) ?_
    refine lv_aload_n hx hb dX11_startsDelete_70 rfl (lv_at hl 2 rfl) ?_
    refine k_mgi (v := nI N) C G 20 (by decide) mr_20 h20 fl_X11_196 rfl dX11_startsDelete_71 ?_
    refine lv_icmp_ge (tgt := 127) hx hb dX11_startsDelete_74 (by decide) (fun c_74 => ?_) (fun c_74 => ?_)
    · have n_74 := nb_le (a := N) (b := r) c_74 (by omega) (by omega)
      have hrN : r = N := by omega
      subst hrN
      exact kk hh hh1 _ _ _ G (lv_sub hl [1, 2, 3, 4] rfl)
    · exact absurd (nb_nle (a := N) (b := r) c_74 (by omega) (by omega)) (by omega)
  | succ n ih =>
    intro r hh hr hh1 H locs ls G hl
    refine lv_iload hx hb dX11_startsDelete_68 (lv_at hl 0 rfl) ?_
    refine lv_aload_n hx hb dX11_startsDelete_70 rfl (lv_at hl 2 rfl) ?_
    refine k_mgi (v := nI N) C G 20 (by decide) mr_20 h20 fl_X11_196 rfl dX11_startsDelete_71 ?_
    refine lv_icmp_ge (tgt := 127) hx hb dX11_startsDelete_74 (by decide) (fun c_74 => ?_) (fun c_74 => ?_)
    · exact absurd (nb_le (a := N) (b := r) c_74 (by omega) (by omega)) (by omega)
    · have n_74 := nb_nle (a := N) (b := r) c_74 (by omega) (by omega)
      refine lv_iload hx hb dX11_startsDelete_77 (lv_at hl 1 rfl) ?_
      refine lv_aload_n hx hb dX11_startsDelete_79 rfl (lv_at hl 2 rfl) ?_
      refine k_mga C G 21 (by decide) mr_21 fl_X11_34 rfl dX11_startsDelete_80 ?_
      refine lv_iconst (v := 3) hx hb dX11_startsDelete_83 (by decide) ?_
      refine lv_iload hx hb dX11_startsDelete_84 (lv_at hl 0 rfl) ?_
      refine lv_imul hx hb dX11_startsDelete_86 ?_
      refine k_topi (y := nI (3 * r)) (pk_mul 3 r) ?_
      refine lv_aload_n hx hb dX11_startsDelete_87 rfl (lv_at hl 2 rfl) ?_
      refine k_mga C G 42 (by decide) mr_42 fl_X11_92 rfl dX11_startsDelete_88 ?_
      refine lv_iload_n hx hb dX11_startsDelete_91 rfl (lv_at hl 3 rfl) ?_
      refine k_mil (v := nI c0) (i := wn) C G 24 (k := 42) (n := 4) mp_42 (by decide) (by omega) h42 dX11_startsDelete_92 ?_
      refine lv_iadd hx hb dX11_startsDelete_93 ?_
      refine k_topi (y := nI (3 * r + c0)) (nI_add (3 * r) c0) ?_
      refine k_mil (v := mV av (48 * c0 + r)) (i := 3 * r + c0) C G 5 (k := 21) (n := 144) mp_21 (by decide) (by omega) ((mV_at av (by omega)).symm) dX11_startsDelete_94 ?_
      refine lv_aload_n hx hb dX11_startsDelete_95 rfl (lv_at hl 2 rfl) ?_
      refine k_mga C G 43 (by decide) mr_43 fl_X11_95 rfl dX11_startsDelete_96 ?_
      refine lv_iload_n hx hb dX11_startsDelete_99 rfl (lv_at hl 3 rfl) ?_
      refine k_mil (v := wh) (i := wn) C G 25 (k := 43) (n := 4) mp_43 (by decide) (by omega) h43 dX11_startsDelete_100 ?_
      refine lv_aload_n hx hb dX11_startsDelete_101 rfl (lv_at hl 2 rfl) ?_
      refine k_mga C G 44 (by decide) mr_44 fl_X11_98 rfl dX11_startsDelete_102 ?_
      refine lv_iload_n hx hb dX11_startsDelete_105 rfl (lv_at hl 3 rfl) ?_
      refine k_mil (v := nu) (i := wn) C G 26 (k := 44) (n := 4) mp_44 (by decide) (by omega) h44 dX11_startsDelete_106 ?_
      refine kcM_i G (krS 3 rfl (As := [.int (mV av (48 * c0 + r)), .int wh, .int nu]) (rest := [.int (nI hh)]) C G pmN (c_X11_isSo Z l h ad iv av (mV av (48 * c0 + r)) wh nu _) (gdS ml_X11_304 sm_X11_isSo ii_X11 co_X11_isSo) (by decide +kernel) ⟨Nat.le_of_ble_eq_true rfl, Nat.le_of_ble_eq_true rfl⟩ hl rfl (Nat.le_of_ble_eq_true rfl) ⟨Nat.le_of_ble_eq_true rfl, Nat.le_of_ble_eq_true rfl⟩ dX11_startsDelete_107) (fun r_107 u H locs hu G => ?_)
      obtain ⟨r_107_e, rfl⟩ := hu
      rw [soF_cdv] at r_107_e
      refine lv_if_eq (tgt := 117) hx hb dX11_startsDelete_110 (by decide) (fun c_110 => ?_) (fun c_110 => ?_)
      · refine lv_iconst (v := 0) hx hb dX11_startsDelete_117 (by decide) ?_
        refine lv_iadd hx hb dX11_startsDelete_118 ?_
        refine k_topi (y := nI (hh)) (Int32.add_zero _) ?_
        refine lv_istore (lv' := [(4, .int (nI hh)), (5, .int (nI r)), (0, .ref h), (1, .int (nI wn)), (2, .int (nI k))]) hx hb dX11_startsDelete_119 hl (by decide) rfl (fun ls hl => ?_)
        refine lv_iinc (v := nI (r + 1)) (lv' := [(5, .int (nI (r + 1))), (4, .int (nI hh)), (0, .ref h), (1, .int (nI wn)), (2, .int (nI k))]) hx hb dX11_startsDelete_121 hl (k := 1) rfl (nI_1 _) (by decide) rfl (fun ls hl => ?_)
        refine lv_goto (tgt := 68) hx hb dX11_startsDelete_124 (by decide) ?_
        have hz : cdv wh nu (mV av (48 * c0 + r)) = 0 := by rw [← r_107_e]; exact c_110
        exact ih (r + 1) _ (by omega) (by rw [col_s, hitF_s, hitS, if_pos hz]; exact hh1) _ _ _ G (lv_sub hl [0, 1, 2, 3, 4] rfl)
      · refine lv_iconst (v := 1) hx hb dX11_startsDelete_113 (by decide) ?_
        refine lv_goto (tgt := 118) hx hb dX11_startsDelete_114 (by decide) ?_
        refine lv_iadd hx hb dX11_startsDelete_118 ?_
        refine k_topi (y := nI (hh + 1)) (nI_add hh 1) ?_
        refine lv_istore (lv' := [(4, .int (nI (hh + 1))), (5, .int (nI r)), (0, .ref h), (1, .int (nI wn)), (2, .int (nI k))]) hx hb dX11_startsDelete_119 hl (by decide) rfl (fun ls hl => ?_)
        refine lv_iinc (v := nI (r + 1)) (lv' := [(5, .int (nI (r + 1))), (4, .int (nI (hh + 1))), (0, .ref h), (1, .int (nI wn)), (2, .int (nI k))]) hx hb dX11_startsDelete_121 hl (k := 1) rfl (nI_1 _) (by decide) rfl (fun ls hl => ?_)
        refine lv_goto (tgt := 68) hx hb dX11_startsDelete_124 (by decide) ?_
        have hz : ¬ cdv wh nu (mV av (48 * c0 + r)) = 0 := by rw [← r_107_e]; exact c_110
        exact ih (r + 1) _ (by omega) (by rw [col_s, hitF_s, hitS, if_neg hz, ← hh1]) _ _ _ G (lv_sub hl [0, 1, 2, 3, 4] rfl)
set_option maxRecDepth 100000 in
set_option maxHeartbeats 4000000 in
theorem lp_msd2 {p : Program} {l : Launch} {e : Env} {s : State} {m : MethodId} {args : Array Value} {below : List Frame} {meth : Method} {c : Code} {Z : zT} {A : Nat → Prop} {Q : State → Prop} {h : Nat} {ad : Nat → Nat} {iv : ivT} {av0 : avT} {c0 N k wn p0 rn : Nat} {R0 : List r4T} {wh nu : Int32} (C : cx p s m args meth c cX11_startsDelete 7 none RX11 "startsDelete") (hwn : wn < 4) (h20 : iv 20 = nI N) (hN : N ≤ 48) (hc : c0 < 3) (h42 : av0 42 wn = nI c0) (h43 : av0 43 wn = wh) (h44 : av0 44 wn = nu) (h19 : iv 19 = nI p0) (hrn : rn = R0.length) (hrn4 : rn + 48 ≤ 4800) (kk : ∀ (q : Nat) (av : avT), q = rn + (kpL c0 wh nu (rLn (nI p0) (mV av0) N)).length → sA [45, 46, 47] av0 av → oth [] wn av0 av → so_at (shM av wn) (R0 ++ kpL c0 wh nu (rLn (nI p0) (mV av0) N)) → av 47 wn = nI q →  ∀ (H : Heap) (locs : List Loc) (ls : Array Slot), wd Z A s (mdW Z h ad iv av) H locs → lv_has ls 7 [(0, .ref h), (1, .int (nI wn)), (2, .int (nI k)), (5, .int (nI rn))] → W p l e ({ frames := 6, cells := 0, slots := 0, locals := 200 }) s m args below meth c H locs 0 0 Q (F0 m 268 ls [])) : ∀ (n r q : Nat) (av : avT), r + n = N → q = rn + (kpL c0 wh nu (rLn (nI p0) (mV av0) r)).length → sA [45, 46, 47] av0 av → oth [] wn av0 av → so_at (shM av wn) (R0 ++ kpL c0 wh nu (rLn (nI p0) (mV av0) r)) → av 47 wn = nI q →  ∀ (H : Heap) (locs : List Loc) (ls : Array Slot), wd Z A s (mdW Z h ad iv av) H locs → lv_has ls 7 [(6, .int (nI r)), (0, .ref h), (1, .int (nI wn)), (2, .int (nI k)), (5, .int (nI rn))] → W p l e ({ frames := 6, cells := 0, slots := 0, locals := 200 }) s m args below meth c H locs 0 0 Q (F0 m 179 ls []) := by
  have hx := C.1
  have hb := C.2.1
  have hown := C.2.2.2.2.2.1
  have hts := C.2.2.2.2.2.2.1
  intro n
  induction n with
  | zero =>
    intro r q av hr hq hsA hot hso h47 H locs ls G hl
    refine lv_iload hx hb dX11_startsDelete_179 (lv_at hl 0 rfl) ?_
    refine lv_aload_n hx hb dX11_startsDelete_181 rfl (lv_at hl 1 rfl) ?_
    refine k_mgi (v := nI N) C G 20 (by decide) mr_20 h20 fl_X11_196 rfl dX11_startsDelete_182 ?_
    refine lv_icmp_ge (tgt := 268) hx hb dX11_startsDelete_185 (by decide) (fun c_185 => ?_) (fun c_185 => ?_)
    · have n_185 := nb_le (a := N) (b := r) c_185 (by omega) (by omega)
      have hrN : r = N := by omega
      subst hrN
      exact kk q av hq hsA hot hso h47 _ _ _ G (lv_sub hl [1, 2, 3, 4] rfl)
    · exact absurd (nb_nle (a := N) (b := r) c_185 (by omega) (by omega)) (by omega)
  | succ n ih =>
    intro r q av hr hq hsA hot hso h47 H locs ls G hl
    have h42v : av 42 wn = nI c0 := by rw [hsA 42 (by decide)]; exact h42
    have h43v : av 43 wn = wh := by rw [hsA 43 (by decide)]; exact h43
    have h44v : av 44 wn = nu := by rw [hsA 44 (by decide)]; exact h44
    have hq4 : q ≤ rn + r := by
      have h9 := kpL_le c0 wh nu (rLn (nI p0) (mV av0) r)
      rw [rLn_len] at h9
      omega
    refine lv_iload hx hb dX11_startsDelete_179 (lv_at hl 0 rfl) ?_
    refine lv_aload_n hx hb dX11_startsDelete_181 rfl (lv_at hl 1 rfl) ?_
    refine k_mgi (v := nI N) C G 20 (by decide) mr_20 h20 fl_X11_196 rfl dX11_startsDelete_182 ?_
    refine lv_icmp_ge (tgt := 268) hx hb dX11_startsDelete_185 (by decide) (fun c_185 => ?_) (fun c_185 => ?_)
    · exact absurd (nb_le (a := N) (b := r) c_185 (by omega) (by omega)) (by omega)
    · have n_185 := nb_nle (a := N) (b := r) c_185 (by omega) (by omega)
      refine lv_aload_n hx hb dX11_startsDelete_188 rfl (lv_at hl 1 rfl) ?_
      refine k_mga C G 21 (by decide) mr_21 fl_X11_34 rfl dX11_startsDelete_189 ?_
      refine lv_iconst (v := 3) hx hb dX11_startsDelete_192 (by decide) ?_
      refine lv_iload hx hb dX11_startsDelete_193 (lv_at hl 0 rfl) ?_
      refine lv_imul hx hb dX11_startsDelete_195 ?_
      refine k_topi (y := nI (3 * r)) (pk_mul 3 r) ?_
      refine lv_aload_n hx hb dX11_startsDelete_196 rfl (lv_at hl 1 rfl) ?_
      refine k_mga C G 42 (by decide) mr_42 fl_X11_92 rfl dX11_startsDelete_197 ?_
      refine lv_iload_n hx hb dX11_startsDelete_200 rfl (lv_at hl 2 rfl) ?_
      refine k_mil (v := nI c0) (i := wn) C G 24 (k := 42) (n := 4) mp_42 (by decide) (by omega) h42v dX11_startsDelete_201 ?_
      refine lv_iadd hx hb dX11_startsDelete_202 ?_
      refine k_topi (y := nI (3 * r + c0)) (nI_add (3 * r) c0) ?_
      refine k_mil (v := mV av0 (48 * c0 + r)) (i := 3 * r + c0) C G 5 (k := 21) (n := 144) mp_21 (by decide) (by omega) (by rw [mV_at av0 (by omega)]; exact congrFun (hsA 21 (by decide)) _) dX11_startsDelete_203 ?_
      refine lv_aload_n hx hb dX11_startsDelete_204 rfl (lv_at hl 1 rfl) ?_
      refine k_mga C G 43 (by decide) mr_43 fl_X11_95 rfl dX11_startsDelete_205 ?_
      refine lv_iload_n hx hb dX11_startsDelete_208 rfl (lv_at hl 2 rfl) ?_
      refine k_mil (v := wh) (i := wn) C G 25 (k := 43) (n := 4) mp_43 (by decide) (by omega) h43v dX11_startsDelete_209 ?_
      refine lv_aload_n hx hb dX11_startsDelete_210 rfl (lv_at hl 1 rfl) ?_
      refine k_mga C G 44 (by decide) mr_44 fl_X11_98 rfl dX11_startsDelete_211 ?_
      refine lv_iload_n hx hb dX11_startsDelete_214 rfl (lv_at hl 2 rfl) ?_
      refine k_mil (v := nu) (i := wn) C G 26 (k := 44) (n := 4) mp_44 (by decide) (by omega) h44v dX11_startsDelete_215 ?_
      refine kcM_i G (krS 3 rfl (As := [.int (mV av0 (48 * c0 + r)), .int wh, .int nu]) (rest := []) C G pmN (c_X11_isSo Z l h ad iv av (mV av0 (48 * c0 + r)) wh nu _) (gdS ml_X11_304 sm_X11_isSo ii_X11 co_X11_isSo) (by decide +kernel) ⟨Nat.le_of_ble_eq_true rfl, Nat.le_of_ble_eq_true rfl⟩ hl rfl (Nat.le_of_ble_eq_true rfl) ⟨Nat.le_of_ble_eq_true rfl, Nat.le_of_ble_eq_true rfl⟩ dX11_startsDelete_216) (fun r_216 u H locs hu G => ?_)
      obtain ⟨r_216_e, rfl⟩ := hu
      rw [soF_cdv] at r_216_e
      refine lv_if_ne (tgt := 262) hx hb dX11_startsDelete_219 (by decide) (fun c_219 => ?_) (fun c_219 => ?_)
      · refine lv_iinc (v := nI (r + 1)) (lv' := [(6, .int (nI (r + 1))), (0, .ref h), (1, .int (nI wn)), (2, .int (nI k)), (5, .int (nI rn))]) hx hb dX11_startsDelete_262 hl (k := 0) rfl (nI_1 _) (by decide) rfl (fun ls hl => ?_)
        refine lv_goto (tgt := 179) hx hb dX11_startsDelete_265 (by decide) ?_
        have hz : ¬ cdv wh nu (r4C c0 (nI p0, mV av0 r, mV av0 (48 + r), mV av0 (96 + r))) = 0 := by rw [r4C_at _ _ hc, ← r_216_e]; exact c_219
        exact ih (r + 1) q av (by omega) (by rw [rLn_s, kpL_n hz]; exact hq) hsA hot (by rw [rLn_s, kpL_n hz]; exact hso) h47 _ _ _ G (lv_sub hl [0, 1, 2, 3, 4] rfl)
      · refine lv_aload_n hx hb dX11_startsDelete_222 rfl (lv_at hl 1 rfl) ?_
        refine lv_iload_n hx hb dX11_startsDelete_223 rfl (lv_at hl 2 rfl) ?_
        refine lv_aload_n hx hb dX11_startsDelete_224 rfl (lv_at hl 1 rfl) ?_
        refine k_mgi (v := nI p0) C G 19 (by decide) mr_19 h19 fl_X11_193 rfl dX11_startsDelete_225 ?_
        refine lv_aload_n hx hb dX11_startsDelete_228 rfl (lv_at hl 1 rfl) ?_
        refine k_mga C G 21 (by decide) mr_21 fl_X11_34 rfl dX11_startsDelete_229 ?_
        refine lv_iconst (v := 3) hx hb dX11_startsDelete_232 (by decide) ?_
        refine lv_iload hx hb dX11_startsDelete_233 (lv_at hl 0 rfl) ?_
        refine lv_imul hx hb dX11_startsDelete_235 ?_
        refine k_topi (y := nI (3 * r)) (pk_mul 3 r) ?_
        refine k_mil (v := mV av0 r) (i := 3 * r) C G 5 (k := 21) (n := 144) mp_21 (by decide) (by omega) (by rw [show r = 48 * 0 + r by omega, mV_at av0 (by omega)]; rw [show 48 * 0 + r = r by omega]; exact congrFun (hsA 21 (by decide)) _) dX11_startsDelete_236 ?_
        refine lv_aload_n hx hb dX11_startsDelete_237 rfl (lv_at hl 1 rfl) ?_
        refine k_mga C G 21 (by decide) mr_21 fl_X11_34 rfl dX11_startsDelete_238 ?_
        refine lv_iconst (v := 3) hx hb dX11_startsDelete_241 (by decide) ?_
        refine lv_iload hx hb dX11_startsDelete_242 (lv_at hl 0 rfl) ?_
        refine lv_imul hx hb dX11_startsDelete_244 ?_
        refine k_topi (y := nI (3 * r)) (pk_mul 3 r) ?_
        refine lv_iconst (v := 1) hx hb dX11_startsDelete_245 (by decide) ?_
        refine lv_iadd hx hb dX11_startsDelete_246 ?_
        refine k_topi (y := nI (3 * r + 1)) (nI_add (3 * r) 1) ?_
        refine k_mil (v := mV av0 (48 + r)) (i := 3 * r + 1) C G 5 (k := 21) (n := 144) mp_21 (by decide) (by omega) (by rw [show 48 + r = 48 * 1 + r by omega, mV_at av0 (by omega)]; exact congrFun (hsA 21 (by decide)) _) dX11_startsDelete_247 ?_
        refine lv_aload_n hx hb dX11_startsDelete_248 rfl (lv_at hl 1 rfl) ?_
        refine k_mga C G 21 (by decide) mr_21 fl_X11_34 rfl dX11_startsDelete_249 ?_
        refine lv_iconst (v := 3) hx hb dX11_startsDelete_252 (by decide) ?_
        refine lv_iload hx hb dX11_startsDelete_253 (lv_at hl 0 rfl) ?_
        refine lv_imul hx hb dX11_startsDelete_255 ?_
        refine k_topi (y := nI (3 * r)) (pk_mul 3 r) ?_
        refine lv_iconst (v := 2) hx hb dX11_startsDelete_256 (by decide) ?_
        refine lv_iadd hx hb dX11_startsDelete_257 ?_
        refine k_topi (y := nI (3 * r + 2)) (nI_add (3 * r) 2) ?_
        refine k_mil (v := mV av0 (96 + r)) (i := 3 * r + 2) C G 5 (k := 21) (n := 144) mp_21 (by decide) (by omega) (by rw [show 96 + r = 48 * 2 + r by omega, mV_at av0 (by omega)]; exact congrFun (hsA 21 (by decide)) _) dX11_startsDelete_258 ?_
        refine kcM_v G (krV 5 rfl (As := [.int (nI wn), .int (nI p0), .int (mV av0 r), .int (mV av0 (48 + r)), .int (mV av0 (96 + r))]) (rest := []) (ci := 12) (CC := RX11) (T := TX11) (N := 61) C G pmN (c_X11_comes Z l h ad iv av wn q (nI p0) (mV av0 r) (mV av0 (48 + r)) (mV av0 (96 + r)) hwn h47 (by omega) _) (gdV ml_X11_273 im_X11_comes se_X11_comes ii_X11 co_X11_comes) (by decide +kernel) ⟨Nat.le_of_ble_eq_true rfl, Nat.le_of_ble_eq_true rfl⟩ rfl 0 rfl hl rfl (Nat.le_of_ble_eq_true rfl) ⟨Nat.le_of_ble_eq_true rfl, Nat.le_of_ble_eq_true rfl⟩ dX11_startsDelete_259) (fun u H locs hu G => ?_)
        subst hu
        refine lv_iinc (v := nI (r + 1)) (lv' := [(6, .int (nI (r + 1))), (0, .ref h), (1, .int (nI wn)), (2, .int (nI k)), (5, .int (nI rn))]) hx hb dX11_startsDelete_262 hl (k := 0) rfl (nI_1 _) (by decide) rfl (fun ls hl => ?_)
        refine lv_goto (tgt := 179) hx hb dX11_startsDelete_265 (by decide) ?_
        have hz : cdv wh nu (r4C c0 (nI p0, mV av0 r, mV av0 (48 + r), mV av0 (96 + r))) = 0 := by rw [r4C_at _ _ hc, ← r_216_e]; exact c_219
        exact ih (r + 1) (q + 1) _ (by omega) (by rw [rLn_s, kpL_y hz, List.length_append, hq]; exact Nat.add_assoc _ _ _) (hsA.co _ _ _ _ (by decide) (by decide) (by decide)) (hot.co (by omega) _ _ _ _) (by rw [rLn_s, kpL_y hz, ← List.append_assoc, shM_co]; exact so_s _ _ _ _ hso (by rw [List.length_append, ← hrn]; exact hq)) pk_us _ _ _ G (lv_sub hl [0, 1, 2, 3, 4] rfl)
theorem shM_same {av av2 : avT} {wn : Nat} (h : av2 45 = av 45) : shM av2 wn = shM av wn := by unfold shM; rw [h]
set_option maxRecDepth 100000 in
set_option maxHeartbeats 4000000 in
theorem lp_msd3 {p : Program} {l : Launch} {e : Env} {s : State} {m : MethodId} {args : Array Value} {below : List Frame} {meth : Method} {c : Code} {Z : zT} {A : Nat → Prop} {h : Nat} {ad : Nat → Nat} {iv0 : ivT} {av0 : avT} {ob : List obT} {F : flT} {c0 wn : Nat} {pt wh nu : Int32} {RES : List rwT × List Int32} {post : va_W → Prop} (C : cx p s m args meth c cX11_startsDelete 7 none RX11 "startsDelete") (hwn : wn < 4) (ho : mo_ok iv0 av0 ob) (hF : flS iv0 av0 F) (hc : c0 < 3) (h41 : av0 41 wn = pt) (h42 : av0 42 wn = nI c0) (h43 : av0 43 wn = wh) (h44 : av0 44 wn = nu) (hrd : ∀ q ∈ F, q.2 = pt → ¬ mW ob q.1 q.2 = none) (hp : ∀ (iv : ivT) (av : avT) (rn : Nat) (R0 : List r4T) (os : List rwT) (rem : List Int32), sI [15, 16, 17, 18, 19, 20] iv0 iv → sA [14, 21, 22, 23, 24, 25, 45, 46, 47, 48, 49, 50, 51, 54, 55] av0 av → oth [14, 21, 22, 23, 24, 25] wn av0 av → (∀ i, fits .byte (.int (av 14 i)) = true) → so_at (shM av wn) R0 → rn = R0.length → av 47 wn = nI rn → plG (shM av wn) rn av wn os → rmM av wn rem →  rn ≤ 4800 → os.length ≤ 100 → rem.length ≤ 100 → RES = (os, rem) → post (mdW Z h ad iv av)) : ∀ (n k : Nat) (iv : ivT) (av : avT) (rn : Nat) (R0 : List r4T) (os : List rwT) (rem : List Int32), k + n = F.length → sI [15, 16, 17, 18, 19, 20] iv0 iv → sA [14, 21, 22, 23, 24, 25, 45, 46, 47, 48, 49, 50, 51, 54, 55] av0 av → oth [14, 21, 22, 23, 24, 25] wn av0 av → (∀ i, fits .byte (.int (av 14 i)) = true) → so_at (shM av wn) R0 → rn = R0.length → av 47 wn = nI rn → plG (shM av wn) rn av wn os → rmM av wn rem →  rn + 48 * ((F.drop k).countP (fun q => decide (q.2 = pt))) ≤ 4800 → os.length + ((F.drop k).countP (fun q => decide (q.2 = pt))) ≤ 100 → rem.length + ((F.drop k).countP (fun q => decide (q.2 = pt))) ≤ 100 →  (F.drop k).foldl (dlS (mW ob) pt c0 wh nu) (os, rem) = RES → ∀ (H : Heap) (locs : List Loc) (ls : Array Slot), wd Z A s (mdW Z h ad iv av) H locs → lv_has ls 7 [(2, .int (nI k)), (0, .ref h), (1, .int (nI wn))] → W p l e ({ frames := 6, cells := 0, slots := 0, locals := 200 }) s m args below meth c H locs 0 0 (MQ below (va_Qv post (mB Z A) A) args s 0 0 A) (F0 m 2 ls []) := by
  have hx := C.1
  have hb := C.2.1
  have hown := C.2.2.2.2.2.1
  have hts := C.2.2.2.2.2.2.1
  have hfl := hF.2.2.1
  intro n
  induction n with
  | zero =>
    intro k iv av rn R0 os rem hk hsI hsA hot hfv hso hrn h47 hpl hrm hb1 hb2 hb3 hres H locs ls G hl
    have h30v : iv 30 = nI F.length := (hsI 30 (by decide)).trans hF.1
    have hok : mo_ok iv av ob := ho.same hsI hsA (by decide) (by decide) (by decide) (by decide) (by decide) (by decide)
    have e31 : av 31 = av0 31 := hsA 31 (by decide)
    have e32 : av 32 = av0 32 := hsA 32 (by decide)
    refine lv_iload_n hx hb dX11_startsDelete_2 rfl (lv_at hl 0 rfl) ?_
    refine lv_aload_n hx hb dX11_startsDelete_3 rfl (lv_at hl 1 rfl) ?_
    refine k_mgi (v := nI F.length) C G 30 (by decide) mr_30 h30v fl_X11_245 rfl dX11_startsDelete_4 ?_
    refine lv_icmp_ge (tgt := 307) hx hb dX11_startsDelete_7 (by decide) (fun c_7 => ?_) (fun c_7 => ?_)
    · have n_7 := nb_le (a := F.length) (b := k) c_7 (by omega) (by omega)
      exact kr_v C G (hp iv av rn R0 os rem hsI hsA hot hfv hso hrn h47 hpl hrm (by omega) (by omega) (by omega) (by rw [← hres, List.drop_eq_nil_of_le (by omega)]; rfl)) (Nat.le_of_ble_eq_true rfl) (Nat.le_of_ble_eq_true rfl) dX11_startsDelete_307
    · exact absurd (nb_nle (a := F.length) (b := k) c_7 (by omega) (by omega)) (by omega)
  | succ n ih =>
    intro k iv av rn R0 os rem hk hsI hsA hot hfv hso hrn h47 hpl hrm hb1 hb2 hb3 hres H locs ls G hl
    have h30v : iv 30 = nI F.length := (hsI 30 (by decide)).trans hF.1
    have hok : mo_ok iv av ob := ho.same hsI hsA (by decide) (by decide) (by decide) (by decide) (by decide) (by decide)
    have e31 : av 31 = av0 31 := hsA 31 (by decide)
    have e32 : av 32 = av0 32 := hsA 32 (by decide)
    have hfk := flget hF (show k < F.length by omega)
    have hmem : (av0 31 k, av0 32 k) ∈ F := List.mem_of_mem_drop (hfk ▸ List.mem_cons_self)
    refine lv_iload_n hx hb dX11_startsDelete_2 rfl (lv_at hl 0 rfl) ?_
    refine lv_aload_n hx hb dX11_startsDelete_3 rfl (lv_at hl 1 rfl) ?_
    refine k_mgi (v := nI F.length) C G 30 (by decide) mr_30 h30v fl_X11_245 rfl dX11_startsDelete_4 ?_
    refine lv_icmp_ge (tgt := 307) hx hb dX11_startsDelete_7 (by decide) (fun c_7 => ?_) (fun c_7 => ?_)
    · exact absurd (nb_le (a := F.length) (b := k) c_7 (by omega) (by omega)) (by omega)
    · have n_7 := nb_nle (a := F.length) (b := k) c_7 (by omega) (by omega)
      refine lv_aload_n hx hb dX11_startsDelete_10 rfl (lv_at hl 1 rfl) ?_
      refine k_mga C G 32 (by decide) mr_32 fl_X11_62 rfl dX11_startsDelete_11 ?_
      refine lv_iload_n hx hb dX11_startsDelete_14 rfl (lv_at hl 0 rfl) ?_
      refine k_mil (v := (av 32) k) (i := k) C G 14 (k := 32) (n := 260) mp_32 (by decide) (by omega) rfl dX11_startsDelete_15 ?_
      refine lv_aload_n hx hb dX11_startsDelete_16 rfl (lv_at hl 1 rfl) ?_
      refine k_mga C G 41 (by decide) mr_41 fl_X11_89 rfl dX11_startsDelete_17 ?_
      refine lv_iload_n hx hb dX11_startsDelete_20 rfl (lv_at hl 2 rfl) ?_
      refine k_mil (v := pt) (i := wn) C G 23 (k := 41) (n := 4) mp_41 (by decide) (by omega) (by rw [hsA 41 (by decide)]; exact h41) dX11_startsDelete_21 ?_
      refine lv_icmp_eq (tgt := 28) hx hb dX11_startsDelete_22 (by decide) (fun c_22 => ?_) (fun c_22 => ?_)
      · refine lv_aload_n hx hb dX11_startsDelete_28 rfl (lv_at hl 1 rfl) ?_
        refine lv_iload_n hx hb dX11_startsDelete_29 rfl (lv_at hl 0 rfl) ?_
        refine kcM_i G (krV 1 rfl (As := [.int (nI k)]) (rest := []) (ci := 12) (CC := RX11) (T := TX11) (N := 61) C G pmN (c_X11_readFile Z l h ad iv av ob k (av0 31 k) (av0 32 k) hok (by omega) (congrFun e31 k) (congrFun e32 k) hfv _) (gdV ml_X11_286 im_X11_readFile se_X11_readFile ii_X11 co_X11_readFile) (by decide +kernel) ⟨Nat.le_of_ble_eq_true rfl, Nat.le_of_ble_eq_true rfl⟩ rfl 0 rfl hl rfl (Nat.le_of_ble_eq_true rfl) ⟨Nat.le_of_ble_eq_true rfl, Nat.le_of_ble_eq_true rfl⟩ dX11_startsDelete_30) (fun r_30 u H locs hu G => ?_)
        obtain ⟨iv1_, av1_, rfl, hs1, ha1, hf1, hcs1⟩ := hu
        have hpt : av0 32 k = pt := (congrFun e32 k).symm.trans c_22
        obtain ⟨r_30_e, p0, N, hp8, hN1, hN48, h19, h20, hmw, hbd⟩ := hcs1.resolve_right (fun z => hrd _ hmem hpt z.2)
        subst r_30_e
        have hn1 := cnt_y hfk hpt
        have h41v : av1_ 41 wn = pt := by rw [ha1 41 (by decide), hsA 41 (by decide)]; exact h41
        have h42v : av1_ 42 wn = nI c0 := by rw [ha1 42 (by decide), hsA 42 (by decide)]; exact h42
        have h43v : av1_ 43 wn = wh := by rw [ha1 43 (by decide), hsA 43 (by decide)]; exact h43
        have h44v : av1_ 44 wn = nu := by rw [ha1 44 (by decide), hsA 44 (by decide)]; exact h44
        have h47v : av1_ 47 wn = nI rn := by rw [ha1 47 (by decide)]; exact h47
        have h54v : av1_ 54 wn = nI rem.length := by rw [ha1 54 (by decide)]; exact hrm.1
        have f31 : av1_ 31 k = av0 31 k := by rw [ha1 31 (by decide), e31]
        refine lv_istore_n (lv' := [(3, .int 1), (2, .int (nI k)), (0, .ref h), (1, .int (nI wn))]) hx hb dX11_startsDelete_33 rfl hl (by decide) rfl (fun ls hl => ?_)
        refine lv_aload_n hx hb dX11_startsDelete_34 rfl (lv_at hl 2 rfl) ?_
        refine lv_aload_n hx hb dX11_startsDelete_35 rfl (lv_at hl 2 rfl) ?_
        refine k_mga C G 42 (by decide) mr_42 fl_X11_92 rfl dX11_startsDelete_36 ?_
        refine lv_iload_n hx hb dX11_startsDelete_39 rfl (lv_at hl 3 rfl) ?_
        refine k_mil (v := nI c0) (i := wn) C G 24 (k := 42) (n := 4) mp_42 (by decide) (by omega) h42v dX11_startsDelete_40 ?_
        refine lv_aload_n hx hb dX11_startsDelete_41 rfl (lv_at hl 2 rfl) ?_
        refine k_mga C G 43 (by decide) mr_43 fl_X11_95 rfl dX11_startsDelete_42 ?_
        refine lv_iload_n hx hb dX11_startsDelete_45 rfl (lv_at hl 3 rfl) ?_
        refine k_mil (v := wh) (i := wn) C G 25 (k := 43) (n := 4) mp_43 (by decide) (by omega) h43v dX11_startsDelete_46 ?_
        refine lv_aload_n hx hb dX11_startsDelete_47 rfl (lv_at hl 2 rfl) ?_
        refine k_mga C G 44 (by decide) mr_44 fl_X11_98 rfl dX11_startsDelete_48 ?_
        refine lv_iload_n hx hb dX11_startsDelete_51 rfl (lv_at hl 3 rfl) ?_
        refine k_mil (v := nu) (i := wn) C G 26 (k := 44) (n := 4) mp_44 (by decide) (by omega) h44v dX11_startsDelete_52 ?_
        refine kcM_i G (krV 3 rfl (As := [.int (nI c0), .int wh, .int nu]) (rest := []) (ci := 12) (CC := RX11) (T := TX11) (N := 61) C G pmN (c_X11_mayHave Z l h ad iv1_ av1_ c0 wh nu _ _ _ hc (hbd c0 hc).1 (hbd c0 hc).2.1 (hbd c0 hc).2.2 _) (gdV ml_X11_301 im_X11_mayHave se_X11_mayHave ii_X11 co_X11_mayHave) (by decide +kernel) ⟨Nat.le_of_ble_eq_true rfl, Nat.le_of_ble_eq_true rfl⟩ rfl 0 rfl hl rfl (Nat.le_of_ble_eq_true rfl) ⟨Nat.le_of_ble_eq_true rfl, Nat.le_of_ble_eq_true rfl⟩ dX11_startsDelete_53) (fun r_53 u H locs hu G => ?_)
        obtain ⟨r_53_e, rfl⟩ := hu
        have hcn : (stF (col (mV av1_) c0 N)).1 < 2 ^ 31 := by have h9 := stF_le (col (mV av1_) c0 N); rw [col_len] at h9; omega
        rw [mhM_F hcn] at r_53_e
        have r_53_f : r_53 = mhF wh nu (col (mV av1_) c0 N) := r_53_e
        refine lv_if_ne (tgt := 62) hx hb dX11_startsDelete_56 (by decide) (fun c_56 => ?_) (fun c_56 => ?_)
        · refine lv_iconst (v := 0) hx hb dX11_startsDelete_62 (by decide) ?_
          refine k_topi (y := nI 0) (by rfl) ?_
          refine lv_istore (lv' := [(4, .int (nI 0)), (3, .int 1), (2, .int (nI k)), (0, .ref h), (1, .int (nI wn))]) hx hb dX11_startsDelete_63 hl (by decide) rfl (fun ls hl => ?_)
          refine lv_iconst (v := 0) hx hb dX11_startsDelete_65 (by decide) ?_
          refine k_topi (y := nI 0) (by rfl) ?_
          refine lv_istore (lv' := [(5, .int (nI 0)), (4, .int (nI 0)), (3, .int 1), (2, .int (nI k)), (0, .ref h), (1, .int (nI wn))]) hx hb dX11_startsDelete_66 hl (by decide) rfl (fun ls hl => ?_)
          refine lp_msd1 (iv := iv1_) (av := av1_) (k := k) C hwn h20 hN48 hc h42v h43v h44v (fun hh hh1 H locs ls G hl => ?_) N 0 0 (by omega) rfl _ _ _ G (lv_sub hl [0, 1, 4, 5, 3] rfl)
          have hhl := hitF_le wh nu (mV av1_) c0 N
          refine lv_iload hx hb dX11_startsDelete_127 (lv_at hl 0 rfl) ?_
          refine lv_if_ne (tgt := 135) hx hb dX11_startsDelete_129 (by decide) (fun c_129 => ?_) (fun c_129 => ?_)
          · have n_129 := nb_ne (a := hh) (b := 0) c_129 (by omega) (by omega)
            refine lv_aload_n hx hb dX11_startsDelete_135 rfl (lv_at hl 1 rfl) ?_
            refine k_mga C G 55 (by decide) mr_55 fl_X11_132 rfl dX11_startsDelete_136 ?_
            refine lv_sipush (v := 200) hx hb dX11_startsDelete_139 (by decide) ?_
            refine lv_iload_n hx hb dX11_startsDelete_142 rfl (lv_at hl 2 rfl) ?_
            refine lv_imul hx hb dX11_startsDelete_143 ?_
            refine k_topi (y := nI (200 * wn)) (pk_mul 200 wn) ?_
            refine lv_aload_n hx hb dX11_startsDelete_144 rfl (lv_at hl 1 rfl) ?_
            refine k_mga C G 54 (by decide) mr_54 fl_X11_129 rfl dX11_startsDelete_145 ?_
            refine lv_iload_n hx hb dX11_startsDelete_148 rfl (lv_at hl 2 rfl) ?_
            refine k_mil (v := nI rem.length) (i := wn) C G 36 (k := 54) (n := 4) mp_54 (by decide) (by omega) h54v dX11_startsDelete_149 ?_
            refine lv_iadd hx hb dX11_startsDelete_150 ?_
            refine k_topi (y := nI (200 * wn + rem.length)) (nI_add (200 * wn) rem.length) ?_
            refine lv_aload_n hx hb dX11_startsDelete_151 rfl (lv_at hl 1 rfl) ?_
            refine k_mga C G 31 (by decide) mr_31 fl_X11_59 rfl dX11_startsDelete_152 ?_
            refine lv_iload_n hx hb dX11_startsDelete_155 rfl (lv_at hl 3 rfl) ?_
            refine k_mil (v := (av1_ 31) k) (i := k) C G 13 (k := 31) (n := 260) mp_31 (by decide) (by omega) rfl dX11_startsDelete_156 ?_
            refine k_mis (x := (av1_ 31) k) (i := 200 * wn + rem.length) C G 37 (k := 55) (n := 800) mp_55 (by decide) (by omega) dX11_startsDelete_157 (fun H locs (G : wd Z A s (mdW Z h ad iv1_ (ua av1_ 55 (upd (av1_ 55) (200 * wn + rem.length) ((av1_ 31) k)))) H locs) => ?_)
            refine lv_aload_n hx hb dX11_startsDelete_158 rfl (lv_at hl 1 rfl) ?_
            refine k_mga C G 54 (by decide) mr_54 fl_X11_129 rfl dX11_startsDelete_159 ?_
            refine lv_iload_n hx hb dX11_startsDelete_162 rfl (lv_at hl 2 rfl) ?_
            refine lv_dup2_11 hx hb dX11_startsDelete_163 rfl rfl ?_
            refine k_mil (v := nI rem.length) (i := wn) C G 36 (k := 54) (n := 4) mp_54 (by decide) (by omega) h54v dX11_startsDelete_164 ?_
            refine lv_iconst (v := 1) hx hb dX11_startsDelete_165 (by decide) ?_
            refine lv_iadd hx hb dX11_startsDelete_166 ?_
            refine k_topi (y := nI (rem.length + 1)) (nI_add rem.length 1) ?_
            refine k_mis (x := nI (rem.length + 1)) (i := wn) C G 36 (k := 54) (n := 4) mp_54 (by decide) (by omega) dX11_startsDelete_167 (fun H locs (G : wd Z A s (mdW Z h ad iv1_ (ua (ua av1_ 55 (upd (av1_ 55) (200 * wn + rem.length) ((av1_ 31) k))) 54 (upd (av1_ 54) wn (nI (rem.length + 1))))) H locs) => ?_)
            refine lv_aload_n hx hb dX11_startsDelete_168 rfl (lv_at hl 1 rfl) ?_
            refine k_mga C G 47 (by decide) mr_47 fl_X11_108 rfl dX11_startsDelete_169 ?_
            refine lv_iload_n hx hb dX11_startsDelete_172 rfl (lv_at hl 2 rfl) ?_
            refine k_mil (v := nI rn) (i := wn) C G 29 (k := 47) (n := 4) mp_47 (by decide) (by omega) h47v dX11_startsDelete_173 ?_
            refine lv_istore (lv' := [(5, .int (nI rn)), (4, .int (nI hh)), (0, .ref h), (1, .int (nI wn)), (2, .int (nI k))]) hx hb dX11_startsDelete_174 hl (by decide) rfl (fun ls hl => ?_)
            refine lv_iconst (v := 0) hx hb dX11_startsDelete_176 (by decide) ?_
            refine k_topi (y := nI 0) (by rfl) ?_
            refine lv_istore (lv' := [(6, .int (nI 0)), (5, .int (nI rn)), (4, .int (nI hh)), (0, .ref h), (1, .int (nI wn)), (2, .int (nI k))]) hx hb dX11_startsDelete_177 hl (by decide) rfl (fun ls hl => ?_)
            have hsoA : so_at (shM (ua (ua av1_ 55 (upd (av1_ 55) (200 * wn + rem.length) ((av1_ 31) k))) 54 (upd (av1_ 54) wn (nI (rem.length + 1)))) wn) R0 := by show so_at (shM av1_ wn) R0; rw [shM_same (ha1 45 (by decide))]; exact hso
            refine lp_msd2 (av0 := (ua (ua av1_ 55 (upd (av1_ 55) (200 * wn + rem.length) ((av1_ 31) k))) 54 (upd (av1_ 54) wn (nI (rem.length + 1))))) (k := k) (R0 := R0) (p0 := p0) C hwn h20 hN48 hc h42v h43v h44v h19 hrn (by omega) (fun q av2 hq hsA2 hot2 hso2 h47w H locs ls G hl => ?_) N 0 rn _ (by omega) rfl sA.rf oth.rf (by rw [show kpL c0 wh nu (rLn (nI p0) (mV (ua (ua av1_ 55 (upd (av1_ 55) (200 * wn + rem.length) ((av1_ 31) k))) 54 (upd (av1_ 54) wn (nI (rem.length + 1))))) 0) = [] from rfl, List.append_nil]; exact hsoA) h47v _ _ _ G (lv_sub hl [0, 3, 4, 5, 1] rfl)
            replace hq : q = rn + (kpL c0 wh nu (rLn (nI p0) (mV av1_) N)).length := hq
            replace hso2 : so_at (shM av2 wn) (R0 ++ kpL c0 wh nu (rLn (nI p0) (mV av1_) N)) := hso2
            have h48w : av2 48 wn = nI os.length := by rw [hsA2 48 (by decide)]; exact (congrFun (ha1 48 (by decide)) wn).trans hpl.1
            have h41w : av2 41 wn = pt := by rw [hsA2 41 (by decide)]; exact h41v
            have hrm2 : rmM av2 wn (rem ++ [av0 31 k]) := rmM_same (rmM_s (av := av1_) (av2 := (ua (ua av1_ 55 (upd (av1_ 55) (200 * wn + rem.length) ((av1_ 31) k))) 54 (upd (av1_ 54) wn (nI (rem.length + 1))))) (rmM_same hrm (ha1 54 (by decide)) (ha1 55 (by decide))) rfl rfl (by rw [← f31]; rfl)) (hsA2 54 (by decide)) (hsA2 55 (by decide))
            have hA2 : sA [14, 21, 22, 23, 24, 25, 45, 46, 47, 48, 49, 50, 51, 54, 55] av0 av2 := ((((hsA.tr (ha1.mo (by decide)) (fun j hj => hj)).up (by decide) _).up (by decide) _).tr hsA2 (by decide) : sA _ av0 av2)
            have hO2 : oth [14, 21, 22, 23, 24, 25] wn av0 av2 := ((((hot.tr (oth.of ha1) (by decide)).up 55 _ rfl (by simp only [oz]; omega)).up 54 _ rfl (by simp only [oz]; omega)).tr hot2 (by decide) : oth _ wn av0 av2)
            have hP2 : plG (shM av2 wn) rn av2 wn os := plG_cong hpl (Nat.le_refl _) (fun i hi => so_eq hso hso2 i (by rw [← hrn]; exact hi)) ((hsA2 48 (by decide)).trans (ha1 48 (by decide))) ((hsA2 49 (by decide)).trans (ha1 49 (by decide))) ((hsA2 50 (by decide)).trans (ha1 50 (by decide))) ((hsA2 51 (by decide)).trans (ha1 51 (by decide)))
            have hF2 : ∀ i, fits .byte (.int (av2 14 i)) = true := by rw [hsA2 14 (by decide)]; exact hf1
            have hkl := kpL_le c0 wh nu (rLn (nI p0) (mV av1_) N)
            rw [rLn_len] at hkl
            have hm1 : ¬ mhF wh nu (rwC (rwOf (nI p0) N (mV av1_)) c0) = 0 := by rw [rwC_of (nI p0) N (mV av1_) hc, ← r_53_f]; exact c_56
            have hh2 : ¬ hitF wh nu (rwC (rwOf (nI p0) N (mV av1_)) c0) = 0 := by rw [rwC_of (nI p0) N (mV av1_) hc, ← hh1]; exact n_129
            have hqs : q = (R0 ++ kpL c0 wh nu (rLn (nI p0) (mV av1_) N)).length := by rw [List.length_append, ← hrn]; exact hq
            refine lv_aload_n hx hb dX11_startsDelete_268 rfl (lv_at hl 0 rfl) ?_
            refine k_mga C G 47 (by decide) mr_47 fl_X11_108 rfl dX11_startsDelete_269 ?_
            refine lv_iload_n hx hb dX11_startsDelete_272 rfl (lv_at hl 1 rfl) ?_
            refine k_mil (v := nI q) (i := wn) C G 29 (k := 47) (n := 4) mp_47 (by decide) (by omega) h47w dX11_startsDelete_273 ?_
            refine lv_iload hx hb dX11_startsDelete_274 (lv_at hl 3 rfl) ?_
            refine lv_icmp_le (tgt := 301) hx hb dX11_startsDelete_276 (by decide) (fun c_276 => ?_) (fun c_276 => ?_)
            · have n_276 := nb_le (a := q) (b := rn) c_276 (by omega) (by omega)
              refine lv_iinc (v := nI (k + 1)) (lv' := [(2, .int (nI (k + 1))), (0, .ref h), (1, .int (nI wn)), (5, .int (nI rn))]) hx hb dX11_startsDelete_301 hl (k := 2) rfl (nI_1 _) (by decide) rfl (fun ls hl => ?_)
              refine lv_goto (tgt := 2) hx hb dX11_startsDelete_304 (by decide) ?_
              have hke : kpL c0 wh nu (rL (rwOf (nI p0) N (mV av1_))) = [] := by rw [rL_of]; exact List.eq_nil_of_length_eq_zero (by omega)
              exact ih (k + 1) iv1_ av2 q (R0 ++ kpL c0 wh nu (rLn (nI p0) (mV av1_) N)) os (rem ++ [av0 31 k]) (by omega) (hsI.tr hs1 (by decide)) hA2 hO2 hF2 hso2 hqs h47w (plG_cong hP2 (by omega) (fun _ _ => rfl) rfl rfl rfl rfl) hrm2 (by omega) (by omega) (by rw [List.length_append]; show rem.length + 1 + _ ≤ 100; omega) (by rw [← hres, hfk]; show List.foldl _ _ _ = List.foldl _ (dlS (mW ob) pt c0 wh nu (os, rem) (av0 31 k, av0 32 k)) _; rw [dlS_k hpt hmw hm1 hh2, if_pos hke, List.append_nil]) _ _ _ G (lv_sub hl [0, 1, 2] rfl)
            · have n_276 := nb_nle (a := q) (b := rn) c_276 (by omega) (by omega)
              refine lv_aload_n hx hb dX11_startsDelete_279 rfl (lv_at hl 0 rfl) ?_
              refine lv_iload_n hx hb dX11_startsDelete_280 rfl (lv_at hl 1 rfl) ?_
              refine lv_aload_n hx hb dX11_startsDelete_281 rfl (lv_at hl 0 rfl) ?_
              refine k_mga C G 41 (by decide) mr_41 fl_X11_89 rfl dX11_startsDelete_282 ?_
              refine lv_iload_n hx hb dX11_startsDelete_285 rfl (lv_at hl 1 rfl) ?_
              refine k_mil (v := pt) (i := wn) C G 23 (k := 41) (n := 4) mp_41 (by decide) (by omega) h41w dX11_startsDelete_286 ?_
              refine lv_iload hx hb dX11_startsDelete_287 (lv_at hl 3 rfl) ?_
              refine lv_aload_n hx hb dX11_startsDelete_289 rfl (lv_at hl 0 rfl) ?_
              refine k_mga C G 47 (by decide) mr_47 fl_X11_108 rfl dX11_startsDelete_290 ?_
              refine lv_iload_n hx hb dX11_startsDelete_293 rfl (lv_at hl 1 rfl) ?_
              refine k_mil (v := nI q) (i := wn) C G 29 (k := 47) (n := 4) mp_47 (by decide) (by omega) h47w dX11_startsDelete_294 ?_
              refine lv_iload hx hb dX11_startsDelete_295 (lv_at hl 3 rfl) ?_
              refine lv_isub hx hb dX11_startsDelete_297 ?_
              refine k_topi (y := nI (q - rn)) (pk_sub (a := q) (b := rn) (by omega)) ?_
              refine kcM_v G (krV 4 rfl (As := [.int (nI wn), .int pt, .int (nI rn), .int (nI (q - rn))]) (rest := []) (ci := 12) (CC := RX11) (T := TX11) (N := 61) C G pmN (c_X11_adds Z l h ad iv1_ av2 wn os.length pt (nI rn) (nI (q - rn)) hwn h48w (by omega) _) (gdV ml_X11_298 im_X11_adds se_X11_adds ii_X11 co_X11_adds) (by decide +kernel) ⟨Nat.le_of_ble_eq_true rfl, Nat.le_of_ble_eq_true rfl⟩ rfl 0 rfl hl rfl (Nat.le_of_ble_eq_true rfl) ⟨Nat.le_of_ble_eq_true rfl, Nat.le_of_ble_eq_true rfl⟩ dX11_startsDelete_298) (fun u H locs hu G => ?_)
              subst hu
              refine lv_iinc (v := nI (k + 1)) (lv' := [(2, .int (nI (k + 1))), (0, .ref h), (1, .int (nI wn)), (5, .int (nI rn))]) hx hb dX11_startsDelete_301 hl (k := 2) rfl (nI_1 _) (by decide) rfl (fun ls hl => ?_)
              refine lv_goto (tgt := 2) hx hb dX11_startsDelete_304 (by decide) ?_
              have hke : ¬ kpL c0 wh nu (rL (rwOf (nI p0) N (mV av1_))) = [] := fun z => by rw [rL_of] at z; rw [z] at hq; simp at hq; omega
              exact ih (k + 1) iv1_ (adA av2 wn os.length pt (nI rn) (nI (q - rn))) q (R0 ++ kpL c0 wh nu (rLn (nI p0) (mV av1_) N)) (os ++ [rw3 pt (kpL c0 wh nu (rL (rwOf (nI p0) N (mV av1_))))]) (rem ++ [av0 31 k]) (by omega) (hsI.tr hs1 (by decide)) (hA2.ad _ _ _ (by decide) (by decide) (by decide) (by decide)) (hO2.ad (by omega) _ _ _) hF2 hso2 hqs h47w (by rw [rL_of]; exact plG_add (S := R0) pt hP2 (by omega) hso2 (by omega) (by omega) (by rw [← List.length_append]; exact Nat.le_of_eq hqs.symm) hrn (by omega)) (rmM_same hrm2 rfl rfl) (by omega) (by rw [List.length_append]; show os.length + 1 + _ ≤ 100; omega) (by rw [List.length_append]; show rem.length + 1 + _ ≤ 100; omega) (by rw [← hres, hfk]; show List.foldl _ _ _ = List.foldl _ (dlS (mW ob) pt c0 wh nu (os, rem) (av0 31 k, av0 32 k)) _; rw [dlS_k hpt hmw hm1 hh2, if_neg hke]) _ _ _ G (lv_sub hl [0, 1, 2] rfl)
          · have n_129 := nb_eq (a := hh) (b := 0) c_129 (by omega) (by omega)
            refine lv_goto (tgt := 301) hx hb dX11_startsDelete_132 (by decide) ?_
            refine lv_iinc (v := nI (k + 1)) (lv' := [(2, .int (nI (k + 1))), (4, .int (nI hh)), (0, .ref h), (1, .int (nI wn))]) hx hb dX11_startsDelete_301 hl (k := 3) rfl (nI_1 _) (by decide) rfl (fun ls hl => ?_)
            refine lv_goto (tgt := 2) hx hb dX11_startsDelete_304 (by decide) ?_
            have hh2 : hitF wh nu (rwC (rwOf (nI p0) N (mV av1_)) c0) = 0 := by rw [rwC_of (nI p0) N (mV av1_) hc, ← hh1]; exact n_129
            exact ih (k + 1) iv1_ av1_ rn R0 os rem (by omega) (hsI.tr hs1 (by decide)) (hsA.tr (ha1.mo (by decide)) (fun j hj => hj)) (hot.tr (oth.of ha1) (by decide)) hf1 (by rw [shM_same (ha1 45 (by decide))]; exact hso) hrn h47v (plG_cong (av2 := av1_) hpl (Nat.le_refl _) (fun _ _ => by rw [shM_same (ha1 45 (by decide))]) (ha1 48 (by decide)) (ha1 49 (by decide)) (ha1 50 (by decide)) (ha1 51 (by decide))) (rmM_same hrm (ha1 54 (by decide)) (ha1 55 (by decide))) (by omega) (by omega) (by omega) (by rw [← hres, hfk]; show List.foldl _ _ _ = List.foldl _ (dlS (mW ob) pt c0 wh nu (os, rem) (av0 31 k, av0 32 k)) _; rw [dlS_h hpt hmw hh2]) _ _ _ G (lv_sub hl [0, 2, 3] rfl)
        · refine lv_goto (tgt := 301) hx hb dX11_startsDelete_59 (by decide) ?_
          refine lv_iinc (v := nI (k + 1)) (lv' := [(2, .int (nI (k + 1))), (3, .int 1), (0, .ref h), (1, .int (nI wn))]) hx hb dX11_startsDelete_301 hl (k := 1) rfl (nI_1 _) (by decide) rfl (fun ls hl => ?_)
          refine lv_goto (tgt := 2) hx hb dX11_startsDelete_304 (by decide) ?_
          have hm1 : mhF wh nu (rwC (rwOf (nI p0) N (mV av1_)) c0) = 0 := by rw [rwC_of (nI p0) N (mV av1_) hc, ← r_53_f]; exact c_56
          exact ih (k + 1) iv1_ av1_ rn R0 os rem (by omega) (hsI.tr hs1 (by decide)) (hsA.tr (ha1.mo (by decide)) (fun j hj => hj)) (hot.tr (oth.of ha1) (by decide)) hf1 (by rw [shM_same (ha1 45 (by decide))]; exact hso) hrn h47v (plG_cong (av2 := av1_) hpl (Nat.le_refl _) (fun _ _ => by rw [shM_same (ha1 45 (by decide))]) (ha1 48 (by decide)) (ha1 49 (by decide)) (ha1 50 (by decide)) (ha1 51 (by decide))) (rmM_same hrm (ha1 54 (by decide)) (ha1 55 (by decide))) (by omega) (by omega) (by omega) (by rw [← hres, hfk]; show List.foldl _ _ _ = List.foldl _ (dlS (mW ob) pt c0 wh nu (os, rem) (av0 31 k, av0 32 k)) _; rw [dlS_m hpt hmw hm1]) _ _ _ G (lv_sub hl [0, 2, 3] rfl)
      · refine lv_goto (tgt := 301) hx hb dX11_startsDelete_25 (by decide) ?_
        refine lv_iinc (v := nI (k + 1)) (lv' := [(2, .int (nI (k + 1))), (0, .ref h), (1, .int (nI wn))]) hx hb dX11_startsDelete_301 hl (k := 0) rfl (nI_1 _) (by decide) rfl (fun ls hl => ?_)
        refine lv_goto (tgt := 2) hx hb dX11_startsDelete_304 (by decide) ?_
        have hpt : ¬ av0 32 k = pt := fun z => c_22 ((congrFun e32 k).trans z)
        have hn1 := cnt_n hfk hpt
        exact ih (k + 1) iv av rn R0 os rem (by omega) hsI hsA hot hfv hso hrn h47 hpl hrm (by omega) (by omega) (by omega) (by rw [← hres, hfk]; show List.foldl _ _ _ = List.foldl _ (dlS (mW ob) pt c0 wh nu (os, rem) (av0 31 k, av0 32 k)) _; rw [dlS_o hpt]) _ _ _ G (lv_sub hl [0, 1, 2] rfl)
set_option maxRecDepth 100000 in
set_option maxHeartbeats 4000000 in
theorem c_X11_startsDelete (Z : zT) (l : Launch) (h : Nat) (ad : Nat → Nat) (iv : ivT) (av : avT) (wn : Nat) (ob : List obT) (F : flT) (c0 : Nat) (pt wh nu : Int32) (hwn : wn < 4) (ho : mo_ok iv av ob) (hF : flS iv av F) (hc : c0 < 3) (h41 : av 41 wn = pt) (h42 : av 42 wn = nI c0) (h43 : av 43 wn = wh) (h44 : av 44 wn = nu) (hrd : ∀ q ∈ F, q.2 = pt → ¬ mW ob q.1 q.2 = none) (hf14 : ∀ i, fits .byte (.int (av 14 i)) = true) (h47 : av 47 wn = 0) (h48 : av 48 wn = 0) (h54 : av 54 wn = 0) (hcp : F.countP (fun q => decide (q.2 = pt)) ≤ 100) : Kv Z l yX11_startsDelete cX11_startsDelete 7 none ({ frames := 6, cells := 0, slots := 0, locals := 200 }) [.ref h, .int (nI wn)] (mdW Z h ad iv av) (fun u => ∃ (iv2 : ivT) (av2 : avT) (os : List rwT) (rem : List Int32), u = mdW Z h ad iv2 av2 ∧ sI [15, 16, 17, 18, 19, 20] iv iv2 ∧ sA [14, 21, 22, 23, 24, 25, 45, 46, 47, 48, 49, 50, 51, 54, 55] av av2 ∧ oth [14, 21, 22, 23, 24, 25] wn av av2 ∧ (∀ i, fits .byte (.int (av2 14 i)) = true) ∧ plM av2 wn os ∧ rmM av2 wn rem ∧ os.length ≤ 100 ∧ rem.length ≤ 100 ∧ F.foldl (dlS (mW ob) pt c0 wh nu) ([], []) = (os, rem)) := by
  intro sz
  refine Met.ofK (cc := cX11_startsDelete) (maxL := 7) (ret := none) (by decide) (Nat.le_of_ble_eq_true rfl) ?_
  intro p e s m below meth c ls C G hl
  generalize va_A _ sz = A at G ⊢
  have hx := C.1
  have hb := C.2.1
  have hown := C.2.2.2.2.2.1
  have hts := C.2.2.2.2.2.2.1
  refine lv_iconst (v := 0) hx hb dX11_startsDelete_0 (by decide) ?_
  refine k_topi (y := nI 0) (by rfl) ?_
  refine lv_istore_n (lv' := [(2, .int (nI 0)), (0, .ref h), (1, .int (nI wn))]) hx hb dX11_startsDelete_1 rfl hl (by decide) rfl (fun ls hl => ?_)
  exact lp_msd3 (iv0 := iv) (av0 := av) (RES := F.foldl (dlS (mW ob) pt c0 wh nu) ([], [])) C hwn ho hF hc h41 h42 h43 h44 hrd (fun iv2 av2 rn R0 os rem a1 a2 a3 a4 a5 a6 a7 a8 a9 b1 b2 b3 b4 => ⟨iv2, av2, os, rem, rfl, a1, a2, a3, a4, plG_cong a8 b1 (fun _ _ => rfl) rfl rfl rfl rfl, a9, b2, b3, b4⟩) F.length 0 iv av 0 [] [] [] (by omega) sI.rf sA.rf oth.rf hf14 (so_0 _) rfl h47 (plG_0 h48) (rmM_0 h54) (by rw [List.drop_zero]; omega) (by rw [List.drop_zero]; show 0 + _ ≤ 100; omega) (by rw [List.drop_zero]; show 0 + _ ≤ 100; omega) (by rw [List.drop_zero]) _ _ _ G (lv_sub hl [0, 1, 2] rfl)
