/-! MODEL (X11): find. -/
theorem soF_cdv (wh nu v : Int32) : soF v wh nu = cdv wh nu v := by
  unfold soF cdv
  rfl
theorem mhM_F {wh nu le gr : Int32} {c : Nat} (hc : c < 2 ^ 31) : mhM (if c = 0 then 0 else 1) le gr wh nu = cmv wh nu (nI c) le gr := by
  unfold mhM cmv
  by_cases h : c = 0
  · subst h; rw [if_pos rfl, if_pos rfl, if_pos (show ¬ 0 < nI 0 by decide)]
  · rw [if_neg h, if_neg (show ¬ (1 : Int32) = 0 by decide), if_neg (show ¬ ¬ 0 < nI c from fun z => z (nI_lt (a := 0) (by omega) hc))]
    by_cases h0 : wh = 0
    · rw [if_pos h0, if_pos h0]
    · rw [if_neg h0, if_neg h0]
      by_cases h1 : wh = 1
      · rw [if_pos h1, if_pos h1]
      · rw [if_neg h1, if_neg h1]
        by_cases h2 : le ≤ nu ∧ nu ≤ gr
        · rw [if_pos h2, if_pos ⟨h2.2, h2.1⟩]
        · rw [if_neg h2, if_neg (fun z => h2 ⟨z.2, z.1⟩)]
set_option maxRecDepth 100000 in
set_option maxHeartbeats 4000000 in
theorem lp_mfi {p : Program} {l : Launch} {e : Env} {s : State} {m : MethodId} {args : Array Value} {below : List Frame} {meth : Method} {c : Code} {Z : zT} {A : Nat → Prop} {Q : State → Prop} {h : Nat} {ad : Nat → Nat} {iv : ivT} {av : avT} {c0 N k : Nat} {x wh nu h0 : Int32} {T0 : Nat → Int32} (C : cx p s m args meth c cX11_find 11 (some .int) RX11 "find") (h20 : iv 20 = nI N) (hN : N ≤ 48) (hc : c0 < 3) (kk : ∀ (H : Heap) (locs : List Loc) (ls : Array Slot), wd Z A s (mdW Z h ad iv (ua av 60 (upd T0 3 (T0 3 + sumF wh nu (col (mV av) c0 N))))) H locs → lv_has ls 11 [(5, .int (h0 + nI (hitF wh nu (col (mV av) c0 N)))), (6, .int (nI k)), (0, .ref h), (1, .int x), (2, .int (nI c0)), (3, .int wh), (4, .int nu)] → W p l e ({ frames := 6, cells := 0, slots := 0, locals := 200 }) s m args below meth c H locs 0 0 Q (F0 m 194 ls [])) : ∀ (n r : Nat) (hh : Int32) (T : Nat → Int32), r + n = N → hh = h0 + nI (hitF wh nu (col (mV av) c0 r)) → T = upd T0 3 (T0 3 + sumF wh nu (col (mV av) c0 r)) → ∀ (H : Heap) (locs : List Loc) (ls : Array Slot), wd Z A s (mdW Z h ad iv (ua av 60 T)) H locs → lv_has ls 11 [(9, .int (nI r)), (5, .int hh), (6, .int (nI k)), (7, .int 1), (8, .int 1), (0, .ref h), (1, .int x), (2, .int (nI c0)), (3, .int wh), (4, .int nu)] → W p l e ({ frames := 6, cells := 0, slots := 0, locals := 200 }) s m args below meth c H locs 0 0 Q (F0 m 133 ls []) := by
  have hx := C.1
  have hb := C.2.1
  have hown := C.2.2.2.2.2.1
  have hts := C.2.2.2.2.2.2.1
  intro n
  induction n with
  | zero =>
    intro r hh T hr hh1 hT H locs ls G hl
    refine lv_iload hx hb dX11_find_133 (lv_at hl 4 rfl) ?_
    refine lv_if_eq (tgt := 194) hx hb dX11_find_135 (by decide) (fun c_135 => ?_) (fun c_135 => ?_)
    · exact absurd c_135 (by decide)
    · have n_135 := nb_ne (a := 1) (b := 0) c_135 (by omega) (by omega)
      refine lv_iload hx hb dX11_find_138 (lv_at hl 0 rfl) ?_
      refine lv_aload_n hx hb dX11_find_140 rfl (lv_at hl 5 rfl) ?_
      refine k_mgi (v := nI N) C G 20 (by decide) mr_20 h20 fl_X11_196 rfl dX11_find_141 ?_
      refine lv_icmp_ge (tgt := 194) hx hb dX11_find_144 (by decide) (fun c_144 => ?_) (fun c_144 => ?_)
      · have n_144 := nb_le (a := N) (b := r) c_144 (by omega) (by omega)
        have hrN : r = N := by omega
        subst hrN
        subst hh1
        subst hT
        exact kk _ _ _ G (lv_sub hl [1, 2, 5, 6, 7, 8, 9] rfl)
      · exact absurd (nb_nle (a := N) (b := r) c_144 (by omega) (by omega)) (by omega)
  | succ n ih =>
    intro r hh T hr hh1 hT H locs ls G hl
    refine lv_iload hx hb dX11_find_133 (lv_at hl 4 rfl) ?_
    refine lv_if_eq (tgt := 194) hx hb dX11_find_135 (by decide) (fun c_135 => ?_) (fun c_135 => ?_)
    · exact absurd c_135 (by decide)
    · have n_135 := nb_ne (a := 1) (b := 0) c_135 (by omega) (by omega)
      refine lv_iload hx hb dX11_find_138 (lv_at hl 0 rfl) ?_
      refine lv_aload_n hx hb dX11_find_140 rfl (lv_at hl 5 rfl) ?_
      refine k_mgi (v := nI N) C G 20 (by decide) mr_20 h20 fl_X11_196 rfl dX11_find_141 ?_
      refine lv_icmp_ge (tgt := 194) hx hb dX11_find_144 (by decide) (fun c_144 => ?_) (fun c_144 => ?_)
      · exact absurd (nb_le (a := N) (b := r) c_144 (by omega) (by omega)) (by omega)
      · have n_144 := nb_nle (a := N) (b := r) c_144 (by omega) (by omega)
        refine lv_aload_n hx hb dX11_find_147 rfl (lv_at hl 5 rfl) ?_
        refine k_mga C G 21 (by decide) mr_21 fl_X11_34 rfl dX11_find_148 ?_
        refine lv_iconst (v := 3) hx hb dX11_find_151 (by decide) ?_
        refine lv_iload hx hb dX11_find_152 (lv_at hl 0 rfl) ?_
        refine lv_imul hx hb dX11_find_154 ?_
        refine k_topi (y := nI (3 * r)) (pk_mul 3 r) ?_
        refine lv_iload_n hx hb dX11_find_155 rfl (lv_at hl 7 rfl) ?_
        refine lv_iadd hx hb dX11_find_156 ?_
        refine k_topi (y := nI (3 * r + c0)) (nI_add (3 * r) c0) ?_
        refine k_mil (v := mV av (48 * c0 + r)) (i := 3 * r + c0) C G 5 (k := 21) (n := 144) mp_21 (by decide) (by omega) ((mV_at av (by omega)).symm) dX11_find_157 ?_
        refine lv_istore (lv' := [(10, .int (mV av (48 * c0 + r))), (9, .int (nI r)), (5, .int hh), (6, .int (nI k)), (7, .int 1), (8, .int 1), (0, .ref h), (1, .int x), (2, .int (nI c0)), (3, .int wh), (4, .int nu)]) hx hb dX11_find_158 hl (by decide) rfl (fun ls hl => ?_)
        refine lv_iload hx hb dX11_find_160 (lv_at hl 0 rfl) ?_
        refine lv_iload_n hx hb dX11_find_162 rfl (lv_at hl 9 rfl) ?_
        refine lv_iload hx hb dX11_find_163 (lv_at hl 10 rfl) ?_
        refine kcM_i G (krS 3 rfl (As := [.int (mV av (48 * c0 + r)), .int wh, .int nu]) (rest := []) C G pmN (c_X11_isSo Z l h ad iv (ua av 60 T) (mV av (48 * c0 + r)) wh nu _) (gdS ml_X11_304 sm_X11_isSo ii_X11 co_X11_isSo) (by decide +kernel) ⟨Nat.le_of_ble_eq_true rfl, Nat.le_of_ble_eq_true rfl⟩ hl rfl (Nat.le_of_ble_eq_true rfl) ⟨Nat.le_of_ble_eq_true rfl, Nat.le_of_ble_eq_true rfl⟩ dX11_find_165) (fun r_165 u H locs hu G => ?_)
        obtain ⟨r_165_e, rfl⟩ := hu
        rw [soF_cdv] at r_165_e
        refine lv_if_ne (tgt := 174) hx hb dX11_find_168 (by decide) (fun c_168 => ?_) (fun c_168 => ?_)
        · refine lv_iinc (v := hh + 1) (lv' := [(5, .int (hh + 1)), (10, .int (mV av (48 * c0 + r))), (9, .int (nI r)), (6, .int (nI k)), (7, .int 1), (8, .int 1), (0, .ref h), (1, .int x), (2, .int (nI c0)), (3, .int wh), (4, .int nu)]) hx hb dX11_find_174 hl (k := 2) rfl rfl (by decide) rfl (fun ls hl => ?_)
          refine lv_aload_n hx hb dX11_find_177 rfl (lv_at hl 6 rfl) ?_
          refine k_mga C G 60 (by decide) mr_60 fl_X11_147 rfl dX11_find_178 ?_
          refine lv_iconst (v := 3) hx hb dX11_find_181 (by decide) ?_
          refine lv_dup2_11 hx hb dX11_find_182 rfl rfl ?_
          refine k_mil (v := T 3) (i := 3) C G 42 (k := 60) (n := 4) mp_60 (by decide) (by omega) rfl dX11_find_183 ?_
          refine lv_iload hx hb dX11_find_184 (lv_at hl 1 rfl) ?_
          refine lv_iadd hx hb dX11_find_186 ?_
          refine k_mis (x := (T 3) + (mV av (48 * c0 + r))) (i := 3) C G 42 (k := 60) (n := 4) mp_60 (by decide) (by omega) dX11_find_187 (fun H locs (G : wd Z A s (mdW Z h ad iv (ua (ua av 60 T) 60 (upd T 3 ((T 3) + (mV av (48 * c0 + r)))))) H locs) => ?_)
          refine lv_iinc (v := nI (r + 1)) (lv' := [(9, .int (nI (r + 1))), (5, .int (hh + 1)), (10, .int (mV av (48 * c0 + r))), (6, .int (nI k)), (7, .int 1), (8, .int 1), (0, .ref h), (1, .int x), (2, .int (nI c0)), (3, .int wh), (4, .int nu)]) hx hb dX11_find_188 hl (k := 2) rfl (nI_1 _) (by decide) rfl (fun ls hl => ?_)
          refine lv_goto (tgt := 133) hx hb dX11_find_191 (by decide) ?_
          have hz : ¬ cdv wh nu (mV av (48 * c0 + r)) = 0 := by rw [← r_165_e]; exact c_168
          rw [ua_ua] at G
          exact ih (r + 1) _ _ (by omega) (by rw [col_s, hitF_s, hitS, if_neg hz, ← nI_1, ← Int32.add_assoc, ← hh1]) (by
            rw [col_s, sumF_s, sumS, if_neg hz, hT]
            funext j
            by_cases e : j = 3
            · subst e; rw [pk_us, pk_us, pk_us, Int32.add_assoc]
            · rw [pk_un e, pk_un e, pk_un e]) _ _ _ G (lv_sub hl [0, 1, 3, 4, 5, 6, 7, 8, 9, 10] rfl)
        · refine lv_goto (tgt := 188) hx hb dX11_find_171 (by decide) ?_
          refine lv_iinc (v := nI (r + 1)) (lv' := [(9, .int (nI (r + 1))), (10, .int (mV av (48 * c0 + r))), (5, .int hh), (6, .int (nI k)), (7, .int 1), (8, .int 1), (0, .ref h), (1, .int x), (2, .int (nI c0)), (3, .int wh), (4, .int nu)]) hx hb dX11_find_188 hl (k := 1) rfl (nI_1 _) (by decide) rfl (fun ls hl => ?_)
          refine lv_goto (tgt := 133) hx hb dX11_find_191 (by decide) ?_
          have hz : cdv wh nu (mV av (48 * c0 + r)) = 0 := by rw [← r_165_e]; exact c_168
          exact ih (r + 1) _ _ (by omega) (by rw [col_s, hitF_s, hitS, if_pos hz]; exact hh1) (by rw [col_s, sumF_s, sumS, if_pos hz, Int32.add_zero]; exact hT) _ _ _ G (lv_sub hl [0, 2, 3, 4, 5, 6, 7, 8, 9, 10] rfl)
set_option maxRecDepth 100000 in
set_option maxHeartbeats 4000000 in
theorem lp_mff {p : Program} {l : Launch} {e : Env} {s : State} {m : MethodId} {args : Array Value} {below : List Frame} {meth : Method} {c : Code} {Z : zT} {A : Nat → Prop} {h : Nat} {ad : Nat → Nat} {iv0 : ivT} {av0 : avT} {ob : List obT} {F : flT} {c0 : Nat} {x wh nu : Int32} {RES : Int32 × (Nat → Int32)} {post : Int32 → va_W → Prop} (C : cx p s m args meth c cX11_find 11 (some .int) RX11 "find") (ho : mo_ok iv0 av0 ob) (hF : flS iv0 av0 F) (hc : c0 < 3) (hp : ∀ (iv : ivT) (av : avT), sI [15, 16, 17, 18, 19, 20] iv0 iv → sA [14, 21, 22, 23, 24, 25, 60] av0 av → (∀ i, fits .byte (.int (av 14 i)) = true) → ∀ r, RES = (r, av 60) → post r (mdW Z h ad iv av)) : ∀ (n k : Nat) (hh : Int32) (iv : ivT) (av : avT), k + n = F.length → sI [15, 16, 17, 18, 19, 20] iv0 iv → sA [14, 21, 22, 23, 24, 25, 60] av0 av → (∀ i, fits .byte (.int (av 14 i)) = true) → (F.drop k).foldl (fdB (mW ob) c0 wh nu) (hh, av 60) = RES → ∀ (H : Heap) (locs : List Loc) (ls : Array Slot), wd Z A s (mdW Z h ad iv av) H locs → lv_has ls 11 [(6, .int (nI k)), (5, .int hh), (0, .ref h), (1, .int x), (2, .int (nI c0)), (3, .int wh), (4, .int nu)] → W p l e ({ frames := 6, cells := 0, slots := 0, locals := 200 }) s m args below meth c H locs 0 0 (MQ below (va_Qi post (mB Z A) A) args s 0 0 A) (F0 m 62 ls []) := by
  have hx := C.1
  have hb := C.2.1
  have hown := C.2.2.2.2.2.1
  have hts := C.2.2.2.2.2.2.1
  have hfl := hF.2.2.1
  intro n
  induction n with
  | zero =>
    intro k hh iv av hk hsI hsA hfv hres H locs ls G hl
    have h30v : iv 30 = nI F.length := (hsI 30 (by decide)).trans hF.1
    have hok : mo_ok iv av ob := ho.same hsI hsA (by decide) (by decide) (by decide) (by decide) (by decide) (by decide)
    have e31 : av 31 = av0 31 := hsA 31 (by decide)
    have e32 : av 32 = av0 32 := hsA 32 (by decide)
    refine lv_iload hx hb dX11_find_62 (lv_at hl 0 rfl) ?_
    refine lv_aload_n hx hb dX11_find_64 rfl (lv_at hl 2 rfl) ?_
    refine k_mgi (v := nI F.length) C G 30 (by decide) mr_30 h30v fl_X11_245 rfl dX11_find_65 ?_
    refine lv_icmp_ge (tgt := 200) hx hb dX11_find_68 (by decide) (fun c_68 => ?_) (fun c_68 => ?_)
    · have n_68 := nb_le (a := F.length) (b := k) c_68 (by omega) (by omega)
      refine lv_iload hx hb dX11_find_200 (lv_at hl 1 rfl) ?_
      exact kr_i C G (hp iv av hsI hsA hfv _ (by rw [← hres, List.drop_eq_nil_of_le (by omega)]; rfl)) (Nat.le_of_ble_eq_true rfl) (Nat.le_of_ble_eq_true rfl) dX11_find_202
    · exact absurd (nb_nle (a := F.length) (b := k) c_68 (by omega) (by omega)) (by omega)
  | succ n ih =>
    intro k hh iv av hk hsI hsA hfv hres H locs ls G hl
    have h30v : iv 30 = nI F.length := (hsI 30 (by decide)).trans hF.1
    have hok : mo_ok iv av ob := ho.same hsI hsA (by decide) (by decide) (by decide) (by decide) (by decide) (by decide)
    have e31 : av 31 = av0 31 := hsA 31 (by decide)
    have e32 : av 32 = av0 32 := hsA 32 (by decide)
    have hfk := flget hF (show k < F.length by omega)
    refine lv_iload hx hb dX11_find_62 (lv_at hl 0 rfl) ?_
    refine lv_aload_n hx hb dX11_find_64 rfl (lv_at hl 2 rfl) ?_
    refine k_mgi (v := nI F.length) C G 30 (by decide) mr_30 h30v fl_X11_245 rfl dX11_find_65 ?_
    refine lv_icmp_ge (tgt := 200) hx hb dX11_find_68 (by decide) (fun c_68 => ?_) (fun c_68 => ?_)
    · exact absurd (nb_le (a := F.length) (b := k) c_68 (by omega) (by omega)) (by omega)
    · have n_68 := nb_nle (a := F.length) (b := k) c_68 (by omega) (by omega)
      refine lv_aload_n hx hb dX11_find_71 rfl (lv_at hl 2 rfl) ?_
      refine lv_iload hx hb dX11_find_72 (lv_at hl 0 rfl) ?_
      refine kcM_i G (krV 1 rfl (As := [.int (nI k)]) (rest := []) (ci := 12) (CC := RX11) (T := TX11) (N := 61) C G pmN (c_X11_readFile Z l h ad iv av ob k (av0 31 k) (av0 32 k) hok (by omega) (congrFun e31 k) (congrFun e32 k) hfv _) (gdV ml_X11_286 im_X11_readFile se_X11_readFile ii_X11 co_X11_readFile) (by decide +kernel) ⟨Nat.le_of_ble_eq_true rfl, Nat.le_of_ble_eq_true rfl⟩ rfl 0 rfl hl rfl (Nat.le_of_ble_eq_true rfl) ⟨Nat.le_of_ble_eq_true rfl, Nat.le_of_ble_eq_true rfl⟩ dX11_find_74) (fun r_74 u H locs hu G => ?_)
      obtain ⟨iv1_, av1_, rfl, hs1, ha1, hf1, hcs1⟩ := hu
      have e60 : av1_ 60 = av 60 := ha1 60 (by decide)
      rcases hcs1 with ⟨r_74_e, p0, N, hp8, hN1, hN48, h19, h20, hmw, hbd⟩ | ⟨r_74_e, hmw⟩
      · subst r_74_e
        refine lv_istore (lv' := [(7, .int 1), (6, .int (nI k)), (5, .int hh), (0, .ref h), (1, .int x), (2, .int (nI c0)), (3, .int wh), (4, .int nu)]) hx hb dX11_find_77 hl (by decide) rfl (fun ls hl => ?_)
        refine lv_iload hx hb dX11_find_79 (lv_at hl 0 rfl) ?_
        refine lv_if_eq (tgt := 99) hx hb dX11_find_81 (by decide) (fun c_81 => ?_) (fun c_81 => ?_)
        · exact absurd c_81 (by decide)
        · have n_81 := nb_ne (a := 1) (b := 0) c_81 (by omega) (by omega)
          refine lv_aload_n hx hb dX11_find_84 rfl (lv_at hl 3 rfl) ?_
          refine lv_iload_n hx hb dX11_find_85 rfl (lv_at hl 5 rfl) ?_
          refine lv_iload_n hx hb dX11_find_86 rfl (lv_at hl 6 rfl) ?_
          refine lv_iload hx hb dX11_find_87 (lv_at hl 7 rfl) ?_
          refine kcM_i G (krV 3 rfl (As := [.int (nI c0), .int wh, .int nu]) (rest := []) (ci := 12) (CC := RX11) (T := TX11) (N := 61) C G pmN (c_X11_mayHave Z l h ad iv1_ av1_ c0 wh nu _ _ _ hc (hbd c0 hc).1 (hbd c0 hc).2.1 (hbd c0 hc).2.2 _) (gdV ml_X11_301 im_X11_mayHave se_X11_mayHave ii_X11 co_X11_mayHave) (by decide +kernel) ⟨Nat.le_of_ble_eq_true rfl, Nat.le_of_ble_eq_true rfl⟩ rfl 0 rfl hl rfl (Nat.le_of_ble_eq_true rfl) ⟨Nat.le_of_ble_eq_true rfl, Nat.le_of_ble_eq_true rfl⟩ dX11_find_89) (fun r_89 u H locs hu G => ?_)
          obtain ⟨r_89_e, rfl⟩ := hu
          have hcn : (stF (col (mV av1_) c0 N)).1 < 2 ^ 31 := by have h9 := stF_le (col (mV av1_) c0 N); rw [col_len] at h9; omega
          rw [mhM_F hcn] at r_89_e
          have r_89_f : r_89 = mhF wh nu (col (mV av1_) c0 N) := r_89_e
          refine lv_if_eq (tgt := 99) hx hb dX11_find_92 (by decide) (fun c_92 => ?_) (fun c_92 => ?_)
          · refine lv_iconst (v := 0) hx hb dX11_find_99 (by decide) ?_
            refine lv_istore (lv' := [(8, .int 0), (7, .int 1), (6, .int (nI k)), (5, .int hh), (0, .ref h), (1, .int x), (2, .int (nI c0)), (3, .int wh), (4, .int nu)]) hx hb dX11_find_100 hl (by decide) rfl (fun ls hl => ?_)
            refine lv_aload_n hx hb dX11_find_102 rfl (lv_at hl 4 rfl) ?_
            refine k_mga C G 60 (by decide) mr_60 fl_X11_147 rfl dX11_find_103 ?_
            refine lv_iload hx hb dX11_find_106 (lv_at hl 0 rfl) ?_
            refine lv_if_eq (tgt := 115) hx hb dX11_find_108 (by decide) (fun c_108 => ?_) (fun c_108 => ?_)
            · have n_108 := nb_eq (a := 0) (b := 0) c_108 (by omega) (by omega)
              refine lv_iload hx hb dX11_find_115 (lv_at hl 1 rfl) ?_
              refine lv_if_eq (tgt := 124) hx hb dX11_find_117 (by decide) (fun c_117 => ?_) (fun c_117 => ?_)
              · exact absurd c_117 (by decide)
              · have n_117 := nb_ne (a := 1) (b := 0) c_117 (by omega) (by omega)
                refine lv_iconst (v := 1) hx hb dX11_find_120 (by decide) ?_
                refine lv_goto (tgt := 125) hx hb dX11_find_121 (by decide) ?_
                refine lv_dup2_11 hx hb dX11_find_125 rfl rfl ?_
                refine k_mil (v := (av1_ 60) 1) (i := 1) C G 42 (k := 60) (n := 4) mp_60 (by decide) (by omega) rfl dX11_find_126 ?_
                refine lv_iconst (v := 1) hx hb dX11_find_127 (by decide) ?_
                refine lv_iadd hx hb dX11_find_128 ?_
                refine k_mis (x := ((av1_ 60) 1) + 1) (i := 1) C G 42 (k := 60) (n := 4) mp_60 (by decide) (by omega) dX11_find_129 (fun H locs (G : wd Z A s (mdW Z h ad iv1_ (ua av1_ 60 (upd (av1_ 60) 1 (((av1_ 60) 1) + 1)))) H locs) => ?_)
                refine lv_iconst (v := 0) hx hb dX11_find_130 (by decide) ?_
                refine lv_istore (lv' := [(9, .int 0), (8, .int 0), (7, .int 1), (6, .int (nI k)), (5, .int hh), (0, .ref h), (1, .int x), (2, .int (nI c0)), (3, .int wh), (4, .int nu)]) hx hb dX11_find_131 hl (by decide) rfl (fun ls hl => ?_)
                refine lv_iload hx hb dX11_find_133 (lv_at hl 1 rfl) ?_
                refine lv_if_eq (tgt := 194) hx hb dX11_find_135 (by decide) (fun c_135 => ?_) (fun c_135 => ?_)
                · have n_135 := nb_eq (a := 0) (b := 0) c_135 (by omega) (by omega)
                  refine lv_iinc (v := nI (k + 1)) (lv' := [(6, .int (nI (k + 1))), (9, .int 0), (8, .int 0), (7, .int 1), (5, .int hh), (0, .ref h), (1, .int x), (2, .int (nI c0)), (3, .int wh), (4, .int nu)]) hx hb dX11_find_194 hl (k := 3) rfl (nI_1 _) (by decide) rfl (fun ls hl => ?_)
                  refine lv_goto (tgt := 62) hx hb dX11_find_197 (by decide) ?_
                  exact ih (k + 1) _ iv1_ (ua av1_ 60 (upd (av1_ 60) 1 (((av1_ 60) 1) + 1))) (by omega) (hsI.tr hs1 (by decide)) ((hsA.tr (ha1.mo (by decide)) (fun j hj => hj)).up (k := 60) (by decide) _) hf1 (by rw [← hres, hfk]; show List.foldl _ _ _ = List.foldl _ (fdB (mW ob) c0 wh nu (hh, av 60) (av0 31 k, av0 32 k)) _; rw [fdB, hmw, Option.elim_some, rwC_of (nI p0) N (mV av1_) hc, if_pos (by rw [← r_89_f]; exact c_92)]; show _ = List.foldl _ (hh, upd (av 60) 1 (av 60 1 + 1)) _; rw [← e60]; rfl) _ _ _ G (lv_sub hl [0, 4, 5, 6, 7, 8, 9] rfl)
                · exact absurd c_135 (by decide)
            · exact absurd c_108 (by decide)
          · refine lv_iconst (v := 1) hx hb dX11_find_95 (by decide) ?_
            refine lv_goto (tgt := 100) hx hb dX11_find_96 (by decide) ?_
            refine lv_istore (lv' := [(8, .int 1), (7, .int 1), (6, .int (nI k)), (5, .int hh), (0, .ref h), (1, .int x), (2, .int (nI c0)), (3, .int wh), (4, .int nu)]) hx hb dX11_find_100 hl (by decide) rfl (fun ls hl => ?_)
            refine lv_aload_n hx hb dX11_find_102 rfl (lv_at hl 4 rfl) ?_
            refine k_mga C G 60 (by decide) mr_60 fl_X11_147 rfl dX11_find_103 ?_
            refine lv_iload hx hb dX11_find_106 (lv_at hl 0 rfl) ?_
            refine lv_if_eq (tgt := 115) hx hb dX11_find_108 (by decide) (fun c_108 => ?_) (fun c_108 => ?_)
            · exact absurd c_108 (by decide)
            · have n_108 := nb_ne (a := 1) (b := 0) c_108 (by omega) (by omega)
              refine lv_iconst (v := 0) hx hb dX11_find_111 (by decide) ?_
              refine lv_goto (tgt := 125) hx hb dX11_find_112 (by decide) ?_
              refine lv_dup2_11 hx hb dX11_find_125 rfl rfl ?_
              refine k_mil (v := (av1_ 60) 0) (i := 0) C G 42 (k := 60) (n := 4) mp_60 (by decide) (by omega) rfl dX11_find_126 ?_
              refine lv_iconst (v := 1) hx hb dX11_find_127 (by decide) ?_
              refine lv_iadd hx hb dX11_find_128 ?_
              refine k_mis (x := ((av1_ 60) 0) + 1) (i := 0) C G 42 (k := 60) (n := 4) mp_60 (by decide) (by omega) dX11_find_129 (fun H locs (G : wd Z A s (mdW Z h ad iv1_ (ua av1_ 60 (upd (av1_ 60) 0 (((av1_ 60) 0) + 1)))) H locs) => ?_)
              refine lv_iconst (v := 0) hx hb dX11_find_130 (by decide) ?_
              refine k_topi (y := nI 0) (by rfl) ?_
              refine lv_istore (lv' := [(9, .int (nI 0)), (8, .int 1), (7, .int 1), (6, .int (nI k)), (5, .int hh), (0, .ref h), (1, .int x), (2, .int (nI c0)), (3, .int wh), (4, .int nu)]) hx hb dX11_find_131 hl (by decide) rfl (fun ls hl => ?_)
              refine lp_mfi (iv := iv1_) (av := av1_) (k := k) (h0 := hh) (T0 := upd (av1_ 60) 0 (((av1_ 60) 0) + 1)) C h20 hN48 hc (fun H locs ls G hl => ?_) N 0 hh (upd (av1_ 60) 0 (((av1_ 60) 0) + 1)) (by omega) (by rw [show nI (hitF wh nu (col (mV av1_) c0 0)) = 0 from rfl, Int32.add_zero]) (by
                funext j
                by_cases e : j = 3
                · subst e; rw [pk_us, show sumF wh nu (col (mV av1_) c0 0) = 0 from rfl, Int32.add_zero]
                · rw [pk_un e]) _ _ _ G (lv_sub hl [0, 4, 3, 2, 1, 5, 6, 7, 8, 9] rfl)
              refine lv_iinc (v := nI (k + 1)) (lv' := [(6, .int (nI (k + 1))), (5, .int (hh + nI (hitF wh nu (col (mV av1_) c0 N)))), (0, .ref h), (1, .int x), (2, .int (nI c0)), (3, .int wh), (4, .int nu)]) hx hb dX11_find_194 hl (k := 1) rfl (nI_1 _) (by decide) rfl (fun ls hl => ?_)
              refine lv_goto (tgt := 62) hx hb dX11_find_197 (by decide) ?_
              exact ih (k + 1) _ iv1_ (ua av1_ 60 (upd (upd (av1_ 60) 0 (((av1_ 60) 0) + 1)) 3 ((upd (av1_ 60) 0 (((av1_ 60) 0) + 1)) 3 + sumF wh nu (col (mV av1_) c0 N)))) (by omega) (hsI.tr hs1 (by decide)) ((hsA.tr (ha1.mo (by decide)) (fun j hj => hj)).up (k := 60) (by decide) _) hf1 (by rw [← hres, hfk]; show List.foldl _ _ _ = List.foldl _ (fdB (mW ob) c0 wh nu (hh, av 60) (av0 31 k, av0 32 k)) _; rw [fdB, hmw, Option.elim_some, rwC_of (nI p0) N (mV av1_) hc, if_neg (by rw [← r_89_f]; exact c_92)]; show _ = List.foldl _ (_, upd (upd (av 60) 0 (av 60 0 + 1)) 3 (upd (av 60) 0 (av 60 0 + 1) 3 + _)) _; rw [← e60]; rfl) _ _ _ G (lv_sub hl [0, 1, 2, 3, 4, 5, 6] rfl)
      · subst r_74_e
        refine lv_istore (lv' := [(7, .int 0), (6, .int (nI k)), (5, .int hh), (0, .ref h), (1, .int x), (2, .int (nI c0)), (3, .int wh), (4, .int nu)]) hx hb dX11_find_77 hl (by decide) rfl (fun ls hl => ?_)
        refine lv_iload hx hb dX11_find_79 (lv_at hl 0 rfl) ?_
        refine lv_if_eq (tgt := 99) hx hb dX11_find_81 (by decide) (fun c_81 => ?_) (fun c_81 => ?_)
        · have n_81 := nb_eq (a := 0) (b := 0) c_81 (by omega) (by omega)
          refine lv_iconst (v := 0) hx hb dX11_find_99 (by decide) ?_
          refine lv_istore (lv' := [(8, .int 0), (7, .int 0), (6, .int (nI k)), (5, .int hh), (0, .ref h), (1, .int x), (2, .int (nI c0)), (3, .int wh), (4, .int nu)]) hx hb dX11_find_100 hl (by decide) rfl (fun ls hl => ?_)
          refine lv_aload_n hx hb dX11_find_102 rfl (lv_at hl 4 rfl) ?_
          refine k_mga C G 60 (by decide) mr_60 fl_X11_147 rfl dX11_find_103 ?_
          refine lv_iload hx hb dX11_find_106 (lv_at hl 0 rfl) ?_
          refine lv_if_eq (tgt := 115) hx hb dX11_find_108 (by decide) (fun c_108 => ?_) (fun c_108 => ?_)
          · have n_108 := nb_eq (a := 0) (b := 0) c_108 (by omega) (by omega)
            refine lv_iload hx hb dX11_find_115 (lv_at hl 1 rfl) ?_
            refine lv_if_eq (tgt := 124) hx hb dX11_find_117 (by decide) (fun c_117 => ?_) (fun c_117 => ?_)
            · have n_117 := nb_eq (a := 0) (b := 0) c_117 (by omega) (by omega)
              refine lv_iconst (v := 2) hx hb dX11_find_124 (by decide) ?_
              refine lv_dup2_11 hx hb dX11_find_125 rfl rfl ?_
              refine k_mil (v := (av1_ 60) 2) (i := 2) C G 42 (k := 60) (n := 4) mp_60 (by decide) (by omega) rfl dX11_find_126 ?_
              refine lv_iconst (v := 1) hx hb dX11_find_127 (by decide) ?_
              refine lv_iadd hx hb dX11_find_128 ?_
              refine k_mis (x := ((av1_ 60) 2) + 1) (i := 2) C G 42 (k := 60) (n := 4) mp_60 (by decide) (by omega) dX11_find_129 (fun H locs (G : wd Z A s (mdW Z h ad iv1_ (ua av1_ 60 (upd (av1_ 60) 2 (((av1_ 60) 2) + 1)))) H locs) => ?_)
              refine lv_iconst (v := 0) hx hb dX11_find_130 (by decide) ?_
              refine lv_istore (lv' := [(9, .int 0), (8, .int 0), (7, .int 0), (6, .int (nI k)), (5, .int hh), (0, .ref h), (1, .int x), (2, .int (nI c0)), (3, .int wh), (4, .int nu)]) hx hb dX11_find_131 hl (by decide) rfl (fun ls hl => ?_)
              refine lv_iload hx hb dX11_find_133 (lv_at hl 1 rfl) ?_
              refine lv_if_eq (tgt := 194) hx hb dX11_find_135 (by decide) (fun c_135 => ?_) (fun c_135 => ?_)
              · have n_135 := nb_eq (a := 0) (b := 0) c_135 (by omega) (by omega)
                refine lv_iinc (v := nI (k + 1)) (lv' := [(6, .int (nI (k + 1))), (9, .int 0), (8, .int 0), (7, .int 0), (5, .int hh), (0, .ref h), (1, .int x), (2, .int (nI c0)), (3, .int wh), (4, .int nu)]) hx hb dX11_find_194 hl (k := 3) rfl (nI_1 _) (by decide) rfl (fun ls hl => ?_)
                refine lv_goto (tgt := 62) hx hb dX11_find_197 (by decide) ?_
                exact ih (k + 1) _ iv1_ (ua av1_ 60 (upd (av1_ 60) 2 (((av1_ 60) 2) + 1))) (by omega) (hsI.tr hs1 (by decide)) ((hsA.tr (ha1.mo (by decide)) (fun j hj => hj)).up (k := 60) (by decide) _) hf1 (by rw [← hres, hfk]; show List.foldl _ _ _ = List.foldl _ (fdB (mW ob) c0 wh nu (hh, av 60) (av0 31 k, av0 32 k)) _; rw [fdB, hmw]; show _ = List.foldl _ (hh, upd (av 60) 2 (av 60 2 + 1)) _; rw [← e60]; rfl) _ _ _ G (lv_sub hl [0, 4, 5, 6, 7, 8, 9] rfl)
              · exact absurd c_135 (by decide)
            · exact absurd c_117 (by decide)
          · exact absurd c_108 (by decide)
        · exact absurd c_81 (by decide)
set_option maxRecDepth 100000 in
set_option maxHeartbeats 4000000 in
theorem c_X11_find (Z : zT) (l : Launch) (h : Nat) (ad : Nat → Nat) (iv : ivT) (av : avT) (ob : List obT) (flo x y wh nu : Int32) (ho : mo_ok iv av ob) (hin : mo_in ob) (h13 : iv 13 = flo) (hflo : ¬ flo < 0) (hf14 : ∀ i, fits .byte (.int (av 14 i)) = true) : Ki Z l yX11_find cX11_find 11 (some .int) ({ frames := 6, cells := 0, slots := 0, locals := 200 }) [.ref h, .int x, .int y, .int wh, .int nu] (mdW Z h ad iv av) (fun r u => ∃ (iv2 : ivT) (av2 : avT), u = mdW Z h ad iv2 av2 ∧ sI [15, 16, 17, 18, 19, 20, 26, 30] iv iv2 ∧ sA [14, 21, 22, 23, 24, 25, 27, 28, 29, 31, 32, 60] av av2 ∧ (∀ i, fits .byte (.int (av2 14 i)) = true) ∧ ((((0 ≤ y ∧ y ≤ 2 ∧ 0 ≤ wh ∧ wh ≤ 2) → mVr ob flo x = none) ∧ r = -1 ∧ av2 60 = av 60) ∨ ((0 ≤ y ∧ y ≤ 2 ∧ 0 ≤ wh ∧ wh ≤ 2) ∧ ∃ (F : flT) (c0 : Nat), mVr ob flo x = some F ∧ y = nI c0 ∧ c0 < 3 ∧ (r, av2 60) = F.foldl (fdB (mW ob) c0 wh nu) (0, upd (upd (upd (upd (av 60) 0 0) 1 0) 2 0) 3 0)))) := by
  intro sz
  refine Met.ofK (cc := cX11_find) (maxL := 11) (ret := (some .int)) (by decide) (Nat.le_of_ble_eq_true rfl) ?_
  intro p e s m below meth c ls C G hl
  generalize va_A _ sz = A at G ⊢
  have hx := C.1
  have hb := C.2.1
  have hown := C.2.2.2.2.2.1
  have hts := C.2.2.2.2.2.2.1
  refine lv_iload_n hx hb dX11_find_0 rfl (lv_at hl 1 rfl) ?_
  refine lv_iconst (v := (-1)) hx hb dX11_find_1 (by decide) ?_
  refine lv_icmp_lt (tgt := 31) hx hb dX11_find_2 (by decide) (fun c_2 => ?_) (fun c_2 => ?_)
  · refine lv_iconst (v := (-1)) hx hb dX11_find_31 (by decide) ?_
    exact kr_i C G ⟨iv, av, rfl, sI.rf, sA.rf, hf14, Or.inl ⟨fun _ => mVr_neg hflo (Int32.not_le.mpr c_2), rfl, rfl⟩⟩ (Nat.le_of_ble_eq_true rfl) (Nat.le_of_ble_eq_true rfl) dX11_find_32
  · refine lv_iload_n hx hb dX11_find_5 rfl (lv_at hl 2 rfl) ?_
    refine lv_if_lt (tgt := 31) hx hb dX11_find_6 (by decide) (fun c_6 => ?_) (fun c_6 => ?_)
    · refine lv_iconst (v := (-1)) hx hb dX11_find_31 (by decide) ?_
      exact kr_i C G ⟨iv, av, rfl, sI.rf, sA.rf, hf14, Or.inl ⟨fun z => absurd z.1 (Int32.not_le.mpr c_6), rfl, rfl⟩⟩ (Nat.le_of_ble_eq_true rfl) (Nat.le_of_ble_eq_true rfl) dX11_find_32
    · refine lv_iload_n hx hb dX11_find_9 rfl (lv_at hl 2 rfl) ?_
      refine lv_iconst (v := 2) hx hb dX11_find_10 (by decide) ?_
      refine lv_icmp_gt (tgt := 31) hx hb dX11_find_11 (by decide) (fun c_11 => ?_) (fun c_11 => ?_)
      · refine lv_iconst (v := (-1)) hx hb dX11_find_31 (by decide) ?_
        exact kr_i C G ⟨iv, av, rfl, sI.rf, sA.rf, hf14, Or.inl ⟨fun z => absurd z.2.1 (Int32.not_le.mpr c_11), rfl, rfl⟩⟩ (Nat.le_of_ble_eq_true rfl) (Nat.le_of_ble_eq_true rfl) dX11_find_32
      · refine lv_iload_n hx hb dX11_find_14 rfl (lv_at hl 3 rfl) ?_
        refine lv_if_lt (tgt := 31) hx hb dX11_find_15 (by decide) (fun c_15 => ?_) (fun c_15 => ?_)
        · refine lv_iconst (v := (-1)) hx hb dX11_find_31 (by decide) ?_
          exact kr_i C G ⟨iv, av, rfl, sI.rf, sA.rf, hf14, Or.inl ⟨fun z => absurd z.2.2.1 (Int32.not_le.mpr c_15), rfl, rfl⟩⟩ (Nat.le_of_ble_eq_true rfl) (Nat.le_of_ble_eq_true rfl) dX11_find_32
        · refine lv_iload_n hx hb dX11_find_18 rfl (lv_at hl 3 rfl) ?_
          refine lv_iconst (v := 2) hx hb dX11_find_19 (by decide) ?_
          refine lv_icmp_gt (tgt := 31) hx hb dX11_find_20 (by decide) (fun c_20 => ?_) (fun c_20 => ?_)
          · refine lv_iconst (v := (-1)) hx hb dX11_find_31 (by decide) ?_
            exact kr_i C G ⟨iv, av, rfl, sI.rf, sA.rf, hf14, Or.inl ⟨fun z => absurd z.2.2.2 (Int32.not_le.mpr c_20), rfl, rfl⟩⟩ (Nat.le_of_ble_eq_true rfl) (Nat.le_of_ble_eq_true rfl) dX11_find_32
          · refine lv_aload_n hx hb dX11_find_23 rfl (lv_at hl 0 rfl) ?_
            refine lv_iload_n hx hb dX11_find_24 rfl (lv_at hl 1 rfl) ?_
            refine kcM_i G (krV 1 rfl (As := [.int x]) (rest := []) (ci := 12) (CC := RX11) (T := TX11) (N := 61) C G pmN (c_X11_reads Z l h ad iv av ob flo x ho hin h13 hflo _) (gdV ml_X11_280 im_X11_reads se_X11_reads ii_X11 co_X11_reads) (by decide +kernel) ⟨Nat.le_of_ble_eq_true rfl, Nat.le_of_ble_eq_true rfl⟩ rfl 0 rfl hl rfl (Nat.le_of_ble_eq_true rfl) ⟨Nat.le_of_ble_eq_true rfl, Nat.le_of_ble_eq_true rfl⟩ dX11_find_25) (fun r_25 u H locs hu G => ?_)
            obtain ⟨iv1_, av1_, rfl, hs1, ha1, hcs1⟩ := hu
            rcases hcs1 with ⟨r_25_e, F, hvr, hF⟩ | ⟨r_25_e, hvr⟩
            · subst r_25_e
              have hfl := hF.2.2.1
              refine lv_if_ne (tgt := 33) hx hb dX11_find_28 (by decide) (fun c_28 => ?_) (fun c_28 => ?_)
              · have n_28 := nb_ne (a := 1) (b := 0) c_28 (by omega) (by omega)
                refine lv_iconst (v := 0) hx hb dX11_find_33 (by decide) ?_
                refine lv_istore (lv' := [(5, .int 0), (0, .ref h), (1, .int x), (2, .int y), (3, .int wh), (4, .int nu)]) hx hb dX11_find_34 hl (by decide) rfl (fun ls hl => ?_)
                refine lv_iload hx hb dX11_find_36 (lv_at hl 0 rfl) ?_
                refine lv_iconst (v := 4) hx hb dX11_find_38 (by decide) ?_
                refine lv_icmp_ge (tgt := 56) hx hb dX11_find_39 (by decide) (fun c_39 => ?_) (fun c_39 => ?_)
                · exact absurd c_39 (by decide)
                · have n_39 := nb_nle (a := 4) (b := 0) c_39 (by omega) (by omega)
                  refine lv_aload_n hx hb dX11_find_42 rfl (lv_at hl 1 rfl) ?_
                  refine k_mga C G 60 (by decide) mr_60 fl_X11_147 rfl dX11_find_43 ?_
                  refine lv_iload hx hb dX11_find_46 (lv_at hl 0 rfl) ?_
                  refine lv_iconst (v := 0) hx hb dX11_find_48 (by decide) ?_
                  refine k_topi (y := 0) rfl ?_
                  refine k_mis (x := 0) (i := 0) C G 42 (k := 60) (n := 4) mp_60 (by decide) (by omega) dX11_find_49 (fun H locs (G : wd Z A s (mdW Z h ad iv1_ (ua av1_ 60 (upd (av1_ 60) 0 0))) H locs) => ?_)
                  refine lv_iinc (v := 1) (lv' := [(5, .int 1), (0, .ref h), (1, .int x), (2, .int y), (3, .int wh), (4, .int nu)]) hx hb dX11_find_50 hl (k := 0) rfl (by decide) (by decide) rfl (fun ls hl => ?_)
                  refine lv_goto (tgt := 36) hx hb dX11_find_53 (by decide) ?_
                  refine lv_iload hx hb dX11_find_36 (lv_at hl 0 rfl) ?_
                  refine lv_iconst (v := 4) hx hb dX11_find_38 (by decide) ?_
                  refine lv_icmp_ge (tgt := 56) hx hb dX11_find_39 (by decide) (fun c_39_1 => ?_) (fun c_39_1 => ?_)
                  · exact absurd c_39_1 (by decide)
                  · have n_39_1 := nb_nle (a := 4) (b := 1) c_39_1 (by omega) (by omega)
                    refine lv_aload_n hx hb dX11_find_42 rfl (lv_at hl 1 rfl) ?_
                    refine k_mga C G 60 (by decide) mr_60 fl_X11_147 rfl dX11_find_43 ?_
                    refine lv_iload hx hb dX11_find_46 (lv_at hl 0 rfl) ?_
                    refine lv_iconst (v := 0) hx hb dX11_find_48 (by decide) ?_
                    refine k_topi (y := 0) rfl ?_
                    refine k_mis (x := 0) (i := 1) C G 42 (k := 60) (n := 4) mp_60 (by decide) (by omega) dX11_find_49 (fun H locs (G : wd Z A s (mdW Z h ad iv1_ (ua (ua av1_ 60 (upd (av1_ 60) 0 0)) 60 (upd (upd (av1_ 60) 0 0) 1 0))) H locs) => ?_)
                    refine lv_iinc (v := 2) (lv' := [(5, .int 2), (0, .ref h), (1, .int x), (2, .int y), (3, .int wh), (4, .int nu)]) hx hb dX11_find_50 hl (k := 0) rfl (by decide) (by decide) rfl (fun ls hl => ?_)
                    refine lv_goto (tgt := 36) hx hb dX11_find_53 (by decide) ?_
                    refine lv_iload hx hb dX11_find_36 (lv_at hl 0 rfl) ?_
                    refine lv_iconst (v := 4) hx hb dX11_find_38 (by decide) ?_
                    refine lv_icmp_ge (tgt := 56) hx hb dX11_find_39 (by decide) (fun c_39_2 => ?_) (fun c_39_2 => ?_)
                    · exact absurd c_39_2 (by decide)
                    · have n_39_2 := nb_nle (a := 4) (b := 2) c_39_2 (by omega) (by omega)
                      refine lv_aload_n hx hb dX11_find_42 rfl (lv_at hl 1 rfl) ?_
                      refine k_mga C G 60 (by decide) mr_60 fl_X11_147 rfl dX11_find_43 ?_
                      refine lv_iload hx hb dX11_find_46 (lv_at hl 0 rfl) ?_
                      refine lv_iconst (v := 0) hx hb dX11_find_48 (by decide) ?_
                      refine k_topi (y := 0) rfl ?_
                      refine k_mis (x := 0) (i := 2) C G 42 (k := 60) (n := 4) mp_60 (by decide) (by omega) dX11_find_49 (fun H locs (G : wd Z A s (mdW Z h ad iv1_ (ua (ua (ua av1_ 60 (upd (av1_ 60) 0 0)) 60 (upd (upd (av1_ 60) 0 0) 1 0)) 60 (upd (upd (upd (av1_ 60) 0 0) 1 0) 2 0))) H locs) => ?_)
                      refine lv_iinc (v := 3) (lv' := [(5, .int 3), (0, .ref h), (1, .int x), (2, .int y), (3, .int wh), (4, .int nu)]) hx hb dX11_find_50 hl (k := 0) rfl (by decide) (by decide) rfl (fun ls hl => ?_)
                      refine lv_goto (tgt := 36) hx hb dX11_find_53 (by decide) ?_
                      refine lv_iload hx hb dX11_find_36 (lv_at hl 0 rfl) ?_
                      refine lv_iconst (v := 4) hx hb dX11_find_38 (by decide) ?_
                      refine lv_icmp_ge (tgt := 56) hx hb dX11_find_39 (by decide) (fun c_39_3 => ?_) (fun c_39_3 => ?_)
                      · exact absurd c_39_3 (by decide)
                      · have n_39_3 := nb_nle (a := 4) (b := 3) c_39_3 (by omega) (by omega)
                        refine lv_aload_n hx hb dX11_find_42 rfl (lv_at hl 1 rfl) ?_
                        refine k_mga C G 60 (by decide) mr_60 fl_X11_147 rfl dX11_find_43 ?_
                        refine lv_iload hx hb dX11_find_46 (lv_at hl 0 rfl) ?_
                        refine lv_iconst (v := 0) hx hb dX11_find_48 (by decide) ?_
                        refine k_topi (y := 0) rfl ?_
                        refine k_mis (x := 0) (i := 3) C G 42 (k := 60) (n := 4) mp_60 (by decide) (by omega) dX11_find_49 (fun H locs (G : wd Z A s (mdW Z h ad iv1_ (ua (ua (ua (ua av1_ 60 (upd (av1_ 60) 0 0)) 60 (upd (upd (av1_ 60) 0 0) 1 0)) 60 (upd (upd (upd (av1_ 60) 0 0) 1 0) 2 0)) 60 (upd (upd (upd (upd (av1_ 60) 0 0) 1 0) 2 0) 3 0))) H locs) => ?_)
                        refine lv_iinc (v := 4) (lv' := [(5, .int 4), (0, .ref h), (1, .int x), (2, .int y), (3, .int wh), (4, .int nu)]) hx hb dX11_find_50 hl (k := 0) rfl (by decide) (by decide) rfl (fun ls hl => ?_)
                        refine lv_goto (tgt := 36) hx hb dX11_find_53 (by decide) ?_
                        refine lv_iload hx hb dX11_find_36 (lv_at hl 0 rfl) ?_
                        refine lv_iconst (v := 4) hx hb dX11_find_38 (by decide) ?_
                        refine lv_icmp_ge (tgt := 56) hx hb dX11_find_39 (by decide) (fun c_39_4 => ?_) (fun c_39_4 => ?_)
                        · have n_39_4 := nb_le (a := 4) (b := 4) c_39_4 (by omega) (by omega)
                          refine lv_iconst (v := 0) hx hb dX11_find_56 (by decide) ?_
                          refine lv_istore (lv' := [(5, .int 0), (0, .ref h), (1, .int x), (2, .int y), (3, .int wh), (4, .int nu)]) hx hb dX11_find_57 hl (by decide) rfl (fun ls hl => ?_)
                          refine lv_iconst (v := 0) hx hb dX11_find_59 (by decide) ?_
                          refine k_topi (y := nI 0) (by rfl) ?_
                          refine lv_istore (lv' := [(6, .int (nI 0)), (5, .int 0), (0, .ref h), (1, .int x), (2, .int y), (3, .int wh), (4, .int nu)]) hx hb dX11_find_60 hl (by decide) rfl (fun ls hl => ?_)
                          obtain ⟨c0, hy31, hyn⟩ := nI_of c_6
                          have hc : c0 < 3 := by have h9 := nb_nlt (a := 2) (b := c0) (by rw [← hyn]; exact c_11) (by omega) hy31; omega
                          subst hyn
                          exact lp_mff (iv0 := iv1_) (av0 := (ua (ua (ua (ua av1_ 60 (upd (av1_ 60) 0 0)) 60 (upd (upd (av1_ 60) 0 0) 1 0)) 60 (upd (upd (upd (av1_ 60) 0 0) 1 0) 2 0)) 60 (upd (upd (upd (upd (av1_ 60) 0 0) 1 0) 2 0) 3 0))) (RES := F.foldl (fdB (mW ob) c0 wh nu) (0, upd (upd (upd (upd (av1_ 60) 0 0) 1 0) 2 0) 3 0)) C (mo_ok.same ho hs1 (show sA [14, 21, 22, 23, 24, 25, 27, 28, 29, 31, 32, 60] av (ua (ua (ua (ua av1_ 60 (upd (av1_ 60) 0 0)) 60 (upd (upd (av1_ 60) 0 0) 1 0)) 60 (upd (upd (upd (av1_ 60) 0 0) 1 0) 2 0)) 60 (upd (upd (upd (upd (av1_ 60) 0 0) 1 0) 2 0) 3 0)) from (((((ha1.mo (by decide)).up (by decide) _).up (by decide) _).up (by decide) _).up (by decide) _)) (by decide) (by decide) (by decide) (by decide) (by decide) (by decide)) ⟨hF.1, hF.2⟩ hc (fun iv2 av2 a1 a2 a3 r a4 => ⟨iv2, av2, rfl, (hs1.mo (by decide)).tr a1 (by decide), (show sA [14, 21, 22, 23, 24, 25, 27, 28, 29, 31, 32, 60] av (ua (ua (ua (ua av1_ 60 (upd (av1_ 60) 0 0)) 60 (upd (upd (av1_ 60) 0 0) 1 0)) 60 (upd (upd (upd (av1_ 60) 0 0) 1 0) 2 0)) 60 (upd (upd (upd (upd (av1_ 60) 0 0) 1 0) 2 0) 3 0)) from (((((ha1.mo (by decide)).up (by decide) _).up (by decide) _).up (by decide) _).up (by decide) _)).tr a2 (by decide), a3, Or.inr ⟨⟨Int32.not_lt.mp c_6, Int32.not_lt.mp c_11, Int32.not_lt.mp c_15, Int32.not_lt.mp c_20⟩, F, c0, hvr, rfl, hc, by rw [← a4, ha1 60 (by decide)]⟩⟩) F.length 0 0 iv1_ (ua (ua (ua (ua av1_ 60 (upd (av1_ 60) 0 0)) 60 (upd (upd (av1_ 60) 0 0) 1 0)) 60 (upd (upd (upd (av1_ 60) 0 0) 1 0) 2 0)) 60 (upd (upd (upd (upd (av1_ 60) 0 0) 1 0) 2 0) 3 0)) (by omega) sI.rf sA.rf (by show ∀ i, fits .byte (.int (av1_ 14 i)) = true; rw [ha1 14 (by decide)]; exact hf14) rfl _ _ _ G (lv_sub hl [0, 1, 2, 3, 4, 5, 6] rfl)
                        · exact absurd c_39_4 (by decide)
              · exact absurd c_28 (by decide)
            · subst r_25_e
              refine lv_if_ne (tgt := 33) hx hb dX11_find_28 (by decide) (fun c_28 => ?_) (fun c_28 => ?_)
              · exact absurd c_28 (by decide)
              · have n_28 := nb_eq (a := 0) (b := 0) c_28 (by omega) (by omega)
                refine lv_iconst (v := (-1)) hx hb dX11_find_31 (by decide) ?_
                exact kr_i C G ⟨_, _, rfl, hs1.mo (by decide), ha1.mo (by decide), by rw [ha1 14 (by decide)]; exact hf14, Or.inl ⟨fun _ => hvr, rfl, ha1 60 (by decide)⟩⟩ (Nat.le_of_ble_eq_true rfl) (Nat.le_of_ble_eq_true rfl) dX11_find_32
