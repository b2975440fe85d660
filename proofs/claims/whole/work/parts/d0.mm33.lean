/-! MODEL (X11): vacuum, more loops. -/
set_option maxRecDepth 100000 in
set_option maxHeartbeats 4000000 in
theorem lp_mva1 {p : Program} {l : Launch} {e : Env} {s : State} {m : MethodId} {args : Array Value} {below : List Frame} {meth : Method} {c : Code} {Z : zT} {A : Nat → Prop} {h : Nat} {ad : Nat → Nat} {iv0 : ivT} {av0 : avT} {ob : List obT} {flo x : Int32} {nw o0 : Nat} {post : Int32 → va_W → Prop} (C : cx p s m args meth c cX11_vacuum 8 (some .int) RX11 "vacuum") (ho : mo_ok iv0 av0 ob) (hin : mo_in ob) (h13 : iv0 13 = flo) (hflo : ¬ flo < 0) (hnw : nw < 2 ^ 20) (hpf : ∀ (iv : ivT) (av : avT), sI [16, 17, 18, 26, 30] iv0 iv → sA [27, 28, 29, 31, 32] av0 av → (∃ w, o0 ≤ w ∧ w ≤ nw ∧ mVr ob flo (nI w) = none) → post (-1) (mdW Z h ad iv av)) (kk : ∀ (iv : ivT) (av : avT), sI [16, 17, 18, 26, 30] iv0 iv → sA [27, 28, 29, 31, 32] av0 av → (∀ w, o0 ≤ w → w ≤ nw → ¬ mVr ob flo (nI w) = none) →  ∀ (H : Heap) (locs : List Loc) (ls : Array Slot), wd Z A s (mdW Z h ad iv av) H locs → lv_has ls 8 [(0, .ref h), (1, .int x), (2, .int (nI nw)), (3, .int (nI o0))] → W p l e ({ frames := 7, cells := 0, slots := 0, locals := 200 }) s m args below meth c H locs 0 0 (MQ below (va_Qi post (mB Z A) A) args s 0 0 A) (F0 m 70 ls [])) : ∀ (n v : Nat) (iv : ivT) (av : avT), v + n = nw + 1 → o0 ≤ v → sI [16, 17, 18, 26, 30] iv0 iv → sA [27, 28, 29, 31, 32] av0 av → (∀ w, o0 ≤ w → w < v → ¬ mVr ob flo (nI w) = none) →  ∀ (H : Heap) (locs : List Loc) (ls : Array Slot), wd Z A s (mdW Z h ad iv av) H locs → lv_has ls 8 [(4, .int (nI v)), (0, .ref h), (1, .int x), (2, .int (nI nw)), (3, .int (nI o0))] → W p l e ({ frames := 7, cells := 0, slots := 0, locals := 200 }) s m args below meth c H locs 0 0 (MQ below (va_Qi post (mB Z A) A) args s 0 0 A) (F0 m 47 ls []) := by
  have hx := C.1
  have hb := C.2.1
  have hown := C.2.2.2.2.2.1
  have hts := C.2.2.2.2.2.2.1
  intro n
  induction n with
  | zero =>
    intro v iv av hv ho0 hsI hsA hal H locs ls G hl
    refine lv_iload hx hb dX11_vacuum_47 (lv_at hl 0 rfl) ?_
    refine lv_iload_n hx hb dX11_vacuum_49 rfl (lv_at hl 3 rfl) ?_
    refine lv_icmp_gt (tgt := 70) hx hb dX11_vacuum_50 (by decide) (fun c_50 => ?_) (fun c_50 => ?_)
    · have n_50 := nb_lt (a := nw) (b := v) c_50 (by omega) (by omega)
      have hv1 : v = nw + 1 := by omega
      subst hv1
      exact kk iv av hsI hsA (fun w a b => hal w a (by omega)) _ _ _ G (lv_sub hl [1, 2, 3, 4] rfl)
    · exact absurd (nb_nlt (a := nw) (b := v) c_50 (by omega) (by omega)) (by omega)
  | succ n ih =>
    intro v iv av hv ho0 hsI hsA hal H locs ls G hl
    have hok : mo_ok iv av ob := ho.same hsI hsA (by decide) (by decide) (by decide) (by decide) (by decide) (by decide)
    have h13v : iv 13 = flo := (hsI 13 (by decide)).trans h13
    refine lv_iload hx hb dX11_vacuum_47 (lv_at hl 0 rfl) ?_
    refine lv_iload_n hx hb dX11_vacuum_49 rfl (lv_at hl 3 rfl) ?_
    refine lv_icmp_gt (tgt := 70) hx hb dX11_vacuum_50 (by decide) (fun c_50 => ?_) (fun c_50 => ?_)
    · exact absurd (nb_lt (a := nw) (b := v) c_50 (by omega) (by omega)) (by omega)
    · have n_50 := nb_nlt (a := nw) (b := v) c_50 (by omega) (by omega)
      refine lv_aload_n hx hb dX11_vacuum_53 rfl (lv_at hl 1 rfl) ?_
      refine lv_iload hx hb dX11_vacuum_54 (lv_at hl 0 rfl) ?_
      refine kcM_i G (krV 1 rfl (As := [.int (nI v)]) (rest := []) (ci := 12) (CC := RX11) (T := TX11) (N := 61) C G pmN (c_X11_reads Z l h ad iv av ob flo (nI v) hok hin h13v hflo _) (gdV ml_X11_280 im_X11_reads se_X11_reads ii_X11 co_X11_reads) (by decide +kernel) ⟨Nat.le_of_ble_eq_true rfl, Nat.le_of_ble_eq_true rfl⟩ rfl 0 rfl hl rfl (Nat.le_of_ble_eq_true rfl) ⟨Nat.le_of_ble_eq_true rfl, Nat.le_of_ble_eq_true rfl⟩ dX11_vacuum_56) (fun r_56 u H locs hu G => ?_)
      obtain ⟨iv1_, av1_, rfl, hs1, ha1, hcs1⟩ := hu
      rcases hcs1 with ⟨r_56_e, F, hvr, hF⟩ | ⟨r_56_e, hvr⟩
      · subst r_56_e
        have hfl := hF.2.2.1
        refine lv_if_ne (tgt := 64) hx hb dX11_vacuum_59 (by decide) (fun c_59 => ?_) (fun c_59 => ?_)
        · have n_59 := nb_ne (a := 1) (b := 0) c_59 (by omega) (by omega)
          refine lv_iinc (v := nI (v + 1)) (lv' := [(4, .int (nI (v + 1))), (0, .ref h), (1, .int x), (2, .int (nI nw)), (3, .int (nI o0))]) hx hb dX11_vacuum_64 hl (k := 0) rfl (nI_1 _) (by decide) rfl (fun ls hl => ?_)
          refine lv_goto (tgt := 47) hx hb dX11_vacuum_67 (by decide) ?_
          exact ih (v + 1) iv1_ av1_ (by omega) (by omega) (hsI.tr hs1 (fun j hj => hj)) (hsA.tr ha1 (fun j hj => hj)) (fun w a b => by
            rcases Nat.lt_or_ge w v with e | e
            · exact hal w a e
            · rw [show w = v by omega, hvr]; exact fun z => by cases z) _ _ _ G (lv_sub hl [0, 1, 2, 3, 4] rfl)
        · exact absurd c_59 (by decide)
      · subst r_56_e
        refine lv_if_ne (tgt := 64) hx hb dX11_vacuum_59 (by decide) (fun c_59 => ?_) (fun c_59 => ?_)
        · exact absurd c_59 (by decide)
        · have n_59 := nb_eq (a := 0) (b := 0) c_59 (by omega) (by omega)
          refine lv_iconst (v := (-1)) hx hb dX11_vacuum_62 (by decide) ?_
          exact kr_i C G (hpf _ _ (hsI.tr hs1 (fun j hj => hj)) (hsA.tr ha1 (fun j hj => hj)) ⟨v, by omega, by omega, hvr⟩) (Nat.le_of_ble_eq_true rfl) (Nat.le_of_ble_eq_true rfl) dX11_vacuum_63
set_option maxRecDepth 100000 in
set_option maxHeartbeats 4000000 in
theorem lp_mva2 {p : Program} {l : Launch} {e : Env} {s : State} {m : MethodId} {args : Array Value} {below : List Frame} {meth : Method} {c : Code} {Z : zT} {A : Nat → Prop} {Q : State → Prop} {h : Nat} {ad : Nat → Nat} {iv : ivT} {av : avT} {x lat v3 v0 : Int32} (C : cx p s m args meth c cX11_vacuum 8 (some .int) RX11 "vacuum") (kk : ∀ (T : Nat → Int32), (∀ j, j < 100 → T j = 0) →  ∀ (H : Heap) (locs : List Loc) (ls : Array Slot), wd Z A s (mdW Z h ad iv (ua av 59 T)) H locs → lv_has ls 8 [(0, .ref h), (1, .int x), (2, .int lat), (3, .int v3), (5, .int v0)] → W p l e ({ frames := 7, cells := 0, slots := 0, locals := 200 }) s m args below meth c H locs 0 0 Q (F0 m 233 ls [])) : ∀ (n i : Nat) (T : Nat → Int32), i + n = 100 → (∀ j, j < i → T j = 0) →  ∀ (H : Heap) (locs : List Loc) (ls : Array Slot), wd Z A s (mdW Z h ad iv (ua av 59 T)) H locs → lv_has ls 8 [(6, .int (nI i)), (0, .ref h), (1, .int x), (2, .int lat), (3, .int v3), (5, .int v0)] → W p l e ({ frames := 7, cells := 0, slots := 0, locals := 200 }) s m args below meth c H locs 0 0 Q (F0 m 212 ls []) := by
  have hx := C.1
  have hb := C.2.1
  have hown := C.2.2.2.2.2.1
  have hts := C.2.2.2.2.2.2.1
  intro n
  induction n with
  | zero =>
    intro i T hi hT H locs ls G hl
    refine lv_iload hx hb dX11_vacuum_212 (lv_at hl 0 rfl) ?_
    refine lv_bipush (v := 100) hx hb dX11_vacuum_214 (by decide) ?_
    refine lv_icmp_ge (tgt := 233) hx hb dX11_vacuum_216 (by decide) (fun c_216 => ?_) (fun c_216 => ?_)
    · have n_216 := nb_le (a := 100) (b := i) c_216 (by omega) (by omega)
      have hi1 : i = 100 := by omega
      subst hi1
      exact kk T hT _ _ _ G (lv_sub hl [1, 2, 3, 4, 5] rfl)
    · exact absurd (nb_nle (a := 100) (b := i) c_216 (by omega) (by omega)) (by omega)
  | succ n ih =>
    intro i T hi hT H locs ls G hl
    refine lv_iload hx hb dX11_vacuum_212 (lv_at hl 0 rfl) ?_
    refine lv_bipush (v := 100) hx hb dX11_vacuum_214 (by decide) ?_
    refine lv_icmp_ge (tgt := 233) hx hb dX11_vacuum_216 (by decide) (fun c_216 => ?_) (fun c_216 => ?_)
    · exact absurd (nb_le (a := 100) (b := i) c_216 (by omega) (by omega)) (by omega)
    · have n_216 := nb_nle (a := 100) (b := i) c_216 (by omega) (by omega)
      refine lv_aload_n hx hb dX11_vacuum_219 rfl (lv_at hl 1 rfl) ?_
      refine k_mga C G 59 (by decide) mr_59 fl_X11_144 rfl dX11_vacuum_220 ?_
      refine lv_iload hx hb dX11_vacuum_223 (lv_at hl 0 rfl) ?_
      refine lv_iconst (v := 0) hx hb dX11_vacuum_225 (by decide) ?_
      refine k_mzs (x := 0) (i := i) C G 41 (k := 59) (n := 100) mp_59 (by decide) (by omega) (by decide) dX11_vacuum_226 (fun H locs (G : wd Z A s (mdW Z h ad iv (ua (ua av 59 T) 59 (upd T i 0))) H locs) => ?_)
      refine lv_iinc (v := nI (i + 1)) (lv' := [(6, .int (nI (i + 1))), (0, .ref h), (1, .int x), (2, .int lat), (3, .int v3), (5, .int v0)]) hx hb dX11_vacuum_227 hl (k := 0) rfl (nI_1 _) (by decide) rfl (fun ls hl => ?_)
      refine lv_goto (tgt := 212) hx hb dX11_vacuum_230 (by decide) ?_
      rw [ua_ua] at G
      exact ih (i + 1) _ (by omega) (fun j hj => by
        by_cases e : j = i
        · subst e; exact pk_us
        · rw [pk_un e]; exact hT j (by omega)) _ _ _ G (lv_sub hl [0, 1, 2, 3, 4, 5] rfl)
set_option maxRecDepth 100000 in
set_option maxHeartbeats 4000000 in
theorem lp_mvn1 {p : Program} {l : Launch} {e : Env} {s : State} {m : MethodId} {args : Array Value} {below : List Frame} {meth : Method} {c : Code} {Z : zT} {A : Nat → Prop} {Q : State → Prop} {h : Nat} {ad : Nat → Nat} {iv : ivT} {av0 : avT} {ob : List obT} {NL0 : List Int32} {g : Nat → Int32} {cn : Nat} {x lat v3 v0 : Int32} {v : Nat} (C : cx p s m args meth c cX11_vacuum 8 (some .int) RX11 "vacuum") (ho : mo_ok iv av0 ob) (hnn : mo_nd ob) (hcn : cn ≤ 200) (h30 : iv 30 = nI cn) (hg : ∀ (av : avT), sA [59] av0 av → ∀ t, t < cn → av 31 t = g t) (kk : ∀ (av : avT), sA [59] av0 av → nd_at av ob (NL0 ++ (List.range cn).map g) →  ∀ (H : Heap) (locs : List Loc) (ls : Array Slot), wd Z A s (mdW Z h ad iv av) H locs → lv_has ls 8 [(0, .ref h), (1, .int x), (2, .int lat), (3, .int v3), (5, .int v0), (6, .int (nI v))] → W p l e ({ frames := 7, cells := 0, slots := 0, locals := 200 }) s m args below meth c H locs 0 0 Q (F0 m 279 ls [])) : ∀ (n t : Nat) (av : avT), t + n = cn → sA [59] av0 av → nd_at av ob (NL0 ++ (List.range t).map g) →  ∀ (H : Heap) (locs : List Loc) (ls : Array Slot), wd Z A s (mdW Z h ad iv av) H locs → lv_has ls 8 [(7, .int (nI t)), (0, .ref h), (1, .int x), (2, .int lat), (3, .int v3), (5, .int v0), (6, .int (nI v))] → W p l e ({ frames := 7, cells := 0, slots := 0, locals := 200 }) s m args below meth c H locs 0 0 Q (F0 m 253 ls []) := by
  have hx := C.1
  have hb := C.2.1
  have hown := C.2.2.2.2.2.1
  have hts := C.2.2.2.2.2.2.1
  intro n
  induction n with
  | zero =>
    intro t av ht hsA hnd H locs ls G hl
    refine lv_iload hx hb dX11_vacuum_253 (lv_at hl 0 rfl) ?_
    refine lv_aload_n hx hb dX11_vacuum_255 rfl (lv_at hl 1 rfl) ?_
    refine k_mgi (v := nI cn) C G 30 (by decide) mr_30 h30 fl_X11_245 rfl dX11_vacuum_256 ?_
    refine lv_icmp_ge (tgt := 279) hx hb dX11_vacuum_259 (by decide) (fun c_259 => ?_) (fun c_259 => ?_)
    · have n_259 := nb_le (a := cn) (b := t) c_259 (by omega) (by omega)
      have ht1 : t = cn := by omega
      subst ht1
      exact kk av hsA hnd _ _ _ G (lv_sub hl [1, 2, 3, 4, 5, 6] rfl)
    · exact absurd (nb_nle (a := cn) (b := t) c_259 (by omega) (by omega)) (by omega)
  | succ n ih =>
    intro t av ht hsA hnd H locs ls G hl
    have hok : mo_ok iv av ob := ho.same (L := []) sI.rf hsA (by decide) (by decide) (by decide) (by decide) (by decide) (by decide)
    refine lv_iload hx hb dX11_vacuum_253 (lv_at hl 0 rfl) ?_
    refine lv_aload_n hx hb dX11_vacuum_255 rfl (lv_at hl 1 rfl) ?_
    refine k_mgi (v := nI cn) C G 30 (by decide) mr_30 h30 fl_X11_245 rfl dX11_vacuum_256 ?_
    refine lv_icmp_ge (tgt := 279) hx hb dX11_vacuum_259 (by decide) (fun c_259 => ?_) (fun c_259 => ?_)
    · exact absurd (nb_le (a := cn) (b := t) c_259 (by omega) (by omega)) (by omega)
    · have n_259 := nb_nle (a := cn) (b := t) c_259 (by omega) (by omega)
      refine lv_aload_n hx hb dX11_vacuum_262 rfl (lv_at hl 1 rfl) ?_
      refine lv_aload_n hx hb dX11_vacuum_263 rfl (lv_at hl 1 rfl) ?_
      refine k_mga C G 31 (by decide) mr_31 fl_X11_59 rfl dX11_vacuum_264 ?_
      refine lv_iload hx hb dX11_vacuum_267 (lv_at hl 0 rfl) ?_
      refine k_mil (v := g t) (i := t) C G 13 (k := 31) (n := 260) mp_31 (by decide) (by omega) (hg av hsA t (by omega)) dX11_vacuum_269 ?_
      refine kcM_v G (krV 1 rfl (As := [.int (g t)]) (rest := []) (ci := 12) (CC := RX11) (T := TX11) (N := 61) C G pmN (c_X11_needs Z l h ad iv av ob (g t) hok _) (gdV ml_X11_342 im_X11_needs se_X11_needs ii_X11 co_X11_needs) (by decide +kernel) ⟨Nat.le_of_ble_eq_true rfl, Nat.le_of_ble_eq_true rfl⟩ rfl 0 rfl hl rfl (Nat.le_of_ble_eq_true rfl) ⟨Nat.le_of_ble_eq_true rfl, Nat.le_of_ble_eq_true rfl⟩ dX11_vacuum_270) (fun u H locs hu G => ?_)
      subst hu
      refine lv_iinc (v := nI (t + 1)) (lv' := [(7, .int (nI (t + 1))), (0, .ref h), (1, .int x), (2, .int lat), (3, .int v3), (5, .int v0), (6, .int (nI v))]) hx hb dX11_vacuum_273 hl (k := 0) rfl (nI_1 _) (by decide) rfl (fun ls hl => ?_)
      refine lv_goto (tgt := 253) hx hb dX11_vacuum_276 (by decide) ?_
      exact ih (t + 1) (ndA ob av (g t)) (by omega) (fun j hj => (ndA_59 j (fun z => hj (by rw [z]; exact List.mem_singleton.mpr rfl))).trans (hsA j hj)) (by rw [List.range_succ, List.map_append, ← List.append_assoc]; exact nd_s hnn hnd) _ _ _ G (lv_sub hl [0, 1, 2, 3, 4, 5, 6] rfl)
set_option maxRecDepth 100000 in
set_option maxHeartbeats 4000000 in
theorem lp_mvn2 {p : Program} {l : Launch} {e : Env} {s : State} {m : MethodId} {args : Array Value} {below : List Frame} {meth : Method} {c : Code} {Z : zT} {A : Nat → Prop} {Q : State → Prop} {h : Nat} {ad : Nat → Nat} {iv : ivT} {av0 : avT} {ob : List obT} {NL0 : List Int32} {g : Nat → Int32} {cn : Nat} {x lat v3 v0 : Int32} {wj : Nat} (C : cx p s m args meth c cX11_vacuum 8 (some .int) RX11 "vacuum") (ho : mo_ok iv av0 ob) (hnn : mo_nd ob) (hcn : cn ≤ 200) (hwj : wj < 4) (h53 : av0 53 wj = nI cn) (hg : ∀ (av : avT), sA [59] av0 av → ∀ t, t < cn → av 52 (200 * wj + t) = g t) (kk : ∀ (av : avT), sA [59] av0 av → nd_at av ob (NL0 ++ (List.range cn).map g) →  ∀ (H : Heap) (locs : List Loc) (ls : Array Slot), wd Z A s (mdW Z h ad iv av) H locs → lv_has ls 8 [(0, .ref h), (1, .int x), (2, .int lat), (3, .int v3), (5, .int v0), (6, .int (nI wj))] → W p l e ({ frames := 7, cells := 0, slots := 0, locals := 200 }) s m args below meth c H locs 0 0 Q (F0 m 346 ls [])) : ∀ (n t : Nat) (av : avT), t + n = cn → sA [59] av0 av → nd_at av ob (NL0 ++ (List.range t).map g) →  ∀ (H : Heap) (locs : List Loc) (ls : Array Slot), wd Z A s (mdW Z h ad iv av) H locs → lv_has ls 8 [(7, .int (nI t)), (0, .ref h), (1, .int x), (2, .int lat), (3, .int v3), (5, .int v0), (6, .int (nI wj))] → W p l e ({ frames := 7, cells := 0, slots := 0, locals := 200 }) s m args below meth c H locs 0 0 Q (F0 m 310 ls []) := by
  have hx := C.1
  have hb := C.2.1
  have hown := C.2.2.2.2.2.1
  have hts := C.2.2.2.2.2.2.1
  intro n
  induction n with
  | zero =>
    intro t av ht hsA hnd H locs ls G hl
    refine lv_iload hx hb dX11_vacuum_310 (lv_at hl 0 rfl) ?_
    refine lv_aload_n hx hb dX11_vacuum_312 rfl (lv_at hl 1 rfl) ?_
    refine k_mga C G 53 (by decide) mr_53 fl_X11_126 rfl dX11_vacuum_313 ?_
    refine lv_iload hx hb dX11_vacuum_316 (lv_at hl 6 rfl) ?_
    refine k_mil (v := nI cn) (i := wj) C G 35 (k := 53) (n := 4) mp_53 (by decide) (by omega) (by rw [hsA 53 (by decide)]; exact h53) dX11_vacuum_318 ?_
    refine lv_icmp_ge (tgt := 346) hx hb dX11_vacuum_319 (by decide) (fun c_319 => ?_) (fun c_319 => ?_)
    · have n_319 := nb_le (a := cn) (b := t) c_319 (by omega) (by omega)
      have ht1 : t = cn := by omega
      subst ht1
      exact kk av hsA hnd _ _ _ G (lv_sub hl [1, 2, 3, 4, 5, 6] rfl)
    · exact absurd (nb_nle (a := cn) (b := t) c_319 (by omega) (by omega)) (by omega)
  | succ n ih =>
    intro t av ht hsA hnd H locs ls G hl
    have hok : mo_ok iv av ob := ho.same (L := []) sI.rf hsA (by decide) (by decide) (by decide) (by decide) (by decide) (by decide)
    refine lv_iload hx hb dX11_vacuum_310 (lv_at hl 0 rfl) ?_
    refine lv_aload_n hx hb dX11_vacuum_312 rfl (lv_at hl 1 rfl) ?_
    refine k_mga C G 53 (by decide) mr_53 fl_X11_126 rfl dX11_vacuum_313 ?_
    refine lv_iload hx hb dX11_vacuum_316 (lv_at hl 6 rfl) ?_
    refine k_mil (v := nI cn) (i := wj) C G 35 (k := 53) (n := 4) mp_53 (by decide) (by omega) (by rw [hsA 53 (by decide)]; exact h53) dX11_vacuum_318 ?_
    refine lv_icmp_ge (tgt := 346) hx hb dX11_vacuum_319 (by decide) (fun c_319 => ?_) (fun c_319 => ?_)
    · exact absurd (nb_le (a := cn) (b := t) c_319 (by omega) (by omega)) (by omega)
    · have n_319 := nb_nle (a := cn) (b := t) c_319 (by omega) (by omega)
      refine lv_aload_n hx hb dX11_vacuum_322 rfl (lv_at hl 1 rfl) ?_
      refine lv_aload_n hx hb dX11_vacuum_323 rfl (lv_at hl 1 rfl) ?_
      refine k_mga C G 52 (by decide) mr_52 fl_X11_123 rfl dX11_vacuum_324 ?_
      refine lv_sipush (v := 200) hx hb dX11_vacuum_327 (by decide) ?_
      refine lv_iload hx hb dX11_vacuum_330 (lv_at hl 6 rfl) ?_
      refine lv_imul hx hb dX11_vacuum_332 ?_
      refine k_topi (y := nI (200 * wj)) (pk_mul 200 wj) ?_
      refine lv_iload hx hb dX11_vacuum_333 (lv_at hl 0 rfl) ?_
      refine lv_iadd hx hb dX11_vacuum_335 ?_
      refine k_topi (y := nI (200 * wj + t)) (nI_add (200 * wj) t) ?_
      refine k_mil (v := g t) (i := 200 * wj + t) C G 34 (k := 52) (n := 800) mp_52 (by decide) (by omega) (hg av hsA t (by omega)) dX11_vacuum_336 ?_
      refine kcM_v G (krV 1 rfl (As := [.int (g t)]) (rest := []) (ci := 12) (CC := RX11) (T := TX11) (N := 61) C G pmN (c_X11_needs Z l h ad iv av ob (g t) hok _) (gdV ml_X11_342 im_X11_needs se_X11_needs ii_X11 co_X11_needs) (by decide +kernel) ⟨Nat.le_of_ble_eq_true rfl, Nat.le_of_ble_eq_true rfl⟩ rfl 0 rfl hl rfl (Nat.le_of_ble_eq_true rfl) ⟨Nat.le_of_ble_eq_true rfl, Nat.le_of_ble_eq_true rfl⟩ dX11_vacuum_337) (fun u H locs hu G => ?_)
      subst hu
      refine lv_iinc (v := nI (t + 1)) (lv' := [(7, .int (nI (t + 1))), (0, .ref h), (1, .int x), (2, .int lat), (3, .int v3), (5, .int v0), (6, .int (nI wj))]) hx hb dX11_vacuum_340 hl (k := 0) rfl (nI_1 _) (by decide) rfl (fun ls hl => ?_)
      refine lv_goto (tgt := 310) hx hb dX11_vacuum_343 (by decide) ?_
      exact ih (t + 1) (ndA ob av (g t)) (by omega) (fun j hj => (ndA_59 j (fun z => hj (by rw [z]; exact List.mem_singleton.mpr rfl))).trans (hsA j hj)) (by rw [List.range_succ, List.map_append, ← List.append_assoc]; exact nd_s hnn hnd) _ _ _ G (lv_sub hl [0, 1, 2, 3, 4, 5, 6] rfl)
set_option maxRecDepth 100000 in
set_option maxHeartbeats 4000000 in
theorem lp_mvn3 {p : Program} {l : Launch} {e : Env} {s : State} {m : MethodId} {args : Array Value} {below : List Frame} {meth : Method} {c : Code} {Z : zT} {A : Nat → Prop} {Q : State → Prop} {h : Nat} {ad : Nat → Nat} {iv : ivT} {av0 : avT} {ob : List obT} {NL0 : List Int32} {g : Nat → Int32} {cn : Nat} {x lat v3 v0 : Int32} {wj : Nat} (C : cx p s m args meth c cX11_vacuum 8 (some .int) RX11 "vacuum") (ho : mo_ok iv av0 ob) (hnn : mo_nd ob) (hcn : cn ≤ 200) (hwj : wj < 4) (h56 : av0 56 wj = nI cn) (hg : ∀ (av : avT), sA [59] av0 av → ∀ t, t < cn → av 57 (200 * wj + t) = g t) (kk : ∀ (av : avT), sA [59] av0 av → nd_at av ob (NL0 ++ (List.range cn).map g) →  ∀ (H : Heap) (locs : List Loc) (ls : Array Slot), wd Z A s (mdW Z h ad iv av) H locs → lv_has ls 8 [(0, .ref h), (1, .int x), (2, .int lat), (3, .int v3), (5, .int v0), (6, .int (nI wj))] → W p l e ({ frames := 7, cells := 0, slots := 0, locals := 200 }) s m args below meth c H locs 0 0 Q (F0 m 385 ls [])) : ∀ (n t : Nat) (av : avT), t + n = cn → sA [59] av0 av → nd_at av ob (NL0 ++ (List.range t).map g) →  ∀ (H : Heap) (locs : List Loc) (ls : Array Slot), wd Z A s (mdW Z h ad iv av) H locs → lv_has ls 8 [(7, .int (nI t)), (0, .ref h), (1, .int x), (2, .int lat), (3, .int v3), (5, .int v0), (6, .int (nI wj))] → W p l e ({ frames := 7, cells := 0, slots := 0, locals := 200 }) s m args below meth c H locs 0 0 Q (F0 m 349 ls []) := by
  have hx := C.1
  have hb := C.2.1
  have hown := C.2.2.2.2.2.1
  have hts := C.2.2.2.2.2.2.1
  intro n
  induction n with
  | zero =>
    intro t av ht hsA hnd H locs ls G hl
    refine lv_iload hx hb dX11_vacuum_349 (lv_at hl 0 rfl) ?_
    refine lv_aload_n hx hb dX11_vacuum_351 rfl (lv_at hl 1 rfl) ?_
    refine k_mga C G 56 (by decide) mr_56 fl_X11_135 rfl dX11_vacuum_352 ?_
    refine lv_iload hx hb dX11_vacuum_355 (lv_at hl 6 rfl) ?_
    refine k_mil (v := nI cn) (i := wj) C G 38 (k := 56) (n := 4) mp_56 (by decide) (by omega) (by rw [hsA 56 (by decide)]; exact h56) dX11_vacuum_357 ?_
    refine lv_icmp_ge (tgt := 385) hx hb dX11_vacuum_358 (by decide) (fun c_358 => ?_) (fun c_358 => ?_)
    · have n_358 := nb_le (a := cn) (b := t) c_358 (by omega) (by omega)
      have ht1 : t = cn := by omega
      subst ht1
      exact kk av hsA hnd _ _ _ G (lv_sub hl [1, 2, 3, 4, 5, 6] rfl)
    · exact absurd (nb_nle (a := cn) (b := t) c_358 (by omega) (by omega)) (by omega)
  | succ n ih =>
    intro t av ht hsA hnd H locs ls G hl
    have hok : mo_ok iv av ob := ho.same (L := []) sI.rf hsA (by decide) (by decide) (by decide) (by decide) (by decide) (by decide)
    refine lv_iload hx hb dX11_vacuum_349 (lv_at hl 0 rfl) ?_
    refine lv_aload_n hx hb dX11_vacuum_351 rfl (lv_at hl 1 rfl) ?_
    refine k_mga C G 56 (by decide) mr_56 fl_X11_135 rfl dX11_vacuum_352 ?_
    refine lv_iload hx hb dX11_vacuum_355 (lv_at hl 6 rfl) ?_
    refine k_mil (v := nI cn) (i := wj) C G 38 (k := 56) (n := 4) mp_56 (by decide) (by omega) (by rw [hsA 56 (by decide)]; exact h56) dX11_vacuum_357 ?_
    refine lv_icmp_ge (tgt := 385) hx hb dX11_vacuum_358 (by decide) (fun c_358 => ?_) (fun c_358 => ?_)
    · exact absurd (nb_le (a := cn) (b := t) c_358 (by omega) (by omega)) (by omega)
    · have n_358 := nb_nle (a := cn) (b := t) c_358 (by omega) (by omega)
      refine lv_aload_n hx hb dX11_vacuum_361 rfl (lv_at hl 1 rfl) ?_
      refine lv_aload_n hx hb dX11_vacuum_362 rfl (lv_at hl 1 rfl) ?_
      refine k_mga C G 57 (by decide) mr_57 fl_X11_138 rfl dX11_vacuum_363 ?_
      refine lv_sipush (v := 200) hx hb dX11_vacuum_366 (by decide) ?_
      refine lv_iload hx hb dX11_vacuum_369 (lv_at hl 6 rfl) ?_
      refine lv_imul hx hb dX11_vacuum_371 ?_
      refine k_topi (y := nI (200 * wj)) (pk_mul 200 wj) ?_
      refine lv_iload hx hb dX11_vacuum_372 (lv_at hl 0 rfl) ?_
      refine lv_iadd hx hb dX11_vacuum_374 ?_
      refine k_topi (y := nI (200 * wj + t)) (nI_add (200 * wj) t) ?_
      refine k_mil (v := g t) (i := 200 * wj + t) C G 39 (k := 57) (n := 800) mp_57 (by decide) (by omega) (hg av hsA t (by omega)) dX11_vacuum_375 ?_
      refine kcM_v G (krV 1 rfl (As := [.int (g t)]) (rest := []) (ci := 12) (CC := RX11) (T := TX11) (N := 61) C G pmN (c_X11_needs Z l h ad iv av ob (g t) hok _) (gdV ml_X11_342 im_X11_needs se_X11_needs ii_X11 co_X11_needs) (by decide +kernel) ⟨Nat.le_of_ble_eq_true rfl, Nat.le_of_ble_eq_true rfl⟩ rfl 0 rfl hl rfl (Nat.le_of_ble_eq_true rfl) ⟨Nat.le_of_ble_eq_true rfl, Nat.le_of_ble_eq_true rfl⟩ dX11_vacuum_376) (fun u H locs hu G => ?_)
      subst hu
      refine lv_iinc (v := nI (t + 1)) (lv' := [(7, .int (nI (t + 1))), (0, .ref h), (1, .int x), (2, .int lat), (3, .int v3), (5, .int v0), (6, .int (nI wj))]) hx hb dX11_vacuum_379 hl (k := 0) rfl (nI_1 _) (by decide) rfl (fun ls hl => ?_)
      refine lv_goto (tgt := 349) hx hb dX11_vacuum_382 (by decide) ?_
      exact ih (t + 1) (ndA ob av (g t)) (by omega) (fun j hj => (ndA_59 j (fun z => hj (by rw [z]; exact List.mem_singleton.mpr rfl))).trans (hsA j hj)) (by rw [List.range_succ, List.map_append, ← List.append_assoc]; exact nd_s hnn hnd) _ _ _ G (lv_sub hl [0, 1, 2, 3, 4, 5, 6] rfl)
