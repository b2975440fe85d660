/-! MODEL (X11): vacuum, what is needed. -/
theorem map_getD (F : flT) : (List.range F.length).map (fun t => (F.getD t (0, 0)).1) = F.map (fun q => q.1) := by
  apply List.ext_getElem?
  intro i
  by_cases hi : i < F.length
  · rw [List.getElem?_map, List.getElem?_range hi, List.getElem?_map, List.getElem?_eq_getElem hi]
    show some (F.getD i (0, 0)).1 = some F[i].1
    rw [getD_of (List.getElem?_eq_getElem hi)]
  · rw [List.getElem?_eq_none (by simp; omega), List.getElem?_eq_none (by simp; omega)]
/-- DATA that the VERSIONS from o0 on hold -/
def vnL (Fv : Nat → flT) (o0 j : Nat) : List Int32 := (List.range j).flatMap (fun k => (Fv (o0 + k)).map (fun q => q.1))
theorem vnL_s (Fv : Nat → flT) (o0 j : Nat) : vnL Fv o0 (j + 1) = vnL Fv o0 j ++ (Fv (o0 + j)).map (fun q => q.1) := by simp [vnL, List.range_succ, List.flatMap_append]
/-- DATA that a WRITER holds -/
def wnL (av : avT) (pn bn : Nat → Nat) (j : Nat) : List Int32 := if av 33 j = 0 then [] else (List.range (pn j)).map (fun t => av 52 (200 * j + t)) ++ (List.range (bn j)).map (fun t => av 57 (200 * j + t))
def wnS (av : avT) (pn bn : Nat → Nat) (k : Nat) : List Int32 := (List.range k).flatMap (wnL av pn bn)
theorem wnS_s (av : avT) (pn bn : Nat → Nat) (k : Nat) : wnS av pn bn (k + 1) = wnS av pn bn k ++ wnL av pn bn k := by simp [wnS, List.range_succ, List.flatMap_append]
set_option maxRecDepth 100000 in
set_option maxHeartbeats 4000000 in
theorem lp_mvd {p : Program} {l : Launch} {e : Env} {s : State} {m : MethodId} {args : Array Value} {below : List Frame} {meth : Method} {c : Code} {Z : zT} {A : Nat → Prop} {Q : State → Prop} {h : Nat} {ad : Nat → Nat} {iv0 : ivT} {av0 : avT} {ob : List obT} {flo x v0 : Int32} {nw o0 : Nat} {Fv : Nat → flT} (C : cx p s m args meth c cX11_vacuum 8 (some .int) RX11 "vacuum") (ho : mo_ok iv0 av0 ob) (hin : mo_in ob) (h13 : iv0 13 = flo) (hflo : ¬ flo < 0) (hnw : nw < 2 ^ 20) (ho0 : o0 ≤ nw) (hst : ∀ w, o0 ≤ w → w ≤ nw → mVr ob flo (nI w) = some (Fv w)) (kk : ∀ (iv : ivT) (av : avT), sI [16, 17, 18, 26, 30] iv0 iv → sA [27, 28, 29, 31, 32, 59] av0 av → nd_at av ob (vnL Fv o0 (nw + 1 - o0)) →  ∀ (H : Heap) (locs : List Loc) (ls : Array Slot), wd Z A s (mdW Z h ad iv av) H locs → lv_has ls 8 [(0, .ref h), (1, .int x), (2, .int (nI nw)), (3, .int (nI o0)), (5, .int v0)] → W p l e ({ frames := 7, cells := 0, slots := 0, locals := 200 }) s m args below meth c H locs 0 0 Q (F0 m 285 ls [])) : ∀ (n j v : Nat) (iv : ivT) (av : avT), j + n = nw + 1 - o0 → v = o0 + j → sI [16, 17, 18, 26, 30] iv0 iv → sA [27, 28, 29, 31, 32, 59] av0 av → nd_at av ob (vnL Fv o0 j) →  ∀ (H : Heap) (locs : List Loc) (ls : Array Slot), wd Z A s (mdW Z h ad iv av) H locs → lv_has ls 8 [(6, .int (nI v)), (0, .ref h), (1, .int x), (2, .int (nI nw)), (3, .int (nI o0)), (5, .int v0)] → W p l e ({ frames := 7, cells := 0, slots := 0, locals := 200 }) s m args below meth c H locs 0 0 Q (F0 m 236 ls []) := by
  have hx := C.1
  have hb := C.2.1
  have hown := C.2.2.2.2.2.1
  have hts := C.2.2.2.2.2.2.1
  intro n
  induction n with
  | zero =>
    intro j v iv av hj hvj hsI hsA hnd H locs ls G hl
    refine lv_iload hx hb dX11_vacuum_236 (lv_at hl 0 rfl) ?_
    refine lv_iload_n hx hb dX11_vacuum_238 rfl (lv_at hl 3 rfl) ?_
    refine lv_icmp_gt (tgt := 285) hx hb dX11_vacuum_239 (by decide) (fun c_239 => ?_) (fun c_239 => ?_)
    · have n_239 := nb_lt (a := nw) (b := v) c_239 (by omega) (by omega)
      have hv1 : j = nw + 1 - o0 := by omega
      subst hv1
      exact kk iv av hsI hsA hnd _ _ _ G (lv_sub hl [1, 2, 3, 4, 5] rfl)
    · exact absurd (nb_nlt (a := nw) (b := v) c_239 (by omega) (by omega)) (by omega)
  | succ n ih =>
    intro j v iv av hj hvj hsI hsA hnd H locs ls G hl
    have hok : mo_ok iv av ob := ho.same hsI hsA (by decide) (by decide) (by decide) (by decide) (by decide) (by decide)
    have h13v : iv 13 = flo := (hsI 13 (by decide)).trans h13
    refine lv_iload hx hb dX11_vacuum_236 (lv_at hl 0 rfl) ?_
    refine lv_iload_n hx hb dX11_vacuum_238 rfl (lv_at hl 3 rfl) ?_
    refine lv_icmp_gt (tgt := 285) hx hb dX11_vacuum_239 (by decide) (fun c_239 => ?_) (fun c_239 => ?_)
    · exact absurd (nb_lt (a := nw) (b := v) c_239 (by omega) (by omega)) (by omega)
    · have n_239 := nb_nlt (a := nw) (b := v) c_239 (by omega) (by omega)
      refine lv_aload_n hx hb dX11_vacuum_242 rfl (lv_at hl 1 rfl) ?_
      refine lv_iload hx hb dX11_vacuum_243 (lv_at hl 0 rfl) ?_
      refine kcM_i G (krV 1 rfl (As := [.int (nI v)]) (rest := []) (ci := 12) (CC := RX11) (T := TX11) (N := 61) C G pmN (c_X11_reads Z l h ad iv av ob flo (nI v) hok hin h13v hflo _) (gdV ml_X11_280 im_X11_reads se_X11_reads ii_X11 co_X11_reads) (by decide +kernel) ⟨Nat.le_of_ble_eq_true rfl, Nat.le_of_ble_eq_true rfl⟩ rfl 0 rfl hl rfl (Nat.le_of_ble_eq_true rfl) ⟨Nat.le_of_ble_eq_true rfl, Nat.le_of_ble_eq_true rfl⟩ dX11_vacuum_245) (fun r_245 u H locs hu G => ?_)
      obtain ⟨iv1_, av1_, rfl, hs1, ha1, hcs1⟩ := hu
      obtain ⟨r_245_e, F, hvr, hF⟩ := hcs1.resolve_right (fun z => by rw [hst v (by omega) (by omega)] at z; exact absurd z.2 (by simp))
      subst r_245_e
      have hFv : F = Fv v := by rw [hst v (by omega) (by omega)] at hvr; exact (Option.some.inj hvr).symm
      refine lv_istore (lv' := [(4, .int 1), (6, .int (nI v)), (0, .ref h), (1, .int x), (2, .int (nI nw)), (3, .int (nI o0)), (5, .int v0)]) hx hb dX11_vacuum_248 hl (by decide) rfl (fun ls hl => ?_)
      refine lv_iconst (v := 0) hx hb dX11_vacuum_250 (by decide) ?_
      refine k_topi (y := nI 0) (by rfl) ?_
      refine lv_istore (lv' := [(7, .int (nI 0)), (4, .int 1), (6, .int (nI v)), (0, .ref h), (1, .int x), (2, .int (nI nw)), (3, .int (nI o0)), (5, .int v0)]) hx hb dX11_vacuum_251 hl (by decide) rfl (fun ls hl => ?_)
      refine lp_mvn1 (iv := iv1_) (av0 := av1_) (ob := ob) (NL0 := vnL Fv o0 j) (g := fun t => (F.getD t (0, 0)).1) (cn := F.length) C (hok.same hs1 ha1 (by decide) (by decide) (by decide) (by decide) (by decide) (by decide)) hin.1 hF.2.2.1 hF.1 (fun av2 a1 t ht => by rw [a1 31 (by decide)]; exact (hF.2.1 t ht).1) (fun av2 a1 a2 H locs ls G hl => ?_) F.length 0 av1_ (by omega) sA.rf (by rw [List.range_zero, List.map_nil, List.append_nil]; exact nd_same hnd (ha1 59 (by decide))) _ _ _ G (lv_sub hl [0, 3, 4, 5, 6, 7, 2] rfl)
      refine lv_iinc (v := nI (v + 1)) (lv' := [(6, .int (nI (v + 1))), (0, .ref h), (1, .int x), (2, .int (nI nw)), (3, .int (nI o0)), (5, .int v0)]) hx hb dX11_vacuum_279 hl (k := 5) rfl (nI_1 _) (by decide) rfl (fun ls hl => ?_)
      refine lv_goto (tgt := 236) hx hb dX11_vacuum_282 (by decide) ?_
      exact ih (j + 1) (v + 1) iv1_ av2 (by omega) (by omega) (hsI.tr hs1 (fun j hj => hj)) ((hsA.tr ha1 (by decide)).tr a1 (by decide)) (by rw [vnL_s, ← hvj, ← hFv, ← map_getD]; exact a2) _ _ _ G (lv_sub hl [0, 1, 2, 3, 4, 5] rfl)
set_option maxRecDepth 100000 in
set_option maxHeartbeats 4000000 in
theorem lp_mve {p : Program} {l : Launch} {e : Env} {s : State} {m : MethodId} {args : Array Value} {below : List Frame} {meth : Method} {c : Code} {Z : zT} {A : Nat → Prop} {Q : State → Prop} {h : Nat} {ad : Nat → Nat} {iv : ivT} {av0 : avT} {ob : List obT} {x lat v3 v0 : Int32} {NL0 : List Int32} {pn bn : Nat → Nat} (C : cx p s m args meth c cX11_vacuum 8 (some .int) RX11 "vacuum") (ho : mo_ok iv av0 ob) (hnn : mo_nd ob) (hw : ∀ j, j < 4 → ¬ av0 33 j = 0 → av0 53 j = nI (pn j) ∧ pn j ≤ 200 ∧ av0 56 j = nI (bn j) ∧ bn j ≤ 200) (kk : ∀ (av : avT), sA [59] av0 av → nd_at av ob (NL0 ++ wnS av0 pn bn 4) →  ∀ (H : Heap) (locs : List Loc) (ls : Array Slot), wd Z A s (mdW Z h ad iv av) H locs → lv_has ls 8 [(0, .ref h), (1, .int x), (2, .int lat), (3, .int v3), (5, .int v0)] → W p l e ({ frames := 7, cells := 0, slots := 0, locals := 200 }) s m args below meth c H locs 0 0 Q (F0 m 391 ls [])) : ∀ (n wj : Nat) (av : avT), wj + n = 4 → sA [59] av0 av → nd_at av ob (NL0 ++ wnS av0 pn bn wj) →  ∀ (H : Heap) (locs : List Loc) (ls : Array Slot), wd Z A s (mdW Z h ad iv av) H locs → lv_has ls 8 [(6, .int (nI wj)), (0, .ref h), (1, .int x), (2, .int lat), (3, .int v3), (5, .int v0)] → W p l e ({ frames := 7, cells := 0, slots := 0, locals := 200 }) s m args below meth c H locs 0 0 Q (F0 m 288 ls []) := by
  have hx := C.1
  have hb := C.2.1
  have hown := C.2.2.2.2.2.1
  have hts := C.2.2.2.2.2.2.1
  intro n
  induction n with
  | zero =>
    intro wj av hwj hsA hnd H locs ls G hl
    refine lv_iload hx hb dX11_vacuum_288 (lv_at hl 0 rfl) ?_
    refine lv_iconst (v := 4) hx hb dX11_vacuum_290 (by decide) ?_
    refine lv_icmp_ge (tgt := 391) hx hb dX11_vacuum_291 (by decide) (fun c_291 => ?_) (fun c_291 => ?_)
    · have n_291 := nb_le (a := 4) (b := wj) c_291 (by omega) (by omega)
      have hw4 : wj = 4 := by omega
      subst hw4
      exact kk av hsA hnd _ _ _ G (lv_sub hl [1, 2, 3, 4, 5] rfl)
    · exact absurd (nb_nle (a := 4) (b := wj) c_291 (by omega) (by omega)) (by omega)
  | succ n ih =>
    intro wj av hwj hsA hnd H locs ls G hl
    have e33 : av 33 = av0 33 := hsA 33 (by decide)
    refine lv_iload hx hb dX11_vacuum_288 (lv_at hl 0 rfl) ?_
    refine lv_iconst (v := 4) hx hb dX11_vacuum_290 (by decide) ?_
    refine lv_icmp_ge (tgt := 391) hx hb dX11_vacuum_291 (by decide) (fun c_291 => ?_) (fun c_291 => ?_)
    · exact absurd (nb_le (a := 4) (b := wj) c_291 (by omega) (by omega)) (by omega)
    · have n_291 := nb_nle (a := 4) (b := wj) c_291 (by omega) (by omega)
      refine lv_aload_n hx hb dX11_vacuum_294 rfl (lv_at hl 1 rfl) ?_
      refine k_mga C G 33 (by decide) mr_33 fl_X11_65 rfl dX11_vacuum_295 ?_
      refine lv_iload hx hb dX11_vacuum_298 (lv_at hl 0 rfl) ?_
      refine k_mzl (v := av0 33 wj) (i := wj) C G 15 (k := 33) (n := 4) mp_33 (by decide) (by omega) (congrFun e33 wj) dX11_vacuum_300 ?_
      refine lv_if_ne (tgt := 307) hx hb dX11_vacuum_301 (by decide) (fun c_301 => ?_) (fun c_301 => ?_)
      · refine lv_iconst (v := 0) hx hb dX11_vacuum_307 (by decide) ?_
        refine k_topi (y := nI 0) (by rfl) ?_
        refine lv_istore (lv' := [(7, .int (nI 0)), (6, .int (nI wj)), (0, .ref h), (1, .int x), (2, .int lat), (3, .int v3), (5, .int v0)]) hx hb dX11_vacuum_308 hl (by decide) rfl (fun ls hl => ?_)
        have hne : ¬ av0 33 wj = 0 := fun z => c_301 z
        obtain ⟨k53, kp, k56, kb⟩ := hw wj (by omega) hne
        refine lp_mvn2 (iv := iv) (av0 := av) (ob := ob) (NL0 := NL0 ++ wnS av0 pn bn wj) (g := fun t => av0 52 (200 * wj + t)) (cn := pn wj) C (ho.same (L := []) sI.rf hsA (by decide) (by decide) (by decide) (by decide) (by decide) (by decide)) hnn kp (by omega) (by rw [hsA 53 (by decide)]; exact k53) (fun av2 a1 t ht => by rw [a1 52 (by decide), hsA 52 (by decide)]) (fun av2 a1 a2 H locs ls G hl => ?_) (pn wj) 0 av (by omega) sA.rf (by rw [List.range_zero, List.map_nil, List.append_nil]; exact hnd) _ _ _ G (lv_sub hl [0, 2, 3, 4, 5, 6, 1] rfl)
        refine lv_iconst (v := 0) hx hb dX11_vacuum_346 (by decide) ?_
        refine k_topi (y := nI 0) (by rfl) ?_
        refine lv_istore (lv' := [(7, .int (nI 0)), (0, .ref h), (1, .int x), (2, .int lat), (3, .int v3), (5, .int v0), (6, .int (nI wj))]) hx hb dX11_vacuum_347 hl (by decide) rfl (fun ls hl => ?_)
        have hsA2 := hsA.tr a1 (fun j hj => hj)
        refine lp_mvn3 (iv := iv) (av0 := av2) (ob := ob) (NL0 := NL0 ++ wnS av0 pn bn wj ++ (List.range (pn wj)).map (fun t => av0 52 (200 * wj + t))) (g := fun t => av0 57 (200 * wj + t)) (cn := bn wj) C (ho.same (L := []) sI.rf hsA2 (by decide) (by decide) (by decide) (by decide) (by decide) (by decide)) hnn kb (by omega) (by rw [hsA2 56 (by decide)]; exact k56) (fun av3 a3 t ht => by rw [a3 57 (by decide), hsA2 57 (by decide)]) (fun av3 a3 a4 H locs ls G hl => ?_) (bn wj) 0 av2 (by omega) sA.rf (by rw [List.range_zero, List.map_nil, List.append_nil]; exact a2) _ _ _ G (lv_sub hl [0, 1, 2, 3, 4, 5, 6] rfl)
        refine lv_iinc (v := nI (wj + 1)) (lv' := [(6, .int (nI (wj + 1))), (0, .ref h), (1, .int x), (2, .int lat), (3, .int v3), (5, .int v0)]) hx hb dX11_vacuum_385 hl (k := 5) rfl (nI_1 _) (by decide) rfl (fun ls hl => ?_)
        refine lv_goto (tgt := 288) hx hb dX11_vacuum_388 (by decide) ?_
        exact ih (wj + 1) av3 (by omega) (hsA2.tr a3 (fun j hj => hj)) (by rw [wnS_s, wnL, if_neg hne, ← List.append_assoc, ← List.append_assoc]; exact a4) _ _ _ G (lv_sub hl [0, 1, 2, 3, 4, 5] rfl)
      · refine lv_goto (tgt := 385) hx hb dX11_vacuum_304 (by decide) ?_
        refine lv_iinc (v := nI (wj + 1)) (lv' := [(6, .int (nI (wj + 1))), (0, .ref h), (1, .int x), (2, .int lat), (3, .int v3), (5, .int v0)]) hx hb dX11_vacuum_385 hl (k := 0) rfl (nI_1 _) (by decide) rfl (fun ls hl => ?_)
        refine lv_goto (tgt := 288) hx hb dX11_vacuum_388 (by decide) ?_
        exact ih (wj + 1) av (by omega) hsA (by rw [wnS_s, wnL, if_pos c_301, List.append_nil]; exact hnd) _ _ _ G (lv_sub hl [0, 1, 2, 3, 4, 5] rfl)
