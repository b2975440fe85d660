/-! MODEL (X11): row, where none is taken. -/
set_option maxRecDepth 100000 in
set_option maxHeartbeats 4000000 in
theorem c_rowNoM (Z : zT) (l : Launch) (h : Nat) (ad : Nat → Nat) (iv : ivT) (av : avT) (wn : Nat) (y v1 v2 v3 aw sd ki : Int32) (hwn : wn < 4) (h33 : av 33 wn = aw) (h34 : av 34 wn = sd) (h35 : av 35 wn = ki) (hno : ¬ (¬ aw = 0 ∧ ki = 0 ∧ sd = 0)) : Ki Z l yX11_row cX11_row 8 (some .int) ({ frames := 1, cells := 0, slots := 0, locals := 40 }) [.ref h, .int (nI wn), .int y, .int v1, .int v2, .int v3] (mdW Z h ad iv av) (fun r u => r = -1 ∧ u = mdW Z h ad iv av) := by
  intro sz
  refine Met.ofK (cc := cX11_row) (maxL := 8) (ret := (some .int)) (by decide) (Nat.le_of_ble_eq_true rfl) ?_
  intro p e s m below meth c ls C G hl
  generalize va_A _ sz = A at G ⊢
  have hx := C.1
  have hb := C.2.1
  have hown := C.2.2.2.2.2.1
  have hts := C.2.2.2.2.2.2.1
  refine lv_iload_n hx hb dX11_row_0 rfl (lv_at hl 1 rfl) ?_
  refine kcM_i G (krS 1 rfl (As := [.int (nI wn)]) (rest := []) C G pmN (c_X11_isWriter Z l h ad iv av (nI wn) _) (gdS ml_X11_266 sm_X11_isWriter ii_X11 co_X11_isWriter) (by decide +kernel) ⟨Nat.le_of_ble_eq_true rfl, Nat.le_of_ble_eq_true rfl⟩ hl rfl (Nat.le_of_ble_eq_true rfl) ⟨Nat.le_of_ble_eq_true rfl, Nat.le_of_ble_eq_true rfl⟩ dX11_row_1) (fun r_1 u H locs hu G => ?_)
  obtain ⟨r_1_e, rfl⟩ := hu
  rw [isW_n hwn] at r_1_e
  subst r_1_e
  refine lv_if_eq (tgt := 55) hx hb dX11_row_4 (by decide) (fun c_4 => ?_) (fun c_4 => ?_)
  · exact absurd c_4 (by decide)
  · have n_4 := nb_ne (a := 1) (b := 0) c_4 (by omega) (by omega)
    refine lv_aload_n hx hb dX11_row_7 rfl (lv_at hl 0 rfl) ?_
    refine k_mga C G 33 (by decide) mr_33 fl_X11_65 rfl dX11_row_8 ?_
    refine lv_iload_n hx hb dX11_row_11 rfl (lv_at hl 1 rfl) ?_
    refine k_mzl (v := aw) (i := wn) C G 15 (k := 33) (n := 4) mp_33 (by decide) (by omega) h33 dX11_row_12 ?_
    refine lv_if_eq (tgt := 55) hx hb dX11_row_13 (by decide) (fun c_13 => ?_) (fun c_13 => ?_)
    · refine lv_iconst (v := (-1)) hx hb dX11_row_55 (by decide) ?_
      exact kr_i C G ⟨rfl, rfl⟩ (Nat.le_of_ble_eq_true rfl) (Nat.le_of_ble_eq_true rfl) dX11_row_56
    · refine lv_aload_n hx hb dX11_row_16 rfl (lv_at hl 0 rfl) ?_
      refine k_mga C G 35 (by decide) mr_35 fl_X11_71 rfl dX11_row_17 ?_
      refine lv_iload_n hx hb dX11_row_20 rfl (lv_at hl 1 rfl) ?_
      refine k_mil (v := ki) (i := wn) C G 17 (k := 35) (n := 4) mp_35 (by decide) (by omega) h35 dX11_row_21 ?_
      refine lv_if_ne (tgt := 55) hx hb dX11_row_22 (by decide) (fun c_22 => ?_) (fun c_22 => ?_)
      · refine lv_iconst (v := (-1)) hx hb dX11_row_55 (by decide) ?_
        exact kr_i C G ⟨rfl, rfl⟩ (Nat.le_of_ble_eq_true rfl) (Nat.le_of_ble_eq_true rfl) dX11_row_56
      · refine lv_aload_n hx hb dX11_row_25 rfl (lv_at hl 0 rfl) ?_
        refine k_mga C G 34 (by decide) mr_34 fl_X11_68 rfl dX11_row_26 ?_
        refine lv_iload_n hx hb dX11_row_29 rfl (lv_at hl 1 rfl) ?_
        refine k_mzl (v := sd) (i := wn) C G 16 (k := 34) (n := 4) mp_34 (by decide) (by omega) h34 dX11_row_30 ?_
        refine lv_if_ne (tgt := 55) hx hb dX11_row_31 (by decide) (fun c_31 => ?_) (fun c_31 => ?_)
        · refine lv_iconst (v := (-1)) hx hb dX11_row_55 (by decide) ?_
          exact kr_i C G ⟨rfl, rfl⟩ (Nat.le_of_ble_eq_true rfl) (Nat.le_of_ble_eq_true rfl) dX11_row_56
        · exact absurd ⟨c_13, c_22, c_31⟩ hno
theorem rows_at {av : avT} {wn n : Nat} {PA VA : Nat → Int32} (h : rowsM av wn n = rwsC PA VA n) : ∀ t, t < n → av 46 (4800 * wn + t) = PA t := by
  intro t ht
  have h1 : (rowsM av wn n)[t]? = (rwsC PA VA n)[t]? := by rw [h]
  unfold rowsM rwsC at h1
  rw [List.getElem?_map, List.getElem?_map, List.getElem?_range ht] at h1
  simp only [Option.map_some, Option.some.injEq] at h1
  exact congrArg Prod.fst h1
theorem cnP_F {f PA : Nat → Int32} {a : Nat} (y : Int32) : ∀ n, (∀ t, t < n → f (a + t) = PA t) → cnP f a y n = cntF PA y n
  | 0, _ => rfl
  | n + 1, h => by
    rw [cnP, cntF, cnP_F y n (fun t ht => h t (by omega)), h n (by omega)]
theorem cntF_cg {PA PB : Nat → Int32} (y : Int32) : ∀ n, (∀ t, t < n → PA t = PB t) → cntF PA y n = cntF PB y n
  | 0, _ => rfl
  | n + 1, h => by rw [cntF, cntF, cntF_cg y n (fun t ht => h t (by omega)), h n (by omega)]
theorem rwsC_cg {PA PB VA VB : Nat → Int32} {n : Nat} (h : ∀ t, t < n → PA t = PB t) (h2 : ∀ t, t < 3 * n → VA t = VB t) : rwsC PA VA n = rwsC PB VB n := by
  unfold rwsC
  apply List.map_congr_left
  intro t ht
  have ht' := List.mem_range.mp ht
  rw [h t ht', h2 (3 * t) (by omega), h2 (3 * t + 1) (by omega), h2 (3 * t + 2) (by omega)]
theorem up3_0 (F : Nat → Int32) (a : Nat) (x y z : Int32) : upd (upd (upd F a x) (a + 1) y) (a + 2) z a = x := by rw [pk_un (by omega), pk_un (by omega), pk_us]
theorem up3_1 (F : Nat → Int32) (a : Nat) (x y z : Int32) : upd (upd (upd F a x) (a + 1) y) (a + 2) z (a + 1) = y := by rw [pk_un (by omega), pk_us]
theorem up3_2 (F : Nat → Int32) (a : Nat) (x y z : Int32) : upd (upd (upd F a x) (a + 1) y) (a + 2) z (a + 2) = z := by rw [pk_us]
theorem row_new {av : avT} {wn n : Nat} {PA VA : Nat → Int32} {y v1 v2 v3 : Int32} (h : rowsM av wn n = rwsC PA VA n) (hn : n < 96) : rowsM (coA av wn n y v1 v2 v3) wn (n + 1) = rwsC (upd PA n y) (upd (upd (upd VA (3 * n) v1) (3 * n + 1) v2) (3 * n + 2) v3) (n + 1) := by
  rw [rwsC_s, rwsC_cg (PB := PA) (VB := VA) (fun t ht => pk_un (by omega)) (fun t ht => by rw [pk_un (by omega), pk_un (by omega), pk_un (by omega)]), ← h]
  have e : rowsM (coA av wn n y v1 v2 v3) wn n = rowsM av wn n := by
    unfold rowsM
    apply List.map_congr_left
    intro t ht
    have ht' := List.mem_range.mp ht
    have e6 : (coA av wn n y v1 v2 v3) 46 = upd (av 46) (4800 * wn + n) y := rfl
    have e5 : (coA av wn n y v1 v2 v3) 45 = upd (upd (upd (av 45) (14400 * wn + 3 * n) v1) (14400 * wn + 3 * n + 1) v2) (14400 * wn + 3 * n + 2) v3 := rfl
    rw [e6, e5, pk_un (by omega), pk_un (by omega), pk_un (by omega), pk_un (by omega), pk_un (by omega), pk_un (by omega), pk_un (by omega), pk_un (by omega), pk_un (by omega), pk_un (by omega)]
  have e6 : (coA av wn n y v1 v2 v3) 46 = upd (av 46) (4800 * wn + n) y := rfl
  have e5 : (coA av wn n y v1 v2 v3) 45 = upd (upd (upd (av 45) (14400 * wn + 3 * n) v1) (14400 * wn + 3 * n + 1) v2) (14400 * wn + 3 * n + 2) v3 := rfl
  rw [rowsM_s, e, e6, e5, up3_0, up3_1, up3_2, up3_0, up3_1, up3_2, pk_us, pk_us]
theorem wRel.row {k i : Nat} {av : avT} {wa : Nat} {aw sd ml ki pt tr ba wo ve y v1 v2 v3 : Int32} {nw qa qv cd wl pa : Nat} {c0 c1 c2 : Int32} {fn fp m0 : Nat} {FN FP : Nat → Int32} {qr sh sq qe qp qn SL nr no np n : Nat} {f R E Pp N PA VA : Nat → Int32}
    (h : wRel k av i ((wa, (aw, sd, ml, ki, pt, tr, ba, wo, ve), nw, qa, qv, cd, wl, pa), (c0, c1, c2), (fn, fp, m0, FN, FP), (qr, sh, sq, qe, qp, qn), (SL, nr, no, np, n), (f, R, E, Pp, N), (PA, VA))) (hact : ¬ aw = 0 ∧ ki = 0 ∧ sd = 0) (hnw : nw < 96) (hc : cntF PA y nw < 48) :
    wRel (k + 1) (coA av i nw y v1 v2 v3) i ((wa, (aw, sd, ml, ki, pt, tr, ba, wo, ve), nw + 1, qa, qv, cd, wl, pa), (c0, c1, c2), (fn, fp, m0, FN, FP), (qr, sh, sq, qe, qp, qn), (SL, nr, no, np, n), (f, R, E, Pp, N), (upd PA nw y, upd (upd (upd VA (3 * nw) v1) (3 * nw + 1) v2) (3 * nw + 2) v3)) := by
  obtain ⟨a, h2, h3, h4, ⟨os, rs, p1, p2, p3, p4, p5⟩, q, h7, h8, h9⟩ := h
  obtain ⟨b1, b2, b3, b4, b5, b6, b7, b8⟩ := h7 hact.1 hact.2.2
  have hos : os = [] := List.eq_nil_of_length_eq_zero (by rw [← p1.1]; exact b1)
  subst hos
  refine ⟨a, h2, h3, ⟨h4.1, hnw, h4.2.2⟩, ⟨[], rs, p1, p2, p3, ⟨p4.1, fun j o hj => by simp at hj⟩, p5⟩, q, fun _ _ => ⟨b1, b2, pk_us, row_new b4 hnw, fun z p hp => ?_, fun z => absurd hact.2.1 z, b7, b8⟩, fun z1 z2 => absurd hact.2.2 z2, h9⟩
  rw [cntF, pk_us, cntF_cg (PB := PA) (nI p) nw (fun t ht => pk_un (by omega))]
  have hb := b5 z p hp
  by_cases e : y = nI p
  · rw [if_pos e]; rw [e] at hc; omega
  · rw [if_neg e]; omega
