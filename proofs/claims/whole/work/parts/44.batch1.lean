/-! MODULE Batch (X0), first part: making, clearing, values. -/
set_option maxRecDepth 100000 in
set_option maxHeartbeats 4000000 in
theorem c_X0_init (Z : zT) (l : Launch) (h : Nat) : Kv Z l yX0_init cX0_init 1 none ({ frames := 1, cells := 4, slots := 153, locals := 12 }) [.ref h] [(h, .inr (1, [.int 0, .int 0, .null, .null, .null, .null]))] (fun u => ∃ qv qp ql qg, u = btW Z h qv qp ql qg 0 0 (fun _ => 0) (fun _ => 0) (fun _ => 0) (fun _ => 0)) := by
  intro sz
  refine Met.ofK (cc := cX0_init) (maxL := 1) (ret := none) (by decide) (Nat.le_of_ble_eq_true rfl) ?_
  intro p e s m below meth c ls C G hl
  generalize va_A _ sz = A at G ⊢
  have hx := C.1
  have hb := C.2.1
  have hown := C.2.2.2.2.2.1
  have hts := C.2.2.2.2.2.2.1
  refine lv_aload_n hx hb dX0_init_0 rfl (lv_at hl 0 rfl) ?_
  refine k_objInit C hl.1 ml_X0_3 im_Object__init____V co_obj (Nat.le_of_ble_eq_true rfl) (Nat.le_of_ble_eq_true rfl) dX0_init_1 ?_
  refine lv_aload_n hx hb dX0_init_4 rfl (lv_at hl 0 rfl) ?_
  refine lv_sipush (v := 144) hx hb dX0_init_5 (by decide) ?_
  refine k_newa (i := 144) (N' := 144) (ty := .int) C G 1 rfl rfl rfl ac_int (by decide) (by decide) (by decide) (Nat.le_of_ble_eq_true rfl) (Nat.le_of_ble_eq_true rfl) dX0_init_8 (fun qv H (G : wd Z A s ([(h, .inr (1, [.int 0, .int 0, .null, .null, .null, .null])), (qv, aI Z 144 (fun _ => 0))]) H _) => ?_)
  refine k_putF (ci := 1) (CC := RX0) (T := TX0) (N := 6) (ty := .array .int) (v := .ref qv) C G 0 rfl rfl in_1 tyX0 tyX0_ok nmX0 2 (by decide) fl_X0_9 rfl rfl rfl rfl rfl rfl (Nat.le_of_ble_eq_true rfl) dX0_init_10 (fun H locs (G : wd Z A s ([(h, .inr (1, [.int 0, .int 0, .ref qv, .null, .null, .null])), (qv, aI Z 144 (fun _ => 0))]) H locs) => ?_)
  refine lv_aload_n hx hb dX0_init_13 rfl (lv_at hl 0 rfl) ?_
  refine lv_iconst (v := 3) hx hb dX0_init_14 (by decide) ?_
  refine k_newa (i := 3) (N' := 3) (ty := .int) C G 1 rfl rfl rfl ac_int (by decide) (by decide) (by decide) (Nat.le_of_ble_eq_true rfl) (Nat.le_of_ble_eq_true rfl) dX0_init_15 (fun qp H (G : wd Z A s ([(h, .inr (1, [.int 0, .int 0, .ref qv, .null, .null, .null])), (qv, aI Z 144 (fun _ => 0)), (qp, aI Z 3 (fun _ => 0))]) H _) => ?_)
  refine k_putF (ci := 1) (CC := RX0) (T := TX0) (N := 6) (ty := .array .int) (v := .ref qp) C G 0 rfl rfl in_1 tyX0 tyX0_ok nmX0 3 (by decide) fl_X0_15 rfl rfl rfl rfl rfl rfl (Nat.le_of_ble_eq_true rfl) dX0_init_17 (fun H locs (G : wd Z A s ([(h, .inr (1, [.int 0, .int 0, .ref qv, .ref qp, .null, .null])), (qv, aI Z 144 (fun _ => 0)), (qp, aI Z 3 (fun _ => 0))]) H locs) => ?_)
  refine lv_aload_n hx hb dX0_init_20 rfl (lv_at hl 0 rfl) ?_
  refine lv_iconst (v := 3) hx hb dX0_init_21 (by decide) ?_
  refine k_newa (i := 3) (N' := 3) (ty := .int) C G 1 rfl rfl rfl ac_int (by decide) (by decide) (by decide) (Nat.le_of_ble_eq_true rfl) (Nat.le_of_ble_eq_true rfl) dX0_init_22 (fun ql H (G : wd Z A s ([(h, .inr (1, [.int 0, .int 0, .ref qv, .ref qp, .null, .null])), (qv, aI Z 144 (fun _ => 0)), (qp, aI Z 3 (fun _ => 0)), (ql, aI Z 3 (fun _ => 0))]) H _) => ?_)
  refine k_putF (ci := 1) (CC := RX0) (T := TX0) (N := 6) (ty := .array .int) (v := .ref ql) C G 0 rfl rfl in_1 tyX0 tyX0_ok nmX0 4 (by decide) fl_X0_18 rfl rfl rfl rfl rfl rfl (Nat.le_of_ble_eq_true rfl) dX0_init_24 (fun H locs (G : wd Z A s ([(h, .inr (1, [.int 0, .int 0, .ref qv, .ref qp, .ref ql, .null])), (qv, aI Z 144 (fun _ => 0)), (qp, aI Z 3 (fun _ => 0)), (ql, aI Z 3 (fun _ => 0))]) H locs) => ?_)
  refine lv_aload_n hx hb dX0_init_27 rfl (lv_at hl 0 rfl) ?_
  refine lv_iconst (v := 3) hx hb dX0_init_28 (by decide) ?_
  refine k_newa (i := 3) (N' := 3) (ty := .int) C G 1 rfl rfl rfl ac_int (by decide) (by decide) (by decide) (Nat.le_of_ble_eq_true rfl) (Nat.le_of_ble_eq_true rfl) dX0_init_29 (fun qg H (G : wd Z A s ([(h, .inr (1, [.int 0, .int 0, .ref qv, .ref qp, .ref ql, .null])), (qv, aI Z 144 (fun _ => 0)), (qp, aI Z 3 (fun _ => 0)), (ql, aI Z 3 (fun _ => 0)), (qg, aI Z 3 (fun _ => 0))]) H _) => ?_)
  refine k_putF (ci := 1) (CC := RX0) (T := TX0) (N := 6) (ty := .array .int) (v := .ref qg) C G 0 rfl rfl in_1 tyX0 tyX0_ok nmX0 5 (by decide) fl_X0_21 rfl rfl rfl rfl rfl rfl (Nat.le_of_ble_eq_true rfl) dX0_init_31 (fun H locs (G : wd Z A s ([(h, .inr (1, [.int 0, .int 0, .ref qv, .ref qp, .ref ql, .ref qg])), (qv, aI Z 144 (fun _ => 0)), (qp, aI Z 3 (fun _ => 0)), (ql, aI Z 3 (fun _ => 0)), (qg, aI Z 3 (fun _ => 0))]) H locs) => ?_)
  exact kr_v C G ⟨qv, qp, ql, qg, rfl⟩ (Nat.le_of_ble_eq_true rfl) (Nat.le_of_ble_eq_true rfl) dX0_init_34
set_option maxRecDepth 100000 in
set_option maxHeartbeats 4000000 in
theorem c_X0_clear (Z : zT) (l : Launch) (h qv qp ql qg : Nat) (P n P2 : Int32) (V pr le gr : Nat → Int32) : Kv Z l yX0_clear cX0_clear 2 none ({ frames := 1, cells := 0, slots := 0, locals := 30 }) [.ref h, .int P2] (btW Z h qv qp ql qg P n V pr le gr) (fun u => ∃ pr2 le2 gr2, bt_ok V pr2 le2 gr2 (fun _ => 0) ∧ u = btW Z h qv qp ql qg P2 0 V pr2 le2 gr2) := by
  intro sz
  refine Met.ofK (cc := cX0_clear) (maxL := 2) (ret := none) (by decide) (Nat.le_of_ble_eq_true rfl) ?_
  intro p e s m below meth c ls C G hl
  generalize va_A _ sz = A at G ⊢
  have hx := C.1
  have hb := C.2.1
  have hown := C.2.2.2.2.2.1
  have hts := C.2.2.2.2.2.2.1
  refine lv_aload_n hx hb dX0_clear_0 rfl (lv_at hl 0 rfl) ?_
  refine lv_iload_n hx hb dX0_clear_1 rfl (lv_at hl 1 rfl) ?_
  refine k_put (ci := 1) (CC := RX0) (T := TX0) (N := 6) (ty := .int) (v := .int P2) C G 0 rfl rfl in_1 tyX0 tyX0_ok nmX0 0 (by decide) fl_X0_24 rfl rfl rfl rfl rfl (Nat.le_of_ble_eq_true rfl) dX0_clear_2 (fun H locs (G : wd Z A s ([(h, .inr (1, [.int P2, .int n, .ref qv, .ref qp, .ref ql, .ref qg])), (qv, aI Z 144 V), (qp, aI Z 3 pr), (ql, aI Z 3 le), (qg, aI Z 3 gr)]) H locs) => ?_)
  refine lv_aload_n hx hb dX0_clear_5 rfl (lv_at hl 0 rfl) ?_
  refine lv_iconst (v := 0) hx hb dX0_clear_6 (by decide) ?_
  refine k_put (ci := 1) (CC := RX0) (T := TX0) (N := 6) (ty := .int) (v := .int 0) C G 0 rfl rfl in_1 tyX0 tyX0_ok nmX0 1 (by decide) fl_X0_28 rfl rfl rfl rfl rfl (Nat.le_of_ble_eq_true rfl) dX0_clear_7 (fun H locs (G : wd Z A s ([(h, .inr (1, [.int P2, .int 0, .ref qv, .ref qp, .ref ql, .ref qg])), (qv, aI Z 144 V), (qp, aI Z 3 pr), (ql, aI Z 3 le), (qg, aI Z 3 gr)]) H locs) => ?_)
  refine lv_aload_n hx hb dX0_clear_10 rfl (lv_at hl 0 rfl) ?_
  refine k_get (ci := 1) (CC := RX0) (T := TX0) (N := 6) (v := .ref qp) C G 0 rfl rfl in_1 3 (by decide) fl_X0_15 rfl rfl dX0_clear_11 ?_
  refine lv_iconst (v := 0) hx hb dX0_clear_14 (by decide) ?_
  have hX : List.Perm ([(h, .inr (1, [.int P2, .int 0, .ref qv, .ref qp, .ref ql, .ref qg])), (qv, aI Z 144 V), (qp, aI Z 3 pr), (ql, aI Z 3 le), (qg, aI Z 3 gr)]) ([(qp, aI Z 3 pr)] ++ ([(h, .inr (1, [.int P2, .int 0, .ref qv, .ref qp, .ref ql, .ref qg])), (qv, aI Z 144 V), (ql, aI Z 3 le), (qg, aI Z 3 gr)])) := (perm_ix [2, 0, 1, 3, 4] rfl 5 (by decide) rfl)
  refine kc_v (Wc := [(qp, aI Z 3 pr)]) (Wr := [(h, .inr (1, [.int P2, .int 0, .ref qv, .ref qp, .ref ql, .ref qg])), (qv, aI Z 144 V), (ql, aI Z 3 le), (qg, aI Z 3 gr)]) G hX (krS 2 rfl (As := [.ref qp, .int 0]) (rest := []) C G hX (c_J7_fill Z l qp 3 pr 0 (by omega) _) (gdS ml_X0_31 sm_J7_fill_53178 ii_J7 co_J7_fill_53178) (by decide +kernel) ⟨Nat.le_of_ble_eq_true rfl, Nat.le_of_ble_eq_true rfl⟩ hl rfl (Nat.le_of_ble_eq_true rfl) ⟨Nat.le_of_ble_eq_true rfl, Nat.le_of_ble_eq_true rfl⟩ dX0_clear_15) (fun u H locs hu G => ?_)
  obtain ⟨pr2, hn1, rfl⟩ := hu
  have G : wd Z A s ([(h, .inr (1, [.int P2, .int 0, .ref qv, .ref qp, .ref ql, .ref qg])), (qv, aI Z 144 V), (qp, aI Z 3 pr2), (ql, aI Z 3 le), (qg, aI Z 3 gr)]) H locs := G.perm (perm_ix [1, 2, 0, 3, 4] rfl 5 (by decide) rfl)
  refine lv_aload_n hx hb dX0_clear_18 rfl (lv_at hl 0 rfl) ?_
  refine k_get (ci := 1) (CC := RX0) (T := TX0) (N := 6) (v := .ref ql) C G 0 rfl rfl in_1 4 (by decide) fl_X0_18 rfl rfl dX0_clear_19 ?_
  refine lv_iconst (v := 0) hx hb dX0_clear_22 (by decide) ?_
  have hX : List.Perm ([(h, .inr (1, [.int P2, .int 0, .ref qv, .ref qp, .ref ql, .ref qg])), (qv, aI Z 144 V), (qp, aI Z 3 pr2), (ql, aI Z 3 le), (qg, aI Z 3 gr)]) ([(ql, aI Z 3 le)] ++ ([(h, .inr (1, [.int P2, .int 0, .ref qv, .ref qp, .ref ql, .ref qg])), (qv, aI Z 144 V), (qp, aI Z 3 pr2), (qg, aI Z 3 gr)])) := (perm_ix [3, 0, 1, 2, 4] rfl 5 (by decide) rfl)
  refine kc_v (Wc := [(ql, aI Z 3 le)]) (Wr := [(h, .inr (1, [.int P2, .int 0, .ref qv, .ref qp, .ref ql, .ref qg])), (qv, aI Z 144 V), (qp, aI Z 3 pr2), (qg, aI Z 3 gr)]) G hX (krS 2 rfl (As := [.ref ql, .int 0]) (rest := []) C G hX (c_J7_fill Z l ql 3 le 0 (by omega) _) (gdS ml_X0_31 sm_J7_fill_53178 ii_J7 co_J7_fill_53178) (by decide +kernel) ⟨Nat.le_of_ble_eq_true rfl, Nat.le_of_ble_eq_true rfl⟩ hl rfl (Nat.le_of_ble_eq_true rfl) ⟨Nat.le_of_ble_eq_true rfl, Nat.le_of_ble_eq_true rfl⟩ dX0_clear_23) (fun u H locs hu G => ?_)
  obtain ⟨le2, hn2, rfl⟩ := hu
  have G : wd Z A s ([(h, .inr (1, [.int P2, .int 0, .ref qv, .ref qp, .ref ql, .ref qg])), (qv, aI Z 144 V), (qp, aI Z 3 pr2), (ql, aI Z 3 le2), (qg, aI Z 3 gr)]) H locs := G.perm (perm_ix [1, 2, 3, 0, 4] rfl 5 (by decide) rfl)
  refine lv_aload_n hx hb dX0_clear_26 rfl (lv_at hl 0 rfl) ?_
  refine k_get (ci := 1) (CC := RX0) (T := TX0) (N := 6) (v := .ref qg) C G 0 rfl rfl in_1 5 (by decide) fl_X0_21 rfl rfl dX0_clear_27 ?_
  refine lv_iconst (v := 0) hx hb dX0_clear_30 (by decide) ?_
  have hX : List.Perm ([(h, .inr (1, [.int P2, .int 0, .ref qv, .ref qp, .ref ql, .ref qg])), (qv, aI Z 144 V), (qp, aI Z 3 pr2), (ql, aI Z 3 le2), (qg, aI Z 3 gr)]) ([(qg, aI Z 3 gr)] ++ ([(h, .inr (1, [.int P2, .int 0, .ref qv, .ref qp, .ref ql, .ref qg])), (qv, aI Z 144 V), (qp, aI Z 3 pr2), (ql, aI Z 3 le2)])) := (perm_ix [4, 0, 1, 2, 3] rfl 5 (by decide) rfl)
  refine kc_v (Wc := [(qg, aI Z 3 gr)]) (Wr := [(h, .inr (1, [.int P2, .int 0, .ref qv, .ref qp, .ref ql, .ref qg])), (qv, aI Z 144 V), (qp, aI Z 3 pr2), (ql, aI Z 3 le2)]) G hX (krS 2 rfl (As := [.ref qg, .int 0]) (rest := []) C G hX (c_J7_fill Z l qg 3 gr 0 (by omega) _) (gdS ml_X0_31 sm_J7_fill_53178 ii_J7 co_J7_fill_53178) (by decide +kernel) ⟨Nat.le_of_ble_eq_true rfl, Nat.le_of_ble_eq_true rfl⟩ hl rfl (Nat.le_of_ble_eq_true rfl) ⟨Nat.le_of_ble_eq_true rfl, Nat.le_of_ble_eq_true rfl⟩ dX0_clear_31) (fun u H locs hu G => ?_)
  obtain ⟨gr2, hn3, rfl⟩ := hu
  have G : wd Z A s ([(h, .inr (1, [.int P2, .int 0, .ref qv, .ref qp, .ref ql, .ref qg])), (qv, aI Z 144 V), (qp, aI Z 3 pr2), (ql, aI Z 3 le2), (qg, aI Z 3 gr2)]) H locs := G.perm (perm_ix [1, 2, 3, 4, 0] rfl 5 (by decide) rfl)
  exact kr_v C G ⟨pr2, le2, gr2, bt_zero hn1 hn2 hn3, rfl⟩ (Nat.le_of_ble_eq_true rfl) (Nat.le_of_ble_eq_true rfl) dX0_clear_34
set_option maxRecDepth 100000 in
set_option maxHeartbeats 4000000 in
theorem c_X0_valueAt (Z : zT) (l : Launch) (h qv qp ql qg c0 r : Nat) (P n : Int32) (V pr le gr : Nat → Int32) (hc : c0 < 3) (hr : r < 48) : Ki Z l yX0_valueAt cX0_valueAt 4 (some .int) ({ frames := 0, cells := 0, slots := 0, locals := 0 }) [.ref h, .int (nI c0), .int (nI r)] (btW Z h qv qp ql qg P n V pr le gr) (fun v u => v = V (48 * c0 + r) ∧ u = btW Z h qv qp ql qg P n V pr le gr) := by
  intro sz
  refine Met.ofK (cc := cX0_valueAt) (maxL := 4) (ret := (some .int)) (by decide) (Nat.le_of_ble_eq_true rfl) ?_
  intro p e s m below meth c ls C G hl
  generalize va_A _ sz = A at G ⊢
  have hx := C.1
  have hb := C.2.1
  have hown := C.2.2.2.2.2.1
  have hts := C.2.2.2.2.2.2.1
  refine lv_iload_n hx hb dX0_valueAt_0 rfl (lv_at hl 1 rfl) ?_
  refine lv_if_lt (tgt := 23) hx hb dX0_valueAt_1 (by decide) (fun c_1 => ?_) (fun c_1 => ?_)
  · exact absurd c_1 (nI_pos (by omega))
  · refine lv_iload_n hx hb dX0_valueAt_4 rfl (lv_at hl 1 rfl) ?_
    refine lv_iconst (v := 3) hx hb dX0_valueAt_5 (by decide) ?_
    refine lv_icmp_ge (tgt := 23) hx hb dX0_valueAt_6 (by decide) (fun c_6 => ?_) (fun c_6 => ?_)
    · exact absurd (show nI 3 ≤ nI c0 from c_6) (nI_ge (by omega) (by omega))
    · refine lv_iload_n hx hb dX0_valueAt_9 rfl (lv_at hl 2 rfl) ?_
      refine lv_if_lt (tgt := 23) hx hb dX0_valueAt_10 (by decide) (fun c_10 => ?_) (fun c_10 => ?_)
      · exact absurd c_10 (nI_pos (by omega))
      · refine lv_iload_n hx hb dX0_valueAt_13 rfl (lv_at hl 2 rfl) ?_
        refine lv_bipush (v := 48) hx hb dX0_valueAt_14 (by decide) ?_
        refine lv_icmp_ge (tgt := 23) hx hb dX0_valueAt_16 (by decide) (fun c_16 => ?_) (fun c_16 => ?_)
        · exact absurd (show nI 48 ≤ nI r from c_16) (nI_ge (by omega) (by omega))
        · refine lv_iconst (v := 1) hx hb dX0_valueAt_19 (by decide) ?_
          refine lv_goto (tgt := 24) hx hb dX0_valueAt_20 (by decide) ?_
          refine lv_istore_n (lv' := [(3, .int 1), (0, .ref h), (1, .int (nI c0)), (2, .int (nI r))]) hx hb dX0_valueAt_24 rfl hl (by decide) rfl (fun ls hl => ?_)
          refine lv_iload_n hx hb dX0_valueAt_25 rfl (lv_at hl 0 rfl) ?_
          refine lv_if_eq (tgt := 43) hx hb dX0_valueAt_26 (by decide) (fun c_26 => ?_) (fun c_26 => ?_)
          · exact absurd c_26 (by decide)
          · refine lv_aload_n hx hb dX0_valueAt_29 rfl (lv_at hl 1 rfl) ?_
            refine k_get (ci := 1) (CC := RX0) (T := TX0) (N := 6) (v := .ref qv) C G 0 rfl rfl in_1 2 (by decide) fl_X0_9 rfl rfl dX0_valueAt_30 ?_
            refine lv_iload_n hx hb dX0_valueAt_33 rfl (lv_at hl 2 rfl) ?_
            refine lv_bipush (v := 48) hx hb dX0_valueAt_34 (by decide) ?_
            refine lv_imul hx hb dX0_valueAt_36 ?_
            refine lv_iload_n hx hb dX0_valueAt_37 rfl (lv_at hl 3 rfl) ?_
            refine lv_iadd hx hb dX0_valueAt_38 ?_
            have h_39 : vp_in (((nI c0) * 48) + (nI r)) 144 := by exact in48 hc hr
            refine k_iald C G 1 rfl h_39 dX0_valueAt_39 ?_
            refine k_topi (y := V (48 * c0 + r)) (by rw [ix48 hc hr, nI_clamp (by omega)]) ?_
            refine lv_goto (tgt := 45) hx hb dX0_valueAt_40 (by decide) ?_
            exact kr_i C G ⟨rfl, rfl⟩ (Nat.le_refl _) (Nat.le_refl _) dX0_valueAt_45
set_option maxRecDepth 100000 in
set_option maxHeartbeats 4000000 in
theorem c_X0_setValue (Z : zT) (l : Launch) (h qv qp ql qg c0 : Nat) (k : Nat → Nat) (P n v : Int32) (V pr le gr : Nat → Int32) (hb0 : bt_ok V pr le gr k) (hc : c0 < 3) (hk : ∀ d, d < 3 → k d ≤ 48) (hk2 : k c0 < 48) : Kv Z l yX0_setValue cX0_setValue 5 none ({ frames := 0, cells := 0, slots := 0, locals := 0 }) [.ref h, .int (nI c0), .int (nI (k c0)), .int v] (btW Z h qv qp ql qg P n V pr le gr) (fun u => ∃ pr2 le2 gr2, bt_ok (upd V (48 * c0 + k c0) v) pr2 le2 gr2 (fun d => if d = c0 then k c0 + 1 else k d) ∧ u = btW Z h qv qp ql qg P n (upd V (48 * c0 + k c0) v) pr2 le2 gr2) := by
  intro sz
  refine Met.ofK (cc := cX0_setValue) (maxL := 5) (ret := none) (by decide) (Nat.le_of_ble_eq_true rfl) ?_
  intro p e s m below meth c ls C G hl
  generalize va_A _ sz = A at G ⊢
  have hx := C.1
  have hb := C.2.1
  have hown := C.2.2.2.2.2.1
  have hts := C.2.2.2.2.2.2.1
  refine lv_iload_n hx hb dX0_setValue_0 rfl (lv_at hl 1 rfl) ?_
  refine lv_if_lt (tgt := 19) hx hb dX0_setValue_1 (by decide) (fun c_1 => ?_) (fun c_1 => ?_)
  · exact absurd c_1 (nI_pos (by omega))
  · refine lv_iload_n hx hb dX0_setValue_4 rfl (lv_at hl 1 rfl) ?_
    refine lv_iconst (v := 3) hx hb dX0_setValue_5 (by decide) ?_
    refine lv_icmp_ge (tgt := 19) hx hb dX0_setValue_6 (by decide) (fun c_6 => ?_) (fun c_6 => ?_)
    · exact absurd (show nI 3 ≤ nI c0 from c_6) (nI_ge (by omega) (by omega))
    · refine lv_iload_n hx hb dX0_setValue_9 rfl (lv_at hl 2 rfl) ?_
      refine lv_if_lt (tgt := 19) hx hb dX0_setValue_10 (by decide) (fun c_10 => ?_) (fun c_10 => ?_)
      · exact absurd c_10 (nI_pos (by omega))
      · refine lv_iload_n hx hb dX0_setValue_13 rfl (lv_at hl 2 rfl) ?_
        refine lv_bipush (v := 48) hx hb dX0_setValue_14 (by decide) ?_
        refine lv_icmp_lt (tgt := 20) hx hb dX0_setValue_16 (by decide) (fun c_16 => ?_) (fun c_16 => ?_)
        · refine lv_aload_n hx hb dX0_setValue_20 rfl (lv_at hl 0 rfl) ?_
          refine k_get (ci := 1) (CC := RX0) (T := TX0) (N := 6) (v := .ref qv) C G 0 rfl rfl in_1 2 (by decide) fl_X0_9 rfl rfl dX0_setValue_21 ?_
          refine lv_iload_n hx hb dX0_setValue_24 rfl (lv_at hl 1 rfl) ?_
          refine lv_bipush (v := 48) hx hb dX0_setValue_25 (by decide) ?_
          refine lv_imul hx hb dX0_setValue_27 ?_
          refine lv_iload_n hx hb dX0_setValue_28 rfl (lv_at hl 2 rfl) ?_
          refine lv_iadd hx hb dX0_setValue_29 ?_
          refine lv_iload_n hx hb dX0_setValue_30 rfl (lv_at hl 3 rfl) ?_
          have h_31 : vp_in (((nI c0) * 48) + (nI (k c0))) 144 := by exact in48 hc hk2
          refine k_iast C G 1 rfl h_31 dX0_setValue_31 (fun H locs (G : wd Z A s ([(h, .inr (1, [.int P, .int n, .ref qv, .ref qp, .ref ql, .ref qg])), (qv, aI Z 144 (upd V (((nI c0) * 48) + (nI (k c0))).toNatClampNeg v)), (qp, aI Z 3 pr), (ql, aI Z 3 le), (qg, aI Z 3 gr)]) H locs) => ?_)
          refine lv_iload_n hx hb dX0_setValue_32 rfl (lv_at hl 3 rfl) ?_
          refine lv_ldc (v := (-2147483648)) hx hb hown (hts _ kn_X0_48) dX0_setValue_33 ?_
          refine lv_icmp_ne (tgt := 39) hx hb dX0_setValue_35 (by decide) (fun c_35 => ?_) (fun c_35 => ?_)
          · refine lv_aload_n hx hb dX0_setValue_39 rfl (lv_at hl 0 rfl) ?_
            refine k_get (ci := 1) (CC := RX0) (T := TX0) (N := 6) (v := .ref qp) C G 0 rfl rfl in_1 3 (by decide) fl_X0_15 rfl rfl dX0_setValue_40 ?_
            refine lv_iload_n hx hb dX0_setValue_43 rfl (lv_at hl 1 rfl) ?_
            have h_44 : vp_in (nI c0) 3 := by exact vp_in_nI (by omega) (by omega)
            refine k_iald C G 2 rfl h_44 dX0_setValue_44 ?_
            refine lv_if_ne (tgt := 52) hx hb dX0_setValue_45 (by decide) (fun c_45 => ?_) (fun c_45 => ?_)
            · refine lv_iconst (v := 0) hx hb dX0_setValue_52 (by decide) ?_
              refine lv_istore (lv' := [(4, .int 0), (0, .ref h), (1, .int (nI c0)), (2, .int (nI (k c0))), (3, .int v)]) hx hb dX0_setValue_53 hl (by decide) rfl (fun ls hl => ?_)
              refine lv_iload hx hb dX0_setValue_55 (lv_at hl 0 rfl) ?_
              refine lv_if_ne (tgt := 70) hx hb dX0_setValue_57 (by decide) (fun c_57 => ?_) (fun c_57 => ?_)
              · exact absurd c_57 (by decide)
              · refine lv_iload_n hx hb dX0_setValue_60 rfl (lv_at hl 4 rfl) ?_
                refine lv_aload_n hx hb dX0_setValue_61 rfl (lv_at hl 1 rfl) ?_
                refine k_get (ci := 1) (CC := RX0) (T := TX0) (N := 6) (v := .ref ql) C G 0 rfl rfl in_1 4 (by decide) fl_X0_18 rfl rfl dX0_setValue_62 ?_
                refine lv_iload_n hx hb dX0_setValue_65 rfl (lv_at hl 2 rfl) ?_
                have h_66 : vp_in (nI c0) 3 := by exact vp_in_nI (by omega) (by omega)
                refine k_iald C G 3 rfl h_66 dX0_setValue_66 ?_
                refine lv_icmp_ge (tgt := 77) hx hb dX0_setValue_67 (by decide) (fun c_67 => ?_) (fun c_67 => ?_)
                · refine lv_iload hx hb dX0_setValue_77 (lv_at hl 0 rfl) ?_
                  refine lv_if_ne (tgt := 92) hx hb dX0_setValue_79 (by decide) (fun c_79 => ?_) (fun c_79 => ?_)
                  · exact absurd c_79 (by decide)
                  · refine lv_iload_n hx hb dX0_setValue_82 rfl (lv_at hl 4 rfl) ?_
                    refine lv_aload_n hx hb dX0_setValue_83 rfl (lv_at hl 1 rfl) ?_
                    refine k_get (ci := 1) (CC := RX0) (T := TX0) (N := 6) (v := .ref qg) C G 0 rfl rfl in_1 5 (by decide) fl_X0_21 rfl rfl dX0_setValue_84 ?_
                    refine lv_iload_n hx hb dX0_setValue_87 rfl (lv_at hl 2 rfl) ?_
                    have h_88 : vp_in (nI c0) 3 := by exact vp_in_nI (by omega) (by omega)
                    refine k_iald C G 4 rfl h_88 dX0_setValue_88 ?_
                    refine lv_icmp_le (tgt := 99) hx hb dX0_setValue_89 (by decide) (fun c_89 => ?_) (fun c_89 => ?_)
                    · refine lv_aload_n hx hb dX0_setValue_99 rfl (lv_at hl 1 rfl) ?_
                      refine k_get (ci := 1) (CC := RX0) (T := TX0) (N := 6) (v := .ref qp) C G 0 rfl rfl in_1 3 (by decide) fl_X0_15 rfl rfl dX0_setValue_100 ?_
                      refine lv_iload_n hx hb dX0_setValue_103 rfl (lv_at hl 2 rfl) ?_
                      refine lv_dup2_11 hx hb dX0_setValue_104 rfl rfl ?_
                      have h_105 : vp_in (nI c0) 3 := by exact vp_in_nI (by omega) (by omega)
                      refine k_iald C G 2 rfl h_105 dX0_setValue_105 ?_
                      refine lv_iconst (v := 1) hx hb dX0_setValue_106 (by decide) ?_
                      refine lv_iadd hx hb dX0_setValue_107 ?_
                      have h_108 : vp_in (nI c0) 3 := by exact vp_in_nI (by omega) (by omega)
                      refine k_iast C G 2 rfl h_108 dX0_setValue_108 (fun H locs (G : wd Z A s ([(h, .inr (1, [.int P, .int n, .ref qv, .ref qp, .ref ql, .ref qg])), (qv, aI Z 144 (upd V (((nI c0) * 48) + (nI (k c0))).toNatClampNeg v)), (qp, aI Z 3 (upd pr (nI c0).toNatClampNeg ((pr (nI c0).toNatClampNeg) + 1))), (ql, aI Z 3 le), (qg, aI Z 3 gr)]) H locs) => ?_)
                      have ec : (nI c0).toNatClampNeg = c0 := nI_clamp (by omega)
                      rw [ec] at G
                      rw [ix48 hc hk2, nI_clamp (by omega)] at G
                      rw [ec] at c_45
                      have c_67b := c_67
                      rw [ec] at c_67b
                      have c_67b : ¬ v < le c0 := Int32.not_lt.mpr c_67b
                      have c_89b := c_89
                      rw [ec] at c_89b
                      have c_89b : ¬ gr c0 < v := Int32.not_lt.mpr c_89b
                      exact kr_v C G ⟨_, _, _, bt_val hb0 hc hk hk2 c_35 rfl (by rw [if_neg (fun z => z.elim c_45 (fun y => absurd y c_67b))]) (by rw [if_neg (fun z => z.elim c_45 (fun y => absurd y c_89b))]) (fun d hd => rfl) (fun d hd => rfl), rfl⟩ (Nat.le_refl _) (Nat.le_refl _) dX0_setValue_109
                    · refine lv_aload_n hx hb dX0_setValue_92 rfl (lv_at hl 1 rfl) ?_
                      refine k_get (ci := 1) (CC := RX0) (T := TX0) (N := 6) (v := .ref qg) C G 0 rfl rfl in_1 5 (by decide) fl_X0_21 rfl rfl dX0_setValue_93 ?_
                      refine lv_iload_n hx hb dX0_setValue_96 rfl (lv_at hl 2 rfl) ?_
                      refine lv_iload_n hx hb dX0_setValue_97 rfl (lv_at hl 4 rfl) ?_
                      have h_98 : vp_in (nI c0) 3 := by exact vp_in_nI (by omega) (by omega)
                      refine k_iast C G 4 rfl h_98 dX0_setValue_98 (fun H locs (G : wd Z A s ([(h, .inr (1, [.int P, .int n, .ref qv, .ref qp, .ref ql, .ref qg])), (qv, aI Z 144 (upd V (((nI c0) * 48) + (nI (k c0))).toNatClampNeg v)), (qp, aI Z 3 pr), (ql, aI Z 3 le), (qg, aI Z 3 (upd gr (nI c0).toNatClampNeg v))]) H locs) => ?_)
                      refine lv_aload_n hx hb dX0_setValue_99 rfl (lv_at hl 1 rfl) ?_
                      refine k_get (ci := 1) (CC := RX0) (T := TX0) (N := 6) (v := .ref qp) C G 0 rfl rfl in_1 3 (by decide) fl_X0_15 rfl rfl dX0_setValue_100 ?_
                      refine lv_iload_n hx hb dX0_setValue_103 rfl (lv_at hl 2 rfl) ?_
                      refine lv_dup2_11 hx hb dX0_setValue_104 rfl rfl ?_
                      have h_105 : vp_in (nI c0) 3 := by exact vp_in_nI (by omega) (by omega)
                      refine k_iald C G 2 rfl h_105 dX0_setValue_105 ?_
                      refine lv_iconst (v := 1) hx hb dX0_setValue_106 (by decide) ?_
                      refine lv_iadd hx hb dX0_setValue_107 ?_
                      have h_108 : vp_in (nI c0) 3 := by exact vp_in_nI (by omega) (by omega)
                      refine k_iast C G 2 rfl h_108 dX0_setValue_108 (fun H locs (G : wd Z A s ([(h, .inr (1, [.int P, .int n, .ref qv, .ref qp, .ref ql, .ref qg])), (qv, aI Z 144 (upd V (((nI c0) * 48) + (nI (k c0))).toNatClampNeg v)), (qp, aI Z 3 (upd pr (nI c0).toNatClampNeg ((pr (nI c0).toNatClampNeg) + 1))), (ql, aI Z 3 le), (qg, aI Z 3 (upd gr (nI c0).toNatClampNeg v))]) H locs) => ?_)
                      have ec : (nI c0).toNatClampNeg = c0 := nI_clamp (by omega)
                      rw [ec] at G
                      rw [ix48 hc hk2, nI_clamp (by omega)] at G
                      rw [ec] at c_45
                      have c_67b := c_67
                      rw [ec] at c_67b
                      have c_67b : ¬ v < le c0 := Int32.not_lt.mpr c_67b
                      have c_89b := c_89
                      rw [ec] at c_89b
                      have c_89b := Int32.not_le.mp c_89b
                      exact kr_v C G ⟨_, _, _, bt_val hb0 hc hk hk2 c_35 rfl (by rw [if_neg (fun z => z.elim c_45 (fun y => absurd y c_67b))]) (by rw [if_pos (Or.inr c_89b)]; exact pk_us) (fun d hd => rfl) (fun d hd => pk_un hd), rfl⟩ (Nat.le_refl _) (Nat.le_refl _) dX0_setValue_109
                · refine lv_aload_n hx hb dX0_setValue_70 rfl (lv_at hl 1 rfl) ?_
                  refine k_get (ci := 1) (CC := RX0) (T := TX0) (N := 6) (v := .ref ql) C G 0 rfl rfl in_1 4 (by decide) fl_X0_18 rfl rfl dX0_setValue_71 ?_
                  refine lv_iload_n hx hb dX0_setValue_74 rfl (lv_at hl 2 rfl) ?_
                  refine lv_iload_n hx hb dX0_setValue_75 rfl (lv_at hl 4 rfl) ?_
                  have h_76 : vp_in (nI c0) 3 := by exact vp_in_nI (by omega) (by omega)
                  refine k_iast C G 3 rfl h_76 dX0_setValue_76 (fun H locs (G : wd Z A s ([(h, .inr (1, [.int P, .int n, .ref qv, .ref qp, .ref ql, .ref qg])), (qv, aI Z 144 (upd V (((nI c0) * 48) + (nI (k c0))).toNatClampNeg v)), (qp, aI Z 3 pr), (ql, aI Z 3 (upd le (nI c0).toNatClampNeg v)), (qg, aI Z 3 gr)]) H locs) => ?_)
                  refine lv_iload hx hb dX0_setValue_77 (lv_at hl 0 rfl) ?_
                  refine lv_if_ne (tgt := 92) hx hb dX0_setValue_79 (by decide) (fun c_79 => ?_) (fun c_79 => ?_)
                  · exact absurd c_79 (by decide)
                  · refine lv_iload_n hx hb dX0_setValue_82 rfl (lv_at hl 4 rfl) ?_
                    refine lv_aload_n hx hb dX0_setValue_83 rfl (lv_at hl 1 rfl) ?_
                    refine k_get (ci := 1) (CC := RX0) (T := TX0) (N := 6) (v := .ref qg) C G 0 rfl rfl in_1 5 (by decide) fl_X0_21 rfl rfl dX0_setValue_84 ?_
                    refine lv_iload_n hx hb dX0_setValue_87 rfl (lv_at hl 2 rfl) ?_
                    have h_88 : vp_in (nI c0) 3 := by exact vp_in_nI (by omega) (by omega)
                    refine k_iald C G 4 rfl h_88 dX0_setValue_88 ?_
                    refine lv_icmp_le (tgt := 99) hx hb dX0_setValue_89 (by decide) (fun c_89 => ?_) (fun c_89 => ?_)
                    · refine lv_aload_n hx hb dX0_setValue_99 rfl (lv_at hl 1 rfl) ?_
                      refine k_get (ci := 1) (CC := RX0) (T := TX0) (N := 6) (v := .ref qp) C G 0 rfl rfl in_1 3 (by decide) fl_X0_15 rfl rfl dX0_setValue_100 ?_
                      refine lv_iload_n hx hb dX0_setValue_103 rfl (lv_at hl 2 rfl) ?_
                      refine lv_dup2_11 hx hb dX0_setValue_104 rfl rfl ?_
                      have h_105 : vp_in (nI c0) 3 := by exact vp_in_nI (by omega) (by omega)
                      refine k_iald C G 2 rfl h_105 dX0_setValue_105 ?_
                      refine lv_iconst (v := 1) hx hb dX0_setValue_106 (by decide) ?_
                      refine lv_iadd hx hb dX0_setValue_107 ?_
                      have h_108 : vp_in (nI c0) 3 := by exact vp_in_nI (by omega) (by omega)
                      refine k_iast C G 2 rfl h_108 dX0_setValue_108 (fun H locs (G : wd Z A s ([(h, .inr (1, [.int P, .int n, .ref qv, .ref qp, .ref ql, .ref qg])), (qv, aI Z 144 (upd V (((nI c0) * 48) + (nI (k c0))).toNatClampNeg v)), (qp, aI Z 3 (upd pr (nI c0).toNatClampNeg ((pr (nI c0).toNatClampNeg) + 1))), (ql, aI Z 3 (upd le (nI c0).toNatClampNeg v)), (qg, aI Z 3 gr)]) H locs) => ?_)
                      have ec : (nI c0).toNatClampNeg = c0 := nI_clamp (by omega)
                      rw [ec] at G
                      rw [ix48 hc hk2, nI_clamp (by omega)] at G
                      rw [ec] at c_45
                      have c_67b := c_67
                      rw [ec] at c_67b
                      have c_67b := Int32.not_le.mp c_67b
                      have c_89b := c_89
                      rw [ec] at c_89b
                      have c_89b : ¬ gr c0 < v := Int32.not_lt.mpr c_89b
                      exact kr_v C G ⟨_, _, _, bt_val hb0 hc hk hk2 c_35 rfl (by rw [if_pos (Or.inr c_67b)]; exact pk_us) (by rw [if_neg (fun z => z.elim c_45 (fun y => absurd y c_89b))]) (fun d hd => pk_un hd) (fun d hd => rfl), rfl⟩ (Nat.le_refl _) (Nat.le_refl _) dX0_setValue_109
                    · refine lv_aload_n hx hb dX0_setValue_92 rfl (lv_at hl 1 rfl) ?_
                      refine k_get (ci := 1) (CC := RX0) (T := TX0) (N := 6) (v := .ref qg) C G 0 rfl rfl in_1 5 (by decide) fl_X0_21 rfl rfl dX0_setValue_93 ?_
                      refine lv_iload_n hx hb dX0_setValue_96 rfl (lv_at hl 2 rfl) ?_
                      refine lv_iload_n hx hb dX0_setValue_97 rfl (lv_at hl 4 rfl) ?_
                      have h_98 : vp_in (nI c0) 3 := by exact vp_in_nI (by omega) (by omega)
                      refine k_iast C G 4 rfl h_98 dX0_setValue_98 (fun H locs (G : wd Z A s ([(h, .inr (1, [.int P, .int n, .ref qv, .ref qp, .ref ql, .ref qg])), (qv, aI Z 144 (upd V (((nI c0) * 48) + (nI (k c0))).toNatClampNeg v)), (qp, aI Z 3 pr), (ql, aI Z 3 (upd le (nI c0).toNatClampNeg v)), (qg, aI Z 3 (upd gr (nI c0).toNatClampNeg v))]) H locs) => ?_)
                      refine lv_aload_n hx hb dX0_setValue_99 rfl (lv_at hl 1 rfl) ?_
                      refine k_get (ci := 1) (CC := RX0) (T := TX0) (N := 6) (v := .ref qp) C G 0 rfl rfl in_1 3 (by decide) fl_X0_15 rfl rfl dX0_setValue_100 ?_
                      refine lv_iload_n hx hb dX0_setValue_103 rfl (lv_at hl 2 rfl) ?_
                      refine lv_dup2_11 hx hb dX0_setValue_104 rfl rfl ?_
                      have h_105 : vp_in (nI c0) 3 := by exact vp_in_nI (by omega) (by omega)
                      refine k_iald C G 2 rfl h_105 dX0_setValue_105 ?_
                      refine lv_iconst (v := 1) hx hb dX0_setValue_106 (by decide) ?_
                      refine lv_iadd hx hb dX0_setValue_107 ?_
                      have h_108 : vp_in (nI c0) 3 := by exact vp_in_nI (by omega) (by omega)
                      refine k_iast C G 2 rfl h_108 dX0_setValue_108 (fun H locs (G : wd Z A s ([(h, .inr (1, [.int P, .int n, .ref qv, .ref qp, .ref ql, .ref qg])), (qv, aI Z 144 (upd V (((nI c0) * 48) + (nI (k c0))).toNatClampNeg v)), (qp, aI Z 3 (upd pr (nI c0).toNatClampNeg ((pr (nI c0).toNatClampNeg) + 1))), (ql, aI Z 3 (upd le (nI c0).toNatClampNeg v)), (qg, aI Z 3 (upd gr (nI c0).toNatClampNeg v))]) H locs) => ?_)
                      have ec : (nI c0).toNatClampNeg = c0 := nI_clamp (by omega)
                      rw [ec] at G
                      rw [ix48 hc hk2, nI_clamp (by omega)] at G
                      rw [ec] at c_45
                      have c_67b := c_67
                      rw [ec] at c_67b
                      have c_67b := Int32.not_le.mp c_67b
                      have c_89b := c_89
                      rw [ec] at c_89b
                      have c_89b := Int32.not_le.mp c_89b
                      exact kr_v C G ⟨_, _, _, bt_val hb0 hc hk hk2 c_35 rfl (by rw [if_pos (Or.inr c_67b)]; exact pk_us) (by rw [if_pos (Or.inr c_89b)]; exact pk_us) (fun d hd => pk_un hd) (fun d hd => pk_un hd), rfl⟩ (Nat.le_refl _) (Nat.le_refl _) dX0_setValue_109
            · refine lv_iconst (v := 1) hx hb dX0_setValue_48 (by decide) ?_
              refine lv_goto (tgt := 53) hx hb dX0_setValue_49 (by decide) ?_
              refine lv_istore (lv' := [(4, .int 1), (0, .ref h), (1, .int (nI c0)), (2, .int (nI (k c0))), (3, .int v)]) hx hb dX0_setValue_53 hl (by decide) rfl (fun ls hl => ?_)
              refine lv_iload hx hb dX0_setValue_55 (lv_at hl 0 rfl) ?_
              refine lv_if_ne (tgt := 70) hx hb dX0_setValue_57 (by decide) (fun c_57 => ?_) (fun c_57 => ?_)
              · refine lv_aload_n hx hb dX0_setValue_70 rfl (lv_at hl 1 rfl) ?_
                refine k_get (ci := 1) (CC := RX0) (T := TX0) (N := 6) (v := .ref ql) C G 0 rfl rfl in_1 4 (by decide) fl_X0_18 rfl rfl dX0_setValue_71 ?_
                refine lv_iload_n hx hb dX0_setValue_74 rfl (lv_at hl 2 rfl) ?_
                refine lv_iload_n hx hb dX0_setValue_75 rfl (lv_at hl 4 rfl) ?_
                have h_76 : vp_in (nI c0) 3 := by exact vp_in_nI (by omega) (by omega)
                refine k_iast C G 3 rfl h_76 dX0_setValue_76 (fun H locs (G : wd Z A s ([(h, .inr (1, [.int P, .int n, .ref qv, .ref qp, .ref ql, .ref qg])), (qv, aI Z 144 (upd V (((nI c0) * 48) + (nI (k c0))).toNatClampNeg v)), (qp, aI Z 3 pr), (ql, aI Z 3 (upd le (nI c0).toNatClampNeg v)), (qg, aI Z 3 gr)]) H locs) => ?_)
                refine lv_iload hx hb dX0_setValue_77 (lv_at hl 0 rfl) ?_
                refine lv_if_ne (tgt := 92) hx hb dX0_setValue_79 (by decide) (fun c_79 => ?_) (fun c_79 => ?_)
                · refine lv_aload_n hx hb dX0_setValue_92 rfl (lv_at hl 1 rfl) ?_
                  refine k_get (ci := 1) (CC := RX0) (T := TX0) (N := 6) (v := .ref qg) C G 0 rfl rfl in_1 5 (by decide) fl_X0_21 rfl rfl dX0_setValue_93 ?_
                  refine lv_iload_n hx hb dX0_setValue_96 rfl (lv_at hl 2 rfl) ?_
                  refine lv_iload_n hx hb dX0_setValue_97 rfl (lv_at hl 4 rfl) ?_
                  have h_98 : vp_in (nI c0) 3 := by exact vp_in_nI (by omega) (by omega)
                  refine k_iast C G 4 rfl h_98 dX0_setValue_98 (fun H locs (G : wd Z A s ([(h, .inr (1, [.int P, .int n, .ref qv, .ref qp, .ref ql, .ref qg])), (qv, aI Z 144 (upd V (((nI c0) * 48) + (nI (k c0))).toNatClampNeg v)), (qp, aI Z 3 pr), (ql, aI Z 3 (upd le (nI c0).toNatClampNeg v)), (qg, aI Z 3 (upd gr (nI c0).toNatClampNeg v))]) H locs) => ?_)
                  refine lv_aload_n hx hb dX0_setValue_99 rfl (lv_at hl 1 rfl) ?_
                  refine k_get (ci := 1) (CC := RX0) (T := TX0) (N := 6) (v := .ref qp) C G 0 rfl rfl in_1 3 (by decide) fl_X0_15 rfl rfl dX0_setValue_100 ?_
                  refine lv_iload_n hx hb dX0_setValue_103 rfl (lv_at hl 2 rfl) ?_
                  refine lv_dup2_11 hx hb dX0_setValue_104 rfl rfl ?_
                  have h_105 : vp_in (nI c0) 3 := by exact vp_in_nI (by omega) (by omega)
                  refine k_iald C G 2 rfl h_105 dX0_setValue_105 ?_
                  refine lv_iconst (v := 1) hx hb dX0_setValue_106 (by decide) ?_
                  refine lv_iadd hx hb dX0_setValue_107 ?_
                  have h_108 : vp_in (nI c0) 3 := by exact vp_in_nI (by omega) (by omega)
                  refine k_iast C G 2 rfl h_108 dX0_setValue_108 (fun H locs (G : wd Z A s ([(h, .inr (1, [.int P, .int n, .ref qv, .ref qp, .ref ql, .ref qg])), (qv, aI Z 144 (upd V (((nI c0) * 48) + (nI (k c0))).toNatClampNeg v)), (qp, aI Z 3 (upd pr (nI c0).toNatClampNeg ((pr (nI c0).toNatClampNeg) + 1))), (ql, aI Z 3 (upd le (nI c0).toNatClampNeg v)), (qg, aI Z 3 (upd gr (nI c0).toNatClampNeg v))]) H locs) => ?_)
                  have ec : (nI c0).toNatClampNeg = c0 := nI_clamp (by omega)
                  rw [ec] at G
                  rw [ix48 hc hk2, nI_clamp (by omega)] at G
                  rw [ec] at c_45
                  exact kr_v C G ⟨_, _, _, bt_val hb0 hc hk hk2 c_35 rfl (by rw [if_pos (Or.inl c_45)]; exact pk_us) (by rw [if_pos (Or.inl c_45)]; exact pk_us) (fun d hd => pk_un hd) (fun d hd => pk_un hd), rfl⟩ (Nat.le_refl _) (Nat.le_refl _) dX0_setValue_109
                · exact absurd c_79 (by decide)
              · exact absurd c_57 (by decide)
          · have ev : v = MIS := c_35
            subst ev
            exact kr_v C G ⟨pr, le, gr, bt_mis hb0 hc hk hk2, by rw [ix48 hc hk2, nI_clamp (by omega)]⟩ (Nat.le_refl _) (Nat.le_refl _) dX0_setValue_38
        · exact absurd (show nI (k c0) < nI 48 from nI_lt (by omega) (by omega)) c_16
set_option maxRecDepth 100000 in
set_option maxHeartbeats 4000000 in
theorem c_X0_hasValueIn (Z : zT) (l : Launch) (h qv qp ql qg c0 : Nat) (P n : Int32) (V pr le gr : Nat → Int32) (hc : c0 < 3) : Ki Z l yX0_hasValueIn cX0_hasValueIn 2 (some .boolean) ({ frames := 0, cells := 0, slots := 0, locals := 0 }) [.ref h, .int (nI c0)] (btW Z h qv qp ql qg P n V pr le gr) (fun v u => v = (if 0 < pr c0 then 1 else 0) ∧ u = btW Z h qv qp ql qg P n V pr le gr) := by
  intro sz
  refine Met.ofK (cc := cX0_hasValueIn) (maxL := 2) (ret := (some .boolean)) (by decide) (Nat.le_of_ble_eq_true rfl) ?_
  intro p e s m below meth c ls C G hl
  generalize va_A _ sz = A at G ⊢
  have hx := C.1
  have hb := C.2.1
  have hown := C.2.2.2.2.2.1
  have hts := C.2.2.2.2.2.2.1
  refine lv_iload_n hx hb dX0_hasValueIn_0 rfl (lv_at hl 1 rfl) ?_
  refine lv_if_lt (tgt := 22) hx hb dX0_hasValueIn_1 (by decide) (fun c_1 => ?_) (fun c_1 => ?_)
  · exact absurd c_1 (nI_pos (by omega))
  · refine lv_iload_n hx hb dX0_hasValueIn_4 rfl (lv_at hl 1 rfl) ?_
    refine lv_iconst (v := 3) hx hb dX0_hasValueIn_5 (by decide) ?_
    refine lv_icmp_ge (tgt := 22) hx hb dX0_hasValueIn_6 (by decide) (fun c_6 => ?_) (fun c_6 => ?_)
    · exact absurd (show nI 3 ≤ nI c0 from c_6) (nI_ge (by omega) (by omega))
    · refine lv_aload_n hx hb dX0_hasValueIn_9 rfl (lv_at hl 0 rfl) ?_
      refine k_get (ci := 1) (CC := RX0) (T := TX0) (N := 6) (v := .ref qp) C G 0 rfl rfl in_1 3 (by decide) fl_X0_15 rfl rfl dX0_hasValueIn_10 ?_
      refine lv_iload_n hx hb dX0_hasValueIn_13 rfl (lv_at hl 1 rfl) ?_
      have h_14 : vp_in (nI c0) 3 := by exact vp_in_nI (by omega) (by omega)
      refine k_iald C G 2 rfl h_14 dX0_hasValueIn_14 ?_
      refine lv_if_le (tgt := 22) hx hb dX0_hasValueIn_15 (by decide) (fun c_15 => ?_) (fun c_15 => ?_)
      · refine lv_iconst (v := 0) hx hb dX0_hasValueIn_22 (by decide) ?_
        exact kr_z C G (by decide) ⟨by rw [if_neg (fun z => absurd c_15 (Int32.not_le.mpr (by rw [nI_clamp (by omega)]; exact z)))], rfl⟩ (Nat.le_refl _) (Nat.le_refl _) dX0_hasValueIn_23
      · refine lv_iconst (v := 1) hx hb dX0_hasValueIn_18 (by decide) ?_
        refine lv_goto (tgt := 23) hx hb dX0_hasValueIn_19 (by decide) ?_
        exact kr_z C G (by decide) ⟨by rw [if_pos (by rw [nI_clamp (by omega)] at c_15; exact Int32.not_le.mp c_15)], rfl⟩ (Nat.le_refl _) (Nat.le_refl _) dX0_hasValueIn_23
set_option maxRecDepth 100000 in
set_option maxHeartbeats 4000000 in
theorem c_X0_leastOf (Z : zT) (l : Launch) (h qv qp ql qg c0 : Nat) (P n : Int32) (V pr le gr : Nat → Int32) (hc : c0 < 3) : Ki Z l yX0_leastOf cX0_leastOf 2 (some .int) ({ frames := 0, cells := 0, slots := 0, locals := 0 }) [.ref h, .int (nI c0)] (btW Z h qv qp ql qg P n V pr le gr) (fun v u => v = le c0 ∧ u = btW Z h qv qp ql qg P n V pr le gr) := by
  intro sz
  refine Met.ofK (cc := cX0_leastOf) (maxL := 2) (ret := (some .int)) (by decide) (Nat.le_of_ble_eq_true rfl) ?_
  intro p e s m below meth c ls C G hl
  generalize va_A _ sz = A at G ⊢
  have hx := C.1
  have hb := C.2.1
  have hown := C.2.2.2.2.2.1
  have hts := C.2.2.2.2.2.2.1
  refine lv_iload_n hx hb dX0_leastOf_0 rfl (lv_at hl 1 rfl) ?_
  refine lv_if_lt (tgt := 18) hx hb dX0_leastOf_1 (by decide) (fun c_1 => ?_) (fun c_1 => ?_)
  · exact absurd c_1 (nI_pos (by omega))
  · refine lv_iload_n hx hb dX0_leastOf_4 rfl (lv_at hl 1 rfl) ?_
    refine lv_iconst (v := 3) hx hb dX0_leastOf_5 (by decide) ?_
    refine lv_icmp_ge (tgt := 18) hx hb dX0_leastOf_6 (by decide) (fun c_6 => ?_) (fun c_6 => ?_)
    · exact absurd (show nI 3 ≤ nI c0 from c_6) (nI_ge (by omega) (by omega))
    · refine lv_aload_n hx hb dX0_leastOf_9 rfl (lv_at hl 0 rfl) ?_
      refine k_get (ci := 1) (CC := RX0) (T := TX0) (N := 6) (v := .ref ql) C G 0 rfl rfl in_1 4 (by decide) fl_X0_18 rfl rfl dX0_leastOf_10 ?_
      refine lv_iload_n hx hb dX0_leastOf_13 rfl (lv_at hl 1 rfl) ?_
      have h_14 : vp_in (nI c0) 3 := by exact vp_in_nI (by omega) (by omega)
      refine k_iald C G 3 rfl h_14 dX0_leastOf_14 ?_
      refine lv_goto (tgt := 19) hx hb dX0_leastOf_15 (by decide) ?_
      exact kr_i C G ⟨by rw [nI_clamp (by omega)], rfl⟩ (Nat.le_refl _) (Nat.le_refl _) dX0_leastOf_19
set_option maxRecDepth 100000 in
set_option maxHeartbeats 4000000 in
theorem c_X0_greatestOf (Z : zT) (l : Launch) (h qv qp ql qg c0 : Nat) (P n : Int32) (V pr le gr : Nat → Int32) (hc : c0 < 3) : Ki Z l yX0_greatestOf cX0_greatestOf 2 (some .int) ({ frames := 0, cells := 0, slots := 0, locals := 0 }) [.ref h, .int (nI c0)] (btW Z h qv qp ql qg P n V pr le gr) (fun v u => v = gr c0 ∧ u = btW Z h qv qp ql qg P n V pr le gr) := by
  intro sz
  refine Met.ofK (cc := cX0_greatestOf) (maxL := 2) (ret := (some .int)) (by decide) (Nat.le_of_ble_eq_true rfl) ?_
  intro p e s m below meth c ls C G hl
  generalize va_A _ sz = A at G ⊢
  have hx := C.1
  have hb := C.2.1
  have hown := C.2.2.2.2.2.1
  have hts := C.2.2.2.2.2.2.1
  refine lv_iload_n hx hb dX0_greatestOf_0 rfl (lv_at hl 1 rfl) ?_
  refine lv_if_lt (tgt := 18) hx hb dX0_greatestOf_1 (by decide) (fun c_1 => ?_) (fun c_1 => ?_)
  · exact absurd c_1 (nI_pos (by omega))
  · refine lv_iload_n hx hb dX0_greatestOf_4 rfl (lv_at hl 1 rfl) ?_
    refine lv_iconst (v := 3) hx hb dX0_greatestOf_5 (by decide) ?_
    refine lv_icmp_ge (tgt := 18) hx hb dX0_greatestOf_6 (by decide) (fun c_6 => ?_) (fun c_6 => ?_)
    · exact absurd (show nI 3 ≤ nI c0 from c_6) (nI_ge (by omega) (by omega))
    · refine lv_aload_n hx hb dX0_greatestOf_9 rfl (lv_at hl 0 rfl) ?_
      refine k_get (ci := 1) (CC := RX0) (T := TX0) (N := 6) (v := .ref qg) C G 0 rfl rfl in_1 5 (by decide) fl_X0_21 rfl rfl dX0_greatestOf_10 ?_
      refine lv_iload_n hx hb dX0_greatestOf_13 rfl (lv_at hl 1 rfl) ?_
      have h_14 : vp_in (nI c0) 3 := by exact vp_in_nI (by omega) (by omega)
      refine k_iald C G 4 rfl h_14 dX0_greatestOf_14 ?_
      refine lv_goto (tgt := 19) hx hb dX0_greatestOf_15 (by decide) ?_
      exact kr_i C G ⟨by rw [nI_clamp (by omega)], rfl⟩ (Nat.le_refl _) (Nat.le_refl _) dX0_greatestOf_19
set_option maxRecDepth 100000 in
set_option maxHeartbeats 4000000 in
theorem c_X0_addRow (Z : zT) (l : Launch) (h qv qp ql qg k0 : Nat) (P a0 b0 c0 : Int32) (V pr le gr : Nat → Int32) (hb0 : bt_ok V pr le gr (fun _ => k0)) (hk : k0 < 48) : Kv Z l yX0_addRow cX0_addRow 4 none ({ frames := 1, cells := 0, slots := 0, locals := 40 }) [.ref h, .int a0, .int b0, .int c0] (btW Z h qv qp ql qg P (nI k0) V pr le gr) (fun u => ∃ pr2 le2 gr2, bt_ok (upd (upd (upd V (48 * 0 + k0) a0) (48 * 1 + k0) b0) (48 * 2 + k0) c0) pr2 le2 gr2 (fun _ => k0 + 1) ∧ u = btW Z h qv qp ql qg P (nI (k0 + 1)) (upd (upd (upd V (48 * 0 + k0) a0) (48 * 1 + k0) b0) (48 * 2 + k0) c0) pr2 le2 gr2) := by
  intro sz
  refine Met.ofK (cc := cX0_addRow) (maxL := 4) (ret := none) (by decide) (Nat.le_of_ble_eq_true rfl) ?_
  intro p e s m below meth c ls C G hl
  generalize va_A _ sz = A at G ⊢
  have hx := C.1
  have hb := C.2.1
  have hown := C.2.2.2.2.2.1
  have hts := C.2.2.2.2.2.2.1
  refine lv_aload_n hx hb dX0_addRow_0 rfl (lv_at hl 0 rfl) ?_
  refine k_get (ci := 1) (CC := RX0) (T := TX0) (N := 6) (v := .int (nI k0)) C G 0 rfl rfl in_1 1 (by decide) fl_X0_28 rfl rfl dX0_addRow_1 ?_
  refine lv_bipush (v := 48) hx hb dX0_addRow_4 (by decide) ?_
  refine lv_icmp_ge (tgt := 49) hx hb dX0_addRow_6 (by decide) (fun c_6 => ?_) (fun c_6 => ?_)
  · exact absurd (show nI 48 ≤ nI k0 from c_6) (nI_ge (by omega) (by omega))
  · refine lv_aload_n hx hb dX0_addRow_9 rfl (lv_at hl 0 rfl) ?_
    refine lv_iconst (v := 0) hx hb dX0_addRow_10 (by decide) ?_
    refine lv_aload_n hx hb dX0_addRow_11 rfl (lv_at hl 0 rfl) ?_
    refine k_get (ci := 1) (CC := RX0) (T := TX0) (N := 6) (v := .int (nI k0)) C G 0 rfl rfl in_1 1 (by decide) fl_X0_28 rfl rfl dX0_addRow_12 ?_
    refine lv_iload_n hx hb dX0_addRow_15 rfl (lv_at hl 1 rfl) ?_
    have hX : List.Perm ([(h, .inr (1, [.int P, .int (nI k0), .ref qv, .ref qp, .ref ql, .ref qg])), (qv, aI Z 144 V), (qp, aI Z 3 pr), (ql, aI Z 3 le), (qg, aI Z 3 gr)]) ([(h, .inr (1, [.int P, .int (nI k0), .ref qv, .ref qp, .ref ql, .ref qg])), (qv, aI Z 144 V), (qp, aI Z 3 pr), (ql, aI Z 3 le), (qg, aI Z 3 gr)] ++ ([])) := (perm_ix [0, 1, 2, 3, 4] rfl 5 (by decide) rfl)
    refine kc_v (Wc := [(h, .inr (1, [.int P, .int (nI k0), .ref qv, .ref qp, .ref ql, .ref qg])), (qv, aI Z 144 V), (qp, aI Z 3 pr), (ql, aI Z 3 le), (qg, aI Z 3 gr)]) (Wr := []) G hX (krV 3 rfl (As := [.int 0, .int (nI k0), .int a0]) (rest := []) (ci := 1) (CC := RX0) (T := TX0) (N := 6) C G hX (c_X0_setValue Z l h qv qp ql qg 0 (fun _ => k0) P (nI k0) a0 V pr le gr hb0 (by omega) (fun _ _ => by omega) (by omega) _) (gdV ml_X0_37 im_X0_setValue se_X0_setValue ii_X0 co_X0_setValue) (by decide +kernel) ⟨Nat.le_of_ble_eq_true rfl, Nat.le_of_ble_eq_true rfl⟩ rfl 0 rfl hl rfl (Nat.le_of_ble_eq_true rfl) ⟨Nat.le_of_ble_eq_true rfl, Nat.le_of_ble_eq_true rfl⟩ dX0_addRow_16) (fun u H locs hu G => ?_)
    obtain ⟨pr1, le1, gr1, hb1, rfl⟩ := hu
    have G : wd Z A s ([(h, .inr (1, [.int P, .int (nI k0), .ref qv, .ref qp, .ref ql, .ref qg])), (qv, aI Z 144 (upd V (48 * 0 + k0) a0)), (qp, aI Z 3 pr1), (ql, aI Z 3 le1), (qg, aI Z 3 gr1)]) H locs := G
    refine lv_aload_n hx hb dX0_addRow_19 rfl (lv_at hl 0 rfl) ?_
    refine lv_iconst (v := 1) hx hb dX0_addRow_20 (by decide) ?_
    refine lv_aload_n hx hb dX0_addRow_21 rfl (lv_at hl 0 rfl) ?_
    refine k_get (ci := 1) (CC := RX0) (T := TX0) (N := 6) (v := .int (nI k0)) C G 0 rfl rfl in_1 1 (by decide) fl_X0_28 rfl rfl dX0_addRow_22 ?_
    refine lv_iload_n hx hb dX0_addRow_25 rfl (lv_at hl 2 rfl) ?_
    have hX : List.Perm ([(h, .inr (1, [.int P, .int (nI k0), .ref qv, .ref qp, .ref ql, .ref qg])), (qv, aI Z 144 (upd V (48 * 0 + k0) a0)), (qp, aI Z 3 pr1), (ql, aI Z 3 le1), (qg, aI Z 3 gr1)]) ([(h, .inr (1, [.int P, .int (nI k0), .ref qv, .ref qp, .ref ql, .ref qg])), (qv, aI Z 144 (upd V (48 * 0 + k0) a0)), (qp, aI Z 3 pr1), (ql, aI Z 3 le1), (qg, aI Z 3 gr1)] ++ ([])) := (perm_ix [0, 1, 2, 3, 4] rfl 5 (by decide) rfl)
    refine kc_v (Wc := [(h, .inr (1, [.int P, .int (nI k0), .ref qv, .ref qp, .ref ql, .ref qg])), (qv, aI Z 144 (upd V (48 * 0 + k0) a0)), (qp, aI Z 3 pr1), (ql, aI Z 3 le1), (qg, aI Z 3 gr1)]) (Wr := []) G hX (krV 3 rfl (As := [.int 1, .int (nI k0), .int b0]) (rest := []) (ci := 1) (CC := RX0) (T := TX0) (N := 6) C G hX (c_X0_setValue Z l h qv qp ql qg 1 (fun d => if d = 0 then k0 + 1 else k0) P (nI k0) b0 (upd V (48 * 0 + k0) a0) pr1 le1 gr1 hb1 (by omega) (fun d _ => by show (if d = 0 then k0 + 1 else k0) ≤ 48; split <;> omega) (by show k0 < 48; omega) _) (gdV ml_X0_37 im_X0_setValue se_X0_setValue ii_X0 co_X0_setValue) (by decide +kernel) ⟨Nat.le_of_ble_eq_true rfl, Nat.le_of_ble_eq_true rfl⟩ rfl 0 rfl hl rfl (Nat.le_of_ble_eq_true rfl) ⟨Nat.le_of_ble_eq_true rfl, Nat.le_of_ble_eq_true rfl⟩ dX0_addRow_26) (fun u H locs hu G => ?_)
    obtain ⟨pr2, le2, gr2, hb2, rfl⟩ := hu
    have G : wd Z A s ([(h, .inr (1, [.int P, .int (nI k0), .ref qv, .ref qp, .ref ql, .ref qg])), (qv, aI Z 144 (upd (upd V (48 * 0 + k0) a0) (48 * 1 + k0) b0)), (qp, aI Z 3 pr2), (ql, aI Z 3 le2), (qg, aI Z 3 gr2)]) H locs := G
    refine lv_aload_n hx hb dX0_addRow_29 rfl (lv_at hl 0 rfl) ?_
    refine lv_iconst (v := 2) hx hb dX0_addRow_30 (by decide) ?_
    refine lv_aload_n hx hb dX0_addRow_31 rfl (lv_at hl 0 rfl) ?_
    refine k_get (ci := 1) (CC := RX0) (T := TX0) (N := 6) (v := .int (nI k0)) C G 0 rfl rfl in_1 1 (by decide) fl_X0_28 rfl rfl dX0_addRow_32 ?_
    refine lv_iload_n hx hb dX0_addRow_35 rfl (lv_at hl 3 rfl) ?_
    have hX : List.Perm ([(h, .inr (1, [.int P, .int (nI k0), .ref qv, .ref qp, .ref ql, .ref qg])), (qv, aI Z 144 (upd (upd V (48 * 0 + k0) a0) (48 * 1 + k0) b0)), (qp, aI Z 3 pr2), (ql, aI Z 3 le2), (qg, aI Z 3 gr2)]) ([(h, .inr (1, [.int P, .int (nI k0), .ref qv, .ref qp, .ref ql, .ref qg])), (qv, aI Z 144 (upd (upd V (48 * 0 + k0) a0) (48 * 1 + k0) b0)), (qp, aI Z 3 pr2), (ql, aI Z 3 le2), (qg, aI Z 3 gr2)] ++ ([])) := (perm_ix [0, 1, 2, 3, 4] rfl 5 (by decide) rfl)
    refine kc_v (Wc := [(h, .inr (1, [.int P, .int (nI k0), .ref qv, .ref qp, .ref ql, .ref qg])), (qv, aI Z 144 (upd (upd V (48 * 0 + k0) a0) (48 * 1 + k0) b0)), (qp, aI Z 3 pr2), (ql, aI Z 3 le2), (qg, aI Z 3 gr2)]) (Wr := []) G hX (krV 3 rfl (As := [.int 2, .int (nI k0), .int c0]) (rest := []) (ci := 1) (CC := RX0) (T := TX0) (N := 6) C G hX (c_X0_setValue Z l h qv qp ql qg 2 (fun d => if d = 1 then k0 + 1 else (if d = 0 then k0 + 1 else k0)) P (nI k0) c0 (upd (upd V (48 * 0 + k0) a0) (48 * 1 + k0) b0) pr2 le2 gr2 hb2 (by omega) (fun d _ => by show (if d = 1 then k0 + 1 else (if d = 0 then k0 + 1 else k0)) ≤ 48; (repeat' split) <;> omega) (by show k0 < 48; omega) _) (gdV ml_X0_37 im_X0_setValue se_X0_setValue ii_X0 co_X0_setValue) (by decide +kernel) ⟨Nat.le_of_ble_eq_true rfl, Nat.le_of_ble_eq_true rfl⟩ rfl 0 rfl hl rfl (Nat.le_of_ble_eq_true rfl) ⟨Nat.le_of_ble_eq_true rfl, Nat.le_of_ble_eq_true rfl⟩ dX0_addRow_36) (fun u H locs hu G => ?_)
    obtain ⟨pr3, le3, gr3, hb3, rfl⟩ := hu
    have G : wd Z A s ([(h, .inr (1, [.int P, .int (nI k0), .ref qv, .ref qp, .ref ql, .ref qg])), (qv, aI Z 144 (upd (upd (upd V (48 * 0 + k0) a0) (48 * 1 + k0) b0) (48 * 2 + k0) c0)), (qp, aI Z 3 pr3), (ql, aI Z 3 le3), (qg, aI Z 3 gr3)]) H locs := G
    refine lv_aload_n hx hb dX0_addRow_39 rfl (lv_at hl 0 rfl) ?_
    refine lv_dup hx hb dX0_addRow_40 rfl ?_
    refine k_get (ci := 1) (CC := RX0) (T := TX0) (N := 6) (v := .int (nI k0)) C G 0 rfl rfl in_1 1 (by decide) fl_X0_28 rfl rfl dX0_addRow_41 ?_
    refine lv_iconst (v := 1) hx hb dX0_addRow_44 (by decide) ?_
    refine lv_iadd hx hb dX0_addRow_45 ?_
    refine k_topi (y := nI (k0 + 1)) (by exact nI_1 _) ?_
    refine k_put (ci := 1) (CC := RX0) (T := TX0) (N := 6) (ty := .int) (v := .int (nI (k0 + 1))) C G 0 rfl rfl in_1 tyX0 tyX0_ok nmX0 1 (by decide) fl_X0_28 rfl rfl rfl rfl rfl (Nat.le_of_ble_eq_true rfl) dX0_addRow_46 (fun H locs (G : wd Z A s ([(h, .inr (1, [.int P, .int (nI (k0 + 1)), .ref qv, .ref qp, .ref ql, .ref qg])), (qv, aI Z 144 (upd (upd (upd V (48 * 0 + k0) a0) (48 * 1 + k0) b0) (48 * 2 + k0) c0)), (qp, aI Z 3 pr3), (ql, aI Z 3 le3), (qg, aI Z 3 gr3)]) H locs) => ?_)
    exact kr_v C G ⟨_, _, _, by_k3 hb3, rfl⟩ (Nat.le_of_ble_eq_true rfl) (Nat.le_of_ble_eq_true rfl) dX0_addRow_49
