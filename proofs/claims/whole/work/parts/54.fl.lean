/-! MODULE FileList (X3). -/
set_option maxRecDepth 100000 in
set_option maxHeartbeats 4000000 in
theorem c_X3_init (Z : zT) (l : Launch) (h : Nat) : Kv Z l yX3_init cX3_init 1 none ({ frames := 1, cells := 2, slots := 400, locals := 12 }) [.ref h] [(h, .inr (4, [.null, .null, .int 0]))] (fun u => ∃ qn qp, u = flW Z h qn qp 0 (fun _ => 0) (fun _ => 0)) := by
  intro sz
  refine Met.ofK (cc := cX3_init) (maxL := 1) (ret := none) (by decide) (Nat.le_of_ble_eq_true rfl) ?_
  intro p e s m below meth c ls C G hl
  generalize va_A _ sz = A at G ⊢
  have hx := C.1
  have hb := C.2.1
  have hown := C.2.2.2.2.2.1
  have hts := C.2.2.2.2.2.2.1
  refine lv_aload_n hx hb dX3_init_0 rfl (lv_at hl 0 rfl) ?_
  refine k_objInit C hl.1 ml_X3_3 im_Object__init____V co_obj (Nat.le_of_ble_eq_true rfl) (Nat.le_of_ble_eq_true rfl) dX3_init_1 ?_
  refine lv_aload_n hx hb dX3_init_4 rfl (lv_at hl 0 rfl) ?_
  refine lv_sipush (v := 200) hx hb dX3_init_5 (by decide) ?_
  refine k_newa (i := 200) (N' := 200) (ty := .int) C G 1 rfl rfl rfl ac_int (by decide) (by decide) (by decide) (Nat.le_of_ble_eq_true rfl) (Nat.le_of_ble_eq_true rfl) dX3_init_8 (fun qn H (G : wd Z A s ([(h, .inr (4, [.null, .null, .int 0])), (qn, aI Z 200 (fun _ => 0))]) H _) => ?_)
  refine k_putF (ci := 4) (CC := RX3) (T := TX3) (N := 3) (ty := .array .int) (v := .ref qn) C G 0 rfl rfl in_4 tyX3 tyX3_ok nmX3 0 (by decide) fl_X3_9 rfl rfl rfl rfl rfl rfl (Nat.le_of_ble_eq_true rfl) dX3_init_10 (fun H locs (G : wd Z A s ([(h, .inr (4, [.ref qn, .null, .int 0])), (qn, aI Z 200 (fun _ => 0))]) H locs) => ?_)
  refine lv_aload_n hx hb dX3_init_13 rfl (lv_at hl 0 rfl) ?_
  refine lv_sipush (v := 200) hx hb dX3_init_14 (by decide) ?_
  refine k_newa (i := 200) (N' := 200) (ty := .int) C G 1 rfl rfl rfl ac_int (by decide) (by decide) (by decide) (Nat.le_of_ble_eq_true rfl) (Nat.le_of_ble_eq_true rfl) dX3_init_17 (fun qp H (G : wd Z A s ([(h, .inr (4, [.ref qn, .null, .int 0])), (qn, aI Z 200 (fun _ => 0)), (qp, aI Z 200 (fun _ => 0))]) H _) => ?_)
  refine k_putF (ci := 4) (CC := RX3) (T := TX3) (N := 3) (ty := .array .int) (v := .ref qp) C G 0 rfl rfl in_4 tyX3 tyX3_ok nmX3 1 (by decide) fl_X3_15 rfl rfl rfl rfl rfl rfl (Nat.le_of_ble_eq_true rfl) dX3_init_19 (fun H locs (G : wd Z A s ([(h, .inr (4, [.ref qn, .ref qp, .int 0])), (qn, aI Z 200 (fun _ => 0)), (qp, aI Z 200 (fun _ => 0))]) H locs) => ?_)
  exact kr_v C G ⟨qn, qp, rfl⟩ (Nat.le_of_ble_eq_true rfl) (Nat.le_of_ble_eq_true rfl) dX3_init_22
set_option maxRecDepth 100000 in
set_option maxHeartbeats 4000000 in
theorem c_X3_clear (Z : zT) (l : Launch) (h qn qp m0 : Nat) (N Pt : Nat → Int32) : Kv Z l yX3_clear cX3_clear 1 none ({ frames := 0, cells := 0, slots := 0, locals := 0 }) [.ref h] (flW Z h qn qp m0 N Pt) (fun u => u = flW Z h qn qp 0 N Pt) := by
  intro sz
  refine Met.ofK (cc := cX3_clear) (maxL := 1) (ret := none) (by decide) (Nat.le_of_ble_eq_true rfl) ?_
  intro p e s m below meth c ls C G hl
  generalize va_A _ sz = A at G ⊢
  have hx := C.1
  have hb := C.2.1
  have hown := C.2.2.2.2.2.1
  have hts := C.2.2.2.2.2.2.1
  refine lv_aload_n hx hb dX3_clear_0 rfl (lv_at hl 0 rfl) ?_
  refine lv_iconst (v := 0) hx hb dX3_clear_1 (by decide) ?_
  refine k_put (ci := 4) (CC := RX3) (T := TX3) (N := 3) (ty := .int) (v := .int 0) C G 0 rfl rfl in_4 tyX3 tyX3_ok nmX3 2 (by decide) fl_X3_18 rfl rfl rfl rfl rfl (Nat.le_of_ble_eq_true rfl) dX3_clear_2 (fun H locs (G : wd Z A s ([(h, .inr (4, [.ref qn, .ref qp, .int 0])), (qn, aI Z 200 N), (qp, aI Z 200 Pt)]) H locs) => ?_)
  exact kr_v C G rfl (Nat.le_refl _) (Nat.le_refl _) dX3_clear_5
set_option maxRecDepth 100000 in
set_option maxHeartbeats 4000000 in
theorem c_X3_numberAt (Z : zT) (l : Launch) (h qn qp m0 : Nat) (x : Int32) (N Pt : Nat → Int32) (hm : m0 ≤ 200) : Ki Z l yX3_numberAt cX3_numberAt 2 (some .int) ({ frames := 0, cells := 0, slots := 0, locals := 0 }) [.ref h, .int x] (flW Z h qn qp m0 N Pt) (fun r u => r = (if 0 ≤ x ∧ x < nI m0 then N x.toNatClampNeg else -1) ∧ u = flW Z h qn qp m0 N Pt) := by
  intro sz
  refine Met.ofK (cc := cX3_numberAt) (maxL := 2) (ret := (some .int)) (by decide) (Nat.le_of_ble_eq_true rfl) ?_
  intro p e s m below meth c ls C G hl
  generalize va_A _ sz = A at G ⊢
  have hx := C.1
  have hb := C.2.1
  have hown := C.2.2.2.2.2.1
  have hts := C.2.2.2.2.2.2.1
  refine lv_iload_n hx hb dX3_numberAt_0 rfl (lv_at hl 1 rfl) ?_
  refine lv_if_lt (tgt := 21) hx hb dX3_numberAt_1 (by decide) (fun c_1 => ?_) (fun c_1 => ?_)
  · refine lv_iconst (v := (-1)) hx hb dX3_numberAt_21 (by decide) ?_
    refine lv_goto (tgt := 31) hx hb dX3_numberAt_22 (by decide) ?_
    exact kr_i C G ⟨by rw [if_neg (fun z => absurd c_1 (Int32.not_lt.mpr z.1))], rfl⟩ (Nat.le_refl _) (Nat.le_refl _) dX3_numberAt_31
  · refine lv_iload_n hx hb dX3_numberAt_4 rfl (lv_at hl 1 rfl) ?_
    refine lv_aload_n hx hb dX3_numberAt_5 rfl (lv_at hl 0 rfl) ?_
    refine k_get (ci := 4) (CC := RX3) (T := TX3) (N := 3) (v := .int (nI m0)) C G 0 rfl rfl in_4 2 (by decide) fl_X3_18 rfl rfl dX3_numberAt_6 ?_
    refine lv_icmp_ge (tgt := 21) hx hb dX3_numberAt_9 (by decide) (fun c_9 => ?_) (fun c_9 => ?_)
    · refine lv_iconst (v := (-1)) hx hb dX3_numberAt_21 (by decide) ?_
      refine lv_goto (tgt := 31) hx hb dX3_numberAt_22 (by decide) ?_
      exact kr_i C G ⟨by rw [if_neg (fun z => absurd c_9 (Int32.not_le.mpr z.2))], rfl⟩ (Nat.le_refl _) (Nat.le_refl _) dX3_numberAt_31
    · obtain ⟨j, hj, ej⟩ := nI_of c_1
      have hjm : j < m0 := by rw [ej] at c_9; exact nI_nle_lt c_9 hj
      refine lv_iload_n hx hb dX3_numberAt_12 rfl (lv_at hl 1 rfl) ?_
      refine lv_aload_n hx hb dX3_numberAt_13 rfl (lv_at hl 0 rfl) ?_
      refine k_get (ci := 4) (CC := RX3) (T := TX3) (N := 3) (v := .ref qn) C G 0 rfl rfl in_4 0 (by decide) fl_X3_9 rfl rfl dX3_numberAt_14 ?_
      refine k_alen (ty := .int) C G 1 1 rfl rfl dX3_numberAt_17 ?_
      refine lv_icmp_lt (tgt := 25) hx hb dX3_numberAt_18 (by decide) (fun c_18 => ?_) (fun c_18 => ?_)
      · refine lv_aload_n hx hb dX3_numberAt_25 rfl (lv_at hl 0 rfl) ?_
        refine k_get (ci := 4) (CC := RX3) (T := TX3) (N := 3) (v := .ref qn) C G 0 rfl rfl in_4 0 (by decide) fl_X3_9 rfl rfl dX3_numberAt_26 ?_
        refine lv_iload_n hx hb dX3_numberAt_29 rfl (lv_at hl 1 rfl) ?_
        have h_30 : vp_in x 200 := by rw [ej]; exact vp_in_nI (by omega) (by omega)
        refine k_iald C G 1 rfl h_30 dX3_numberAt_30 ?_
        exact kr_i C G ⟨by rw [if_pos ⟨Int32.not_lt.mp c_1, Int32.not_le.mp c_9⟩], rfl⟩ (Nat.le_refl _) (Nat.le_refl _) dX3_numberAt_31
      · exact absurd (show x < nI 200 from by rw [ej]; exact nI_lt (by omega) (by omega)) c_18
theorem c_X3_numberAtI (Z : zT) (l : Launch) (h qn qp m0 j : Nat) (N Pt : Nat → Int32) (hm : m0 ≤ 200) (hj : j < m0) : Ki Z l yX3_numberAt cX3_numberAt 2 (some .int) ({ frames := 0, cells := 0, slots := 0, locals := 0 }) [.ref h, .int (nI j)] (flW Z h qn qp m0 N Pt) (fun r u => r = N j ∧ u = flW Z h qn qp m0 N Pt) := by
  have h0 := c_X3_numberAt Z l h qn qp m0 (nI j) N Pt hm
  rw [if_pos ⟨nI_pos' (by omega), nI_lt hj (by omega)⟩, nI_clamp (by omega)] at h0
  exact h0
set_option maxRecDepth 100000 in
set_option maxHeartbeats 4000000 in
theorem c_X3_partitionAt (Z : zT) (l : Launch) (h qn qp m0 : Nat) (x : Int32) (N Pt : Nat → Int32) (hm : m0 ≤ 200) : Ki Z l yX3_partitionAt cX3_partitionAt 2 (some .int) ({ frames := 0, cells := 0, slots := 0, locals := 0 }) [.ref h, .int x] (flW Z h qn qp m0 N Pt) (fun r u => r = (if 0 ≤ x ∧ x < nI m0 then Pt x.toNatClampNeg else -1) ∧ u = flW Z h qn qp m0 N Pt) := by
  intro sz
  refine Met.ofK (cc := cX3_partitionAt) (maxL := 2) (ret := (some .int)) (by decide) (Nat.le_of_ble_eq_true rfl) ?_
  intro p e s m below meth c ls C G hl
  generalize va_A _ sz = A at G ⊢
  have hx := C.1
  have hb := C.2.1
  have hown := C.2.2.2.2.2.1
  have hts := C.2.2.2.2.2.2.1
  refine lv_iload_n hx hb dX3_partitionAt_0 rfl (lv_at hl 1 rfl) ?_
  refine lv_if_lt (tgt := 21) hx hb dX3_partitionAt_1 (by decide) (fun c_1 => ?_) (fun c_1 => ?_)
  · refine lv_iconst (v := (-1)) hx hb dX3_partitionAt_21 (by decide) ?_
    refine lv_goto (tgt := 31) hx hb dX3_partitionAt_22 (by decide) ?_
    exact kr_i C G ⟨by rw [if_neg (fun z => absurd c_1 (Int32.not_lt.mpr z.1))], rfl⟩ (Nat.le_refl _) (Nat.le_refl _) dX3_partitionAt_31
  · refine lv_iload_n hx hb dX3_partitionAt_4 rfl (lv_at hl 1 rfl) ?_
    refine lv_aload_n hx hb dX3_partitionAt_5 rfl (lv_at hl 0 rfl) ?_
    refine k_get (ci := 4) (CC := RX3) (T := TX3) (N := 3) (v := .int (nI m0)) C G 0 rfl rfl in_4 2 (by decide) fl_X3_18 rfl rfl dX3_partitionAt_6 ?_
    refine lv_icmp_ge (tgt := 21) hx hb dX3_partitionAt_9 (by decide) (fun c_9 => ?_) (fun c_9 => ?_)
    · refine lv_iconst (v := (-1)) hx hb dX3_partitionAt_21 (by decide) ?_
      refine lv_goto (tgt := 31) hx hb dX3_partitionAt_22 (by decide) ?_
      exact kr_i C G ⟨by rw [if_neg (fun z => absurd c_9 (Int32.not_le.mpr z.2))], rfl⟩ (Nat.le_refl _) (Nat.le_refl _) dX3_partitionAt_31
    · obtain ⟨j, hj, ej⟩ := nI_of c_1
      have hjm : j < m0 := by rw [ej] at c_9; exact nI_nle_lt c_9 hj
      refine lv_iload_n hx hb dX3_partitionAt_12 rfl (lv_at hl 1 rfl) ?_
      refine lv_aload_n hx hb dX3_partitionAt_13 rfl (lv_at hl 0 rfl) ?_
      refine k_get (ci := 4) (CC := RX3) (T := TX3) (N := 3) (v := .ref qp) C G 0 rfl rfl in_4 1 (by decide) fl_X3_15 rfl rfl dX3_partitionAt_14 ?_
      refine k_alen (ty := .int) C G 2 1 rfl rfl dX3_partitionAt_17 ?_
      refine lv_icmp_lt (tgt := 25) hx hb dX3_partitionAt_18 (by decide) (fun c_18 => ?_) (fun c_18 => ?_)
      · refine lv_aload_n hx hb dX3_partitionAt_25 rfl (lv_at hl 0 rfl) ?_
        refine k_get (ci := 4) (CC := RX3) (T := TX3) (N := 3) (v := .ref qp) C G 0 rfl rfl in_4 1 (by decide) fl_X3_15 rfl rfl dX3_partitionAt_26 ?_
        refine lv_iload_n hx hb dX3_partitionAt_29 rfl (lv_at hl 1 rfl) ?_
        have h_30 : vp_in x 200 := by rw [ej]; exact vp_in_nI (by omega) (by omega)
        refine k_iald C G 2 rfl h_30 dX3_partitionAt_30 ?_
        exact kr_i C G ⟨by rw [if_pos ⟨Int32.not_lt.mp c_1, Int32.not_le.mp c_9⟩], rfl⟩ (Nat.le_refl _) (Nat.le_refl _) dX3_partitionAt_31
      · exact absurd (show x < nI 200 from by rw [ej]; exact nI_lt (by omega) (by omega)) c_18
theorem c_X3_partitionAtI (Z : zT) (l : Launch) (h qn qp m0 j : Nat) (N Pt : Nat → Int32) (hm : m0 ≤ 200) (hj : j < m0) : Ki Z l yX3_partitionAt cX3_partitionAt 2 (some .int) ({ frames := 0, cells := 0, slots := 0, locals := 0 }) [.ref h, .int (nI j)] (flW Z h qn qp m0 N Pt) (fun r u => r = Pt j ∧ u = flW Z h qn qp m0 N Pt) := by
  have h0 := c_X3_partitionAt Z l h qn qp m0 (nI j) N Pt hm
  rw [if_pos ⟨nI_pos' (by omega), nI_lt hj (by omega)⟩, nI_clamp (by omega)] at h0
  exact h0
set_option maxRecDepth 100000 in
set_option maxHeartbeats 4000000 in
theorem c_X3_numberIn (Z : zT) (l : Launch) (h qn qp m0 j : Nat) (pt : Int32) (N Pt : Nat → Int32) (hm : m0 ≤ 200) (hj : j < m0) : Ki Z l yX3_numberIn cX3_numberIn 3 (some .int) ({ frames := 1, cells := 0, slots := 0, locals := 30 }) [.ref h, .int pt, .int (nI j)] (flW Z h qn qp m0 N Pt) (fun r u => r = (if Pt j = pt then N j else -1) ∧ u = flW Z h qn qp m0 N Pt) := by
  intro sz
  refine Met.ofK (cc := cX3_numberIn) (maxL := 3) (ret := (some .int)) (by decide) (Nat.le_of_ble_eq_true rfl) ?_
  intro p e s m below meth c ls C G hl
  generalize va_A _ sz = A at G ⊢
  have hx := C.1
  have hb := C.2.1
  have hown := C.2.2.2.2.2.1
  have hts := C.2.2.2.2.2.2.1
  refine lv_aload_n hx hb dX3_numberIn_0 rfl (lv_at hl 0 rfl) ?_
  refine lv_iload_n hx hb dX3_numberIn_1 rfl (lv_at hl 2 rfl) ?_
  have hX : List.Perm ([(h, .inr (4, [.ref qn, .ref qp, .int (nI m0)])), (qn, aI Z 200 N), (qp, aI Z 200 Pt)]) ([(h, .inr (4, [.ref qn, .ref qp, .int (nI m0)])), (qn, aI Z 200 N), (qp, aI Z 200 Pt)] ++ ([])) := (perm_ix [0, 1, 2] rfl 3 (by decide) rfl)
  refine kc_i (Wc := [(h, .inr (4, [.ref qn, .ref qp, .int (nI m0)])), (qn, aI Z 200 N), (qp, aI Z 200 Pt)]) (Wr := []) G hX (krV 1 rfl (As := [.int (nI j)]) (rest := []) (ci := 4) (CC := RX3) (T := TX3) (N := 3) C G hX (c_X3_partitionAtI Z l h qn qp m0 (j) N Pt hm hj _) (gdV ml_X3_22 im_X3_partitionAt se_X3_partitionAt ii_X3 co_X3_partitionAt) (by decide +kernel) ⟨Nat.le_of_ble_eq_true rfl, Nat.le_of_ble_eq_true rfl⟩ rfl 0 rfl hl rfl (Nat.le_of_ble_eq_true rfl) ⟨Nat.le_of_ble_eq_true rfl, Nat.le_of_ble_eq_true rfl⟩ dX3_numberIn_2) (fun r_2 u H locs hu G => ?_)
  obtain ⟨r_2_e, rfl⟩ := hu
  subst r_2_e
  have G : wd Z A s ([(h, .inr (4, [.ref qn, .ref qp, .int (nI m0)])), (qn, aI Z 200 N), (qp, aI Z 200 Pt)]) H locs := G
  refine lv_iload_n hx hb dX3_numberIn_5 rfl (lv_at hl 1 rfl) ?_
  refine lv_icmp_ne (tgt := 17) hx hb dX3_numberIn_6 (by decide) (fun c_6 => ?_) (fun c_6 => ?_)
  · refine lv_iconst (v := (-1)) hx hb dX3_numberIn_17 (by decide) ?_
    exact kr_i C G ⟨by rw [if_neg c_6], rfl⟩ (Nat.le_of_ble_eq_true rfl) (Nat.le_of_ble_eq_true rfl) dX3_numberIn_18
  · refine lv_aload_n hx hb dX3_numberIn_9 rfl (lv_at hl 0 rfl) ?_
    refine lv_iload_n hx hb dX3_numberIn_10 rfl (lv_at hl 2 rfl) ?_
    have hX : List.Perm ([(h, .inr (4, [.ref qn, .ref qp, .int (nI m0)])), (qn, aI Z 200 N), (qp, aI Z 200 Pt)]) ([(h, .inr (4, [.ref qn, .ref qp, .int (nI m0)])), (qn, aI Z 200 N), (qp, aI Z 200 Pt)] ++ ([])) := (perm_ix [0, 1, 2] rfl 3 (by decide) rfl)
    refine kc_i (Wc := [(h, .inr (4, [.ref qn, .ref qp, .int (nI m0)])), (qn, aI Z 200 N), (qp, aI Z 200 Pt)]) (Wr := []) G hX (krV 1 rfl (As := [.int (nI j)]) (rest := []) (ci := 4) (CC := RX3) (T := TX3) (N := 3) C G hX (c_X3_numberAtI Z l h qn qp m0 (j) N Pt hm hj _) (gdV ml_X3_26 im_X3_numberAt se_X3_numberAt ii_X3 co_X3_numberAt) (by decide +kernel) ⟨Nat.le_of_ble_eq_true rfl, Nat.le_of_ble_eq_true rfl⟩ rfl 0 rfl hl rfl (Nat.le_of_ble_eq_true rfl) ⟨Nat.le_of_ble_eq_true rfl, Nat.le_of_ble_eq_true rfl⟩ dX3_numberIn_11) (fun r_11 u H locs hu G => ?_)
    obtain ⟨r_11_e, rfl⟩ := hu
    subst r_11_e
    have G : wd Z A s ([(h, .inr (4, [.ref qn, .ref qp, .int (nI m0)])), (qn, aI Z 200 N), (qp, aI Z 200 Pt)]) H locs := G
    refine lv_goto (tgt := 18) hx hb dX3_numberIn_14 (by decide) ?_
    exact kr_i C G ⟨by rw [if_pos c_6], rfl⟩ (Nat.le_of_ble_eq_true rfl) (Nat.le_of_ble_eq_true rfl) dX3_numberIn_18
def cntF (Pt : Nat → Int32) (pt : Int32) : Nat → Nat
  | 0 => 0
  | i + 1 => cntF Pt pt i + (if Pt i = pt then 1 else 0)
theorem cntF_le (Pt : Nat → Int32) (pt : Int32) : ∀ i, cntF Pt pt i ≤ i
  | 0 => Nat.le_refl _
  | i + 1 => by
    have := cntF_le Pt pt i
    unfold cntF
    split <;> omega
set_option maxRecDepth 100000 in
set_option maxHeartbeats 4000000 in
theorem lp_X3_countOf {p : Program} {l : Launch} {e : Env} {s : State} {m : MethodId} {args : Array Value} {below : List Frame} {meth : Method} {c : Code} {Z : zT} {A : Nat → Prop} {h qn qp m0 : Nat} {pt : Int32} {N Pt : Nat → Int32} {post : Int32 → va_W → Prop} (C : cx p s m args meth c cX3_countOf 4 (some .int) RX3 "countOf") (hm : m0 ≤ 200) (hp : ∀ r : Int32, r = nI (cntF Pt pt m0) → post r (flW Z h qn qp m0 N Pt)) : ∀ (k i : Nat), i + k = m0 → ∀ (H : Heap) (locs : List Loc) (ls : Array Slot), wd Z A s (flW Z h qn qp m0 N Pt) H locs → lv_has ls 4 [(3, .int (nI i)), (2, .int (nI (cntF Pt pt i))), (0, .ref h), (1, .int pt)] → W p l e ({ frames := 1, cells := 0, slots := 0, locals := 30 }) s m args below meth c H locs 0 0 (MQ below (va_Qi post (mB Z A) A) args s 0 0 A) (F0 m 4 ls []) := by
  have hx := C.1
  have hb := C.2.1
  have hown := C.2.2.2.2.2.1
  have hts := C.2.2.2.2.2.2.1
  intro k
  induction k with
  | zero =>
    intro i hi H locs ls G hl
    refine lv_iload_n hx hb dX3_countOf_4 rfl (lv_at hl 0 rfl) ?_
    refine lv_aload_n hx hb dX3_countOf_5 rfl (lv_at hl 2 rfl) ?_
    refine k_get (ci := 4) (CC := RX3) (T := TX3) (N := 3) (v := .int (nI m0)) C G 0 rfl rfl in_4 2 (by decide) fl_X3_18 rfl rfl dX3_countOf_6 ?_
    refine lv_icmp_ge (tgt := 35) hx hb dX3_countOf_9 (by decide) (fun c_9 => ?_) (fun c_9 => ?_)
    · refine lv_iload_n hx hb dX3_countOf_35 rfl (lv_at hl 1 rfl) ?_
      exact kr_i C G (hp _ (by rw [show i = m0 by omega])) (Nat.le_of_ble_eq_true rfl) (Nat.le_of_ble_eq_true rfl) dX3_countOf_36
    · exact absurd (nI_le (by omega) (by omega)) c_9
  | succ k ih =>
    intro i hi H locs ls G hl
    refine lv_iload_n hx hb dX3_countOf_4 rfl (lv_at hl 0 rfl) ?_
    refine lv_aload_n hx hb dX3_countOf_5 rfl (lv_at hl 2 rfl) ?_
    refine k_get (ci := 4) (CC := RX3) (T := TX3) (N := 3) (v := .int (nI m0)) C G 0 rfl rfl in_4 2 (by decide) fl_X3_18 rfl rfl dX3_countOf_6 ?_
    refine lv_icmp_ge (tgt := 35) hx hb dX3_countOf_9 (by decide) (fun c_9 => ?_) (fun c_9 => ?_)
    · exact absurd c_9 (nI_ge (by omega) (by omega))
    · refine lv_iload_n hx hb dX3_countOf_12 rfl (lv_at hl 1 rfl) ?_
      refine lv_aload_n hx hb dX3_countOf_13 rfl (lv_at hl 2 rfl) ?_
      refine lv_iload_n hx hb dX3_countOf_14 rfl (lv_at hl 0 rfl) ?_
      have hX : List.Perm ([(h, .inr (4, [.ref qn, .ref qp, .int (nI m0)])), (qn, aI Z 200 N), (qp, aI Z 200 Pt)]) ([(h, .inr (4, [.ref qn, .ref qp, .int (nI m0)])), (qn, aI Z 200 N), (qp, aI Z 200 Pt)] ++ ([])) := (perm_ix [0, 1, 2] rfl 3 (by decide) rfl)
      refine kc_i (Wc := [(h, .inr (4, [.ref qn, .ref qp, .int (nI m0)])), (qn, aI Z 200 N), (qp, aI Z 200 Pt)]) (Wr := []) G hX (krV 1 rfl (As := [.int (nI i)]) (rest := [.int (nI (cntF Pt pt i))]) (ci := 4) (CC := RX3) (T := TX3) (N := 3) C G hX (c_X3_partitionAtI Z l h qn qp m0 (i) N Pt hm (by omega) _) (gdV ml_X3_22 im_X3_partitionAt se_X3_partitionAt ii_X3 co_X3_partitionAt) (by decide +kernel) ⟨Nat.le_of_ble_eq_true rfl, Nat.le_of_ble_eq_true rfl⟩ rfl 0 rfl hl rfl (Nat.le_of_ble_eq_true rfl) ⟨Nat.le_of_ble_eq_true rfl, Nat.le_of_ble_eq_true rfl⟩ dX3_countOf_15) (fun r_15 u H locs hu G => ?_)
      obtain ⟨r_15_e, rfl⟩ := hu
      subst r_15_e
      have G : wd Z A s ([(h, .inr (4, [.ref qn, .ref qp, .int (nI m0)])), (qn, aI Z 200 N), (qp, aI Z 200 Pt)]) H locs := G
      refine lv_iload_n hx hb dX3_countOf_18 rfl (lv_at hl 3 rfl) ?_
      refine lv_icmp_ne (tgt := 26) hx hb dX3_countOf_19 (by decide) (fun c_19 => ?_) (fun c_19 => ?_)
      · refine lv_iconst (v := 0) hx hb dX3_countOf_26 (by decide) ?_
        refine lv_iadd hx hb dX3_countOf_27 ?_
        refine k_topi (y := nI (cntF Pt pt (i + 1))) (by rw [cntF, if_neg c_19]; exact Int32.add_zero _) ?_
        refine lv_istore_n (lv' := [(2, .int (nI (cntF Pt pt (i + 1)))), (3, .int (nI i)), (0, .ref h), (1, .int pt)]) hx hb dX3_countOf_28 rfl hl (by decide) rfl (fun ls hl => ?_)
        refine lv_iinc (v := nI (i + 1)) (lv' := [(3, .int (nI (i + 1))), (2, .int (nI (cntF Pt pt (i + 1)))), (0, .ref h), (1, .int pt)]) hx hb dX3_countOf_29 hl (k := 1) rfl (nI_1 _) (by decide) rfl (fun ls hl => ?_)
        refine lv_goto (tgt := 4) hx hb dX3_countOf_32 (by decide) ?_
        exact ih (i + 1) (by omega) _ _ _ G (lv_sub hl [0, 1, 2, 3] rfl)
      · refine lv_iconst (v := 1) hx hb dX3_countOf_22 (by decide) ?_
        refine lv_goto (tgt := 27) hx hb dX3_countOf_23 (by decide) ?_
        refine lv_iadd hx hb dX3_countOf_27 ?_
        refine k_topi (y := nI (cntF Pt pt (i + 1))) (by rw [cntF, if_pos c_19]; exact nI_1 _) ?_
        refine lv_istore_n (lv' := [(2, .int (nI (cntF Pt pt (i + 1)))), (3, .int (nI i)), (0, .ref h), (1, .int pt)]) hx hb dX3_countOf_28 rfl hl (by decide) rfl (fun ls hl => ?_)
        refine lv_iinc (v := nI (i + 1)) (lv' := [(3, .int (nI (i + 1))), (2, .int (nI (cntF Pt pt (i + 1)))), (0, .ref h), (1, .int pt)]) hx hb dX3_countOf_29 hl (k := 1) rfl (nI_1 _) (by decide) rfl (fun ls hl => ?_)
        refine lv_goto (tgt := 4) hx hb dX3_countOf_32 (by decide) ?_
        exact ih (i + 1) (by omega) _ _ _ G (lv_sub hl [0, 1, 2, 3] rfl)
set_option maxRecDepth 100000 in
set_option maxHeartbeats 4000000 in
theorem c_X3_countOf (Z : zT) (l : Launch) (h qn qp m0 : Nat) (pt : Int32) (N Pt : Nat → Int32) (hm : m0 ≤ 200) : Ki Z l yX3_countOf cX3_countOf 4 (some .int) ({ frames := 1, cells := 0, slots := 0, locals := 30 }) [.ref h, .int pt] (flW Z h qn qp m0 N Pt) (fun r u => r = nI (cntF Pt pt m0) ∧ u = flW Z h qn qp m0 N Pt) := by
  intro sz
  refine Met.ofK (cc := cX3_countOf) (maxL := 4) (ret := (some .int)) (by decide) (Nat.le_of_ble_eq_true rfl) ?_
  intro p e s m below meth c ls C G hl
  generalize va_A _ sz = A at G ⊢
  have hx := C.1
  have hb := C.2.1
  have hown := C.2.2.2.2.2.1
  have hts := C.2.2.2.2.2.2.1
  refine lv_iconst (v := 0) hx hb dX3_countOf_0 (by decide) ?_
  refine lv_istore_n (lv' := [(2, .int 0), (0, .ref h), (1, .int pt)]) hx hb dX3_countOf_1 rfl hl (by decide) rfl (fun ls hl => ?_)
  refine lv_iconst (v := 0) hx hb dX3_countOf_2 (by decide) ?_
  refine lv_istore_n (lv' := [(3, .int 0), (2, .int 0), (0, .ref h), (1, .int pt)]) hx hb dX3_countOf_3 rfl hl (by decide) rfl (fun ls hl => ?_)
  exact lp_X3_countOf C hm (fun r hr => ⟨hr, rfl⟩) m0 0 (by omega) _ _ _ G (lv_sub hl [0, 1, 2, 3] rfl)
set_option maxRecDepth 100000 in
set_option maxHeartbeats 4000000 in
theorem lp_X3_placeOf {p : Program} {l : Launch} {e : Env} {s : State} {m : MethodId} {args : Array Value} {below : List Frame} {meth : Method} {c : Code} {Z : zT} {A : Nat → Prop} {h qn qp : Nat} {x : Int32} {N Pt : Nat → Int32} {F : flT} {post : Int32 → va_W → Prop} (C : cx p s m args meth c cX3_placeOf 5 (some .int) RX3 "placeOf") (hm : F.length ≤ 200) (hfl : fl_at N Pt F) (hso : fl_so F) (hp : ∀ r : Int32, r = nI (plc F x) → post r (flW Z h qn qp F.length N Pt)) : ∀ (k sp pl : Nat), sp < k → pl + sp ≤ F.length → (∀ i, i < pl → (F.getD i (0, 0)).1 < x) → (∀ i, pl + sp ≤ i → i < F.length → ¬ (F.getD i (0, 0)).1 < x) → ∀ (H : Heap) (locs : List Loc) (ls : Array Slot), wd Z A s (flW Z h qn qp F.length N Pt) H locs → lv_has ls 5 [(3, .int (nI sp)), (2, .int (nI pl)), (0, .ref h), (1, .int x)] → W p l e ({ frames := 1, cells := 0, slots := 0, locals := 30 }) s m args below meth c H locs 0 0 (MQ below (va_Qi post (mB Z A) A) args s 0 0 A) (F0 m 7 ls []) := by
  have hx := C.1
  have hb := C.2.1
  have hown := C.2.2.2.2.2.1
  have hts := C.2.2.2.2.2.2.1
  intro k
  induction k with
  | zero => intro sp pl h0; exact absurd h0 (by omega)
  | succ k ih =>
    intro sp pl h0 hle h1 h2 H locs ls G hl
    refine lv_iload_n hx hb dX3_placeOf_7 rfl (lv_at hl 0 rfl) ?_
    refine lv_if_le (tgt := 51) hx hb dX3_placeOf_8 (by decide) (fun c_8 => ?_) (fun c_8 => ?_)
    · refine lv_iload_n hx hb dX3_placeOf_51 rfl (lv_at hl 1 rfl) ?_
      have hz : sp = 0 := by have := (nI_le0 (by omega)).mp c_8; omega
      have hpl : plc F x = pl := plc_eq F x pl (by omega) h1 (fun q => h2 pl (by omega) q)
      exact kr_i C G (hp _ (by rw [hpl])) (Nat.le_of_ble_eq_true rfl) (Nat.le_of_ble_eq_true rfl) dX3_placeOf_52
    · have hsp : 0 < sp := Decidable.byContradiction (fun z => c_8 ((nI_le0 (by omega)).mpr z))
      refine lv_iload_n hx hb dX3_placeOf_11 rfl (lv_at hl 0 rfl) ?_
      refine lv_iconst (v := 2) hx hb dX3_placeOf_12 (by decide) ?_
      refine lv_idiv hx hb dX3_placeOf_13 (by decide) ?_
      refine k_topi (y := nI (sp / 2)) (by exact pk_div (d := 2) (by omega) (by omega) (by omega)) ?_
      refine lv_istore (lv' := [(4, .int (nI (sp / 2))), (3, .int (nI sp)), (2, .int (nI pl)), (0, .ref h), (1, .int x)]) hx hb dX3_placeOf_14 hl (by decide) rfl (fun ls hl => ?_)
      refine lv_aload_n hx hb dX3_placeOf_16 rfl (lv_at hl 3 rfl) ?_
      refine lv_iload_n hx hb dX3_placeOf_17 rfl (lv_at hl 2 rfl) ?_
      refine lv_iload hx hb dX3_placeOf_18 (lv_at hl 0 rfl) ?_
      refine lv_iadd hx hb dX3_placeOf_20 ?_
      refine k_topi (y := nI (pl + sp / 2)) (by exact nI_add _ _) ?_
      have hX : List.Perm ([(h, .inr (4, [.ref qn, .ref qp, .int (nI F.length)])), (qn, aI Z 200 N), (qp, aI Z 200 Pt)]) ([(h, .inr (4, [.ref qn, .ref qp, .int (nI F.length)])), (qn, aI Z 200 N), (qp, aI Z 200 Pt)] ++ ([])) := (perm_ix [0, 1, 2] rfl 3 (by decide) rfl)
      refine kc_i (Wc := [(h, .inr (4, [.ref qn, .ref qp, .int (nI F.length)])), (qn, aI Z 200 N), (qp, aI Z 200 Pt)]) (Wr := []) G hX (krV 1 rfl (As := [.int (nI (pl + sp / 2))]) (rest := []) (ci := 4) (CC := RX3) (T := TX3) (N := 3) C G hX (c_X3_numberAtI Z l h qn qp F.length (pl + sp / 2) N Pt hm (by omega) _) (gdV ml_X3_26 im_X3_numberAt se_X3_numberAt ii_X3 co_X3_numberAt) (by decide +kernel) ⟨Nat.le_of_ble_eq_true rfl, Nat.le_of_ble_eq_true rfl⟩ rfl 0 rfl hl rfl (Nat.le_of_ble_eq_true rfl) ⟨Nat.le_of_ble_eq_true rfl, Nat.le_of_ble_eq_true rfl⟩ dX3_placeOf_21) (fun r_21 u H locs hu G => ?_)
      obtain ⟨r_21_e, rfl⟩ := hu
      subst r_21_e
      have G : wd Z A s ([(h, .inr (4, [.ref qn, .ref qp, .int (nI F.length)])), (qn, aI Z 200 N), (qp, aI Z 200 Pt)]) H locs := G
      refine lv_iload_n hx hb dX3_placeOf_24 rfl (lv_at hl 4 rfl) ?_
      refine lv_icmp_ge (tgt := 45) hx hb dX3_placeOf_25 (by decide) (fun c_25 => ?_) (fun c_25 => ?_)
      · refine lv_iload hx hb dX3_placeOf_45 (lv_at hl 0 rfl) ?_
        refine lv_istore_n (lv' := [(3, .int (nI (sp / 2))), (4, .int (nI (sp / 2))), (2, .int (nI pl)), (0, .ref h), (1, .int x)]) hx hb dX3_placeOf_47 rfl hl (by decide) rfl (fun ls hl => ?_)
        refine lv_goto (tgt := 7) hx hb dX3_placeOf_48 (by decide) ?_
        exact ih (sp / 2) pl (by omega) (by omega) h1 (fun i a b => Int32.not_lt.mpr (by
            rcases Nat.lt_or_ge i (pl + sp) with z | z
            · rcases Nat.lt_or_ge (pl + sp / 2) i with y | y
              · have := fl_mono hso y b
                rw [(hfl _ (by omega)).1] at c_25
                exact Int32.le_of_lt (Int32.lt_of_le_of_lt c_25 this)
              · rw [show i = pl + sp / 2 by omega, ← (hfl _ (by omega)).1]; exact c_25
            · exact Int32.not_lt.mp (h2 i z b))) _ _ _ G (lv_sub hl [0, 2, 3, 4] rfl)
      · refine lv_iload_n hx hb dX3_placeOf_28 rfl (lv_at hl 2 rfl) ?_
        refine lv_iload hx hb dX3_placeOf_29 (lv_at hl 0 rfl) ?_
        refine lv_iconst (v := 1) hx hb dX3_placeOf_31 (by decide) ?_
        refine lv_iadd hx hb dX3_placeOf_32 ?_
        refine lv_iadd hx hb dX3_placeOf_33 ?_
        refine k_topi (y := nI (pl + (sp / 2 + 1))) (by rw [nI_1, nI_add]) ?_
        refine lv_istore_n (lv' := [(2, .int (nI (pl + (sp / 2 + 1)))), (4, .int (nI (sp / 2))), (3, .int (nI sp)), (0, .ref h), (1, .int x)]) hx hb dX3_placeOf_34 rfl hl (by decide) rfl (fun ls hl => ?_)
        refine lv_iload_n hx hb dX3_placeOf_35 rfl (lv_at hl 2 rfl) ?_
        refine lv_iload hx hb dX3_placeOf_36 (lv_at hl 1 rfl) ?_
        refine lv_iconst (v := 1) hx hb dX3_placeOf_38 (by decide) ?_
        refine lv_iadd hx hb dX3_placeOf_39 ?_
        refine lv_isub hx hb dX3_placeOf_40 ?_
        refine k_topi (y := nI (sp - (sp / 2 + 1))) (by rw [nI_1, pk_sub (by omega)]) ?_
        refine lv_istore_n (lv' := [(3, .int (nI (sp - (sp / 2 + 1)))), (2, .int (nI (pl + (sp / 2 + 1)))), (4, .int (nI (sp / 2))), (0, .ref h), (1, .int x)]) hx hb dX3_placeOf_41 rfl hl (by decide) rfl (fun ls hl => ?_)
        refine lv_goto (tgt := 48) hx hb dX3_placeOf_42 (by decide) ?_
        refine lv_goto (tgt := 7) hx hb dX3_placeOf_48 (by decide) ?_
        exact ih (sp - (sp / 2 + 1)) (pl + (sp / 2 + 1)) (by omega) (by omega) (fun i a => by
            have hc : (F.getD (pl + sp / 2) (0, 0)).1 < x := by rw [← (hfl _ (by omega)).1]; exact Int32.not_le.mp c_25
            rcases Nat.lt_or_ge i (pl + sp / 2) with y | y
            · exact Int32.lt_trans (fl_mono hso y (by omega)) hc
            · rw [show i = pl + sp / 2 by omega]; exact hc) (fun i a b => h2 i (by omega) b) _ _ _ G (lv_sub hl [0, 1, 3, 4] rfl)
set_option maxRecDepth 100000 in
set_option maxHeartbeats 4000000 in
theorem c_X3_placeOf (Z : zT) (l : Launch) (h qn qp : Nat) (x : Int32) (N Pt : Nat → Int32) (F : flT) (hm : F.length ≤ 200) (hfl : fl_at N Pt F) (hso : fl_so F) : Ki Z l yX3_placeOf cX3_placeOf 5 (some .int) ({ frames := 1, cells := 0, slots := 0, locals := 30 }) [.ref h, .int x] (flW Z h qn qp F.length N Pt) (fun r u => r = nI (plc F x) ∧ u = flW Z h qn qp F.length N Pt) := by
  intro sz
  refine Met.ofK (cc := cX3_placeOf) (maxL := 5) (ret := (some .int)) (by decide) (Nat.le_of_ble_eq_true rfl) ?_
  intro p e s m below meth c ls C G hl
  generalize va_A _ sz = A at G ⊢
  have hx := C.1
  have hb := C.2.1
  have hown := C.2.2.2.2.2.1
  have hts := C.2.2.2.2.2.2.1
  refine lv_iconst (v := 0) hx hb dX3_placeOf_0 (by decide) ?_
  refine lv_istore_n (lv' := [(2, .int 0), (0, .ref h), (1, .int x)]) hx hb dX3_placeOf_1 rfl hl (by decide) rfl (fun ls hl => ?_)
  refine lv_aload_n hx hb dX3_placeOf_2 rfl (lv_at hl 1 rfl) ?_
  refine k_get (ci := 4) (CC := RX3) (T := TX3) (N := 3) (v := .int (nI F.length)) C G 0 rfl rfl in_4 2 (by decide) fl_X3_18 rfl rfl dX3_placeOf_3 ?_
  refine lv_istore_n (lv' := [(3, .int (nI F.length)), (2, .int 0), (0, .ref h), (1, .int x)]) hx hb dX3_placeOf_6 rfl hl (by decide) rfl (fun ls hl => ?_)
  exact lp_X3_placeOf C hm hfl hso (fun r hr => ⟨hr, rfl⟩) (F.length + 1) F.length 0 (by omega) (by omega) (fun i a => absurd a (Nat.not_lt_zero i)) (fun i a b => absurd b (by omega)) _ _ _ G (lv_sub hl [0, 1, 2, 3] rfl)
