/-! MODULE Blob (X1). -/
set_option maxRecDepth 100000 in
set_option maxHeartbeats 4000000 in
theorem c_X1_init (Z : zT) (l : Launch) (b q : Nat) (x : Int32) : Kv Z l yX1_init cX1_init 3 none ({ frames := 1, cells := 0, slots := 0, locals := 12 }) [.ref b, .int x, .ref q] [(b, .inr (2, [.int 0, .null, .int 0, .int 0, .null, .int 0]))] (fun u => u = [(b, .inr (2, [.int x, .ref q, .int 0, .int 0, .null, .int 0]))]) := by
  intro sz
  refine Met.ofK (cc := cX1_init) (maxL := 3) (ret := none) (by decide) (Nat.le_of_ble_eq_true rfl) ?_
  intro p e s m below meth c ls C G hl
  generalize va_A _ sz = A at G ⊢
  have hx := C.1
  have hb := C.2.1
  have hown := C.2.2.2.2.2.1
  have hts := C.2.2.2.2.2.2.1
  refine lv_aload_n hx hb dX1_init_0 rfl (lv_at hl 0 rfl) ?_
  refine k_objInit C hl.1 ml_X1_3 im_Object__init____V co_obj (Nat.le_of_ble_eq_true rfl) (Nat.le_of_ble_eq_true rfl) dX1_init_1 ?_
  refine lv_aload_n hx hb dX1_init_4 rfl (lv_at hl 0 rfl) ?_
  refine lv_iload_n hx hb dX1_init_5 rfl (lv_at hl 1 rfl) ?_
  refine k_putF (ci := 2) (CC := RX1) (T := TX1) (N := 6) (ty := .int) (v := .int x) C G 0 rfl rfl in_2 tyX1 tyX1_ok nmX1 0 (by decide) fl_X1_9 rfl rfl rfl rfl rfl rfl (Nat.le_of_ble_eq_true rfl) dX1_init_6 (fun H locs (G : wd Z A s ([(b, .inr (2, [.int x, .null, .int 0, .int 0, .null, .int 0]))]) H locs) => ?_)
  refine lv_aload_n hx hb dX1_init_9 rfl (lv_at hl 0 rfl) ?_
  refine lv_aload_n hx hb dX1_init_10 rfl (lv_at hl 2 rfl) ?_
  refine k_putF (ci := 2) (CC := RX1) (T := TX1) (N := 6) (ty := .array .byte) (v := .ref q) C G 0 rfl rfl in_2 tyX1 tyX1_ok nmX1 1 (by decide) fl_X1_15 rfl rfl rfl rfl rfl rfl (Nat.le_of_ble_eq_true rfl) dX1_init_11 (fun H locs (G : wd Z A s ([(b, .inr (2, [.int x, .ref q, .int 0, .int 0, .null, .int 0]))]) H locs) => ?_)
  exact kr_v C G rfl (Nat.le_refl _) (Nat.le_refl _) dX1_init_14
set_option maxRecDepth 100000 in
set_option maxHeartbeats 4000000 in
theorem c_X1_octetAt (Z : zT) (l : Launch) (b q L : Nat) (num ex so : Int32) (bt : Option Nat) (wt : Int32) (f : Nat → Int32) (x : Int32) (hL : L < 2 ^ 30) : Ki Z l yX1_octetAt cX1_octetAt 2 (some .int) ({ frames := 0, cells := 0, slots := 0, locals := 0 }) [.ref b, .int x] (bbW Z b q L num ex so bt wt f) (fun r u => r = (if 0 ≤ x ∧ x < nI L then f x.toNatClampNeg &&& 255 else -1) ∧ u = bbW Z b q L num ex so bt wt f) := by
  intro sz
  refine Met.ofK (cc := cX1_octetAt) (maxL := 2) (ret := (some .int)) (by decide) (Nat.le_of_ble_eq_true rfl) ?_
  intro p e s m below meth c ls C G hl
  generalize va_A _ sz = A at G ⊢
  have hx := C.1
  have hb := C.2.1
  have hown := C.2.2.2.2.2.1
  have hts := C.2.2.2.2.2.2.1
  refine lv_iload_n hx hb dX1_octetAt_0 rfl (lv_at hl 1 rfl) ?_
  refine lv_if_lt (tgt := 13) hx hb dX1_octetAt_1 (by decide) (fun c_1 => ?_) (fun c_1 => ?_)
  · refine lv_iconst (v := (-1)) hx hb dX1_octetAt_13 (by decide) ?_
    refine lv_goto (tgt := 27) hx hb dX1_octetAt_14 (by decide) ?_
    exact kr_i C G ⟨by rw [if_neg (fun z => absurd c_1 (Int32.not_lt.mpr z.1))], rfl⟩ (Nat.le_refl _) (Nat.le_refl _) dX1_octetAt_27
  · refine lv_iload_n hx hb dX1_octetAt_4 rfl (lv_at hl 1 rfl) ?_
    refine lv_aload_n hx hb dX1_octetAt_5 rfl (lv_at hl 0 rfl) ?_
    refine k_get (ci := 2) (CC := RX1) (T := TX1) (N := 6) (v := .ref q) C G 0 rfl rfl in_2 1 (by decide) fl_X1_15 rfl rfl dX1_octetAt_6 ?_
    refine k_alen (ty := .byte) C G 1 0 rfl rfl dX1_octetAt_9 ?_
    refine lv_icmp_lt (tgt := 17) hx hb dX1_octetAt_10 (by decide) (fun c_10 => ?_) (fun c_10 => ?_)
    · obtain ⟨j, hj, ej⟩ := nI_of c_1
      have hjm : j < L := by rw [ej] at c_10; exact (nI_ltI hj (by omega)).mp c_10
      refine lv_aload_n hx hb dX1_octetAt_17 rfl (lv_at hl 0 rfl) ?_
      refine k_get (ci := 2) (CC := RX1) (T := TX1) (N := 6) (v := .ref q) C G 0 rfl rfl in_2 1 (by decide) fl_X1_15 rfl rfl dX1_octetAt_18 ?_
      refine lv_iload_n hx hb dX1_octetAt_21 rfl (lv_at hl 1 rfl) ?_
      have h_22 : vp_in x L := by rw [ej]; exact vp_in_nI hjm (by omega)
      refine k_bald C G 1 rfl h_22 dX1_octetAt_22 ?_
      refine lv_sipush (v := 255) hx hb dX1_octetAt_23 (by decide) ?_
      refine lv_iand hx hb dX1_octetAt_26 ?_
      exact kr_i C G ⟨by rw [if_pos ⟨Int32.not_lt.mp c_1, c_10⟩], rfl⟩ (Nat.le_refl _) (Nat.le_refl _) dX1_octetAt_27
    · refine lv_iconst (v := (-1)) hx hb dX1_octetAt_13 (by decide) ?_
      refine lv_goto (tgt := 27) hx hb dX1_octetAt_14 (by decide) ?_
      exact kr_i C G ⟨by rw [if_neg (fun z => c_10 z.2)], rfl⟩ (Nat.le_refl _) (Nat.le_refl _) dX1_octetAt_27
theorem c_X1_octetAtI (Z : zT) (l : Launch) (b q L : Nat) (num ex so : Int32) (bt : Option Nat) (wt : Int32) (f : Nat → Int32) (j : Nat) (hL : L < 2 ^ 30) (hj : j < L) : Ki Z l yX1_octetAt cX1_octetAt 2 (some .int) ({ frames := 0, cells := 0, slots := 0, locals := 0 }) [.ref b, .int (nI j)] (bbW Z b q L num ex so bt wt f) (fun r u => r = nI (ub (f j)) ∧ u = bbW Z b q L num ex so bt wt f) := by
  have h0 := c_X1_octetAt Z l b q L num ex so bt wt f (nI j) hL
  rw [if_pos ⟨nI_pos' (by omega), nI_lt hj (by omega)⟩, nI_clamp (by omega), ub_and] at h0
  exact h0
set_option maxRecDepth 100000 in
set_option maxHeartbeats 4000000 in
theorem c_X1_u4At (Z : zT) (l : Launch) (b q L : Nat) (num ex so : Int32) (bt : Option Nat) (wt : Int32) (f : Nat → Int32) (j : Nat) (hL : L < 2 ^ 30) (hj : j + 4 ≤ L) : Ki Z l yX1_u4At cX1_u4At 2 (some .int) ({ frames := 0, cells := 0, slots := 0, locals := 0 }) [.ref b, .int (nI j)] (bbW Z b q L num ex so bt wt f) (fun r u => r = r4 f j ∧ u = bbW Z b q L num ex so bt wt f) := by
  intro sz
  refine Met.ofK (cc := cX1_u4At) (maxL := 2) (ret := (some .int)) (by decide) (Nat.le_of_ble_eq_true rfl) ?_
  intro p e s m below meth c ls C G hl
  generalize va_A _ sz = A at G ⊢
  have hx := C.1
  have hb := C.2.1
  have hown := C.2.2.2.2.2.1
  have hts := C.2.2.2.2.2.2.1
  refine lv_iload_n hx hb dX1_u4At_0 rfl (lv_at hl 1 rfl) ?_
  refine lv_if_lt (tgt := 15) hx hb dX1_u4At_1 (by decide) (fun c_1 => ?_) (fun c_1 => ?_)
  · exact absurd c_1 (nI_pos (by omega))
  · refine lv_iload_n hx hb dX1_u4At_4 rfl (lv_at hl 1 rfl) ?_
    refine lv_aload_n hx hb dX1_u4At_5 rfl (lv_at hl 0 rfl) ?_
    refine k_get (ci := 2) (CC := RX1) (T := TX1) (N := 6) (v := .ref q) C G 0 rfl rfl in_2 1 (by decide) fl_X1_15 rfl rfl dX1_u4At_6 ?_
    refine k_alen (ty := .byte) C G 1 0 rfl rfl dX1_u4At_9 ?_
    refine lv_iconst (v := 4) hx hb dX1_u4At_10 (by decide) ?_
    refine lv_isub hx hb dX1_u4At_11 ?_
    refine lv_icmp_le (tgt := 17) hx hb dX1_u4At_12 (by decide) (fun c_12 => ?_) (fun c_12 => ?_)
    · refine lv_aload_n hx hb dX1_u4At_17 rfl (lv_at hl 0 rfl) ?_
      refine k_get (ci := 2) (CC := RX1) (T := TX1) (N := 6) (v := .ref q) C G 0 rfl rfl in_2 1 (by decide) fl_X1_15 rfl rfl dX1_u4At_18 ?_
      refine lv_iload_n hx hb dX1_u4At_21 rfl (lv_at hl 1 rfl) ?_
      have h_22 : vp_in (nI j) L := by exact vp_in_nI (by omega) (by omega)
      refine k_bald C G 1 rfl h_22 dX1_u4At_22 ?_
      refine k_topi (y := f j) (by rw [nI_clamp (by omega)]) ?_
      refine lv_sipush (v := 255) hx hb dX1_u4At_23 (by decide) ?_
      refine lv_iand hx hb dX1_u4At_26 ?_
      refine lv_bipush (v := 24) hx hb dX1_u4At_27 (by decide) ?_
      refine lv_ishl hx hb dX1_u4At_29 ?_
      refine lv_aload_n hx hb dX1_u4At_30 rfl (lv_at hl 0 rfl) ?_
      refine k_get (ci := 2) (CC := RX1) (T := TX1) (N := 6) (v := .ref q) C G 0 rfl rfl in_2 1 (by decide) fl_X1_15 rfl rfl dX1_u4At_31 ?_
      refine lv_iload_n hx hb dX1_u4At_34 rfl (lv_at hl 1 rfl) ?_
      refine lv_iconst (v := 1) hx hb dX1_u4At_35 (by decide) ?_
      refine lv_iadd hx hb dX1_u4At_36 ?_
      have h_37 : vp_in ((nI j) + 1) L := by exact in_u4 (by omega) (by omega) 1 (by omega)
      refine k_bald C G 1 rfl h_37 dX1_u4At_37 ?_
      refine k_topi (y := f (j + 1)) (by rw [nI_1, nI_clamp (by omega)]) ?_
      refine lv_sipush (v := 255) hx hb dX1_u4At_38 (by decide) ?_
      refine lv_iand hx hb dX1_u4At_41 ?_
      refine lv_bipush (v := 16) hx hb dX1_u4At_42 (by decide) ?_
      refine lv_ishl hx hb dX1_u4At_44 ?_
      refine lv_ior hx hb dX1_u4At_45 ?_
      refine lv_aload_n hx hb dX1_u4At_46 rfl (lv_at hl 0 rfl) ?_
      refine k_get (ci := 2) (CC := RX1) (T := TX1) (N := 6) (v := .ref q) C G 0 rfl rfl in_2 1 (by decide) fl_X1_15 rfl rfl dX1_u4At_47 ?_
      refine lv_iload_n hx hb dX1_u4At_50 rfl (lv_at hl 1 rfl) ?_
      refine lv_iconst (v := 2) hx hb dX1_u4At_51 (by decide) ?_
      refine lv_iadd hx hb dX1_u4At_52 ?_
      have h_53 : vp_in ((nI j) + 2) L := by exact in_u4 (by omega) (by omega) 2 (by omega)
      refine k_bald C G 1 rfl h_53 dX1_u4At_53 ?_
      refine k_topi (y := f (j + 2)) (by rw [show nI j + 2 = nI (j + 2) from nI_add j 2, nI_clamp (by omega)]) ?_
      refine lv_sipush (v := 255) hx hb dX1_u4At_54 (by decide) ?_
      refine lv_iand hx hb dX1_u4At_57 ?_
      refine lv_bipush (v := 8) hx hb dX1_u4At_58 (by decide) ?_
      refine lv_ishl hx hb dX1_u4At_60 ?_
      refine lv_ior hx hb dX1_u4At_61 ?_
      refine lv_aload_n hx hb dX1_u4At_62 rfl (lv_at hl 0 rfl) ?_
      refine k_get (ci := 2) (CC := RX1) (T := TX1) (N := 6) (v := .ref q) C G 0 rfl rfl in_2 1 (by decide) fl_X1_15 rfl rfl dX1_u4At_63 ?_
      refine lv_iload_n hx hb dX1_u4At_66 rfl (lv_at hl 1 rfl) ?_
      refine lv_iconst (v := 3) hx hb dX1_u4At_67 (by decide) ?_
      refine lv_iadd hx hb dX1_u4At_68 ?_
      have h_69 : vp_in ((nI j) + 3) L := by exact in_u4 (by omega) (by omega) 3 (by omega)
      refine k_bald C G 1 rfl h_69 dX1_u4At_69 ?_
      refine k_topi (y := f (j + 3)) (by rw [show nI j + 3 = nI (j + 3) from nI_add j 3, nI_clamp (by omega)]) ?_
      refine lv_sipush (v := 255) hx hb dX1_u4At_70 (by decide) ?_
      refine lv_iand hx hb dX1_u4At_73 ?_
      refine lv_ior hx hb dX1_u4At_74 ?_
      exact kr_i C G ⟨rfl, rfl⟩ (Nat.le_refl _) (Nat.le_refl _) dX1_u4At_75
    · exact absurd (k_le4b hj (by omega)) c_12
set_option maxRecDepth 100000 in
set_option maxHeartbeats 4000000 in
theorem c_X1_told (Z : zT) (l : Launch) (b q L : Nat) (num ex so : Int32) (bt : Option Nat) (wt : Int32) (f : Nat → Int32) (hL : L < 2 ^ 30) (h6 : 6 ≤ L) : Ki Z l yX1_told cX1_told 1 (some .int) ({ frames := 0, cells := 0, slots := 0, locals := 0 }) [.ref b] (bbW Z b q L num ex so bt wt f) (fun r u => r = nI (ub (f 5)) ∧ u = bbW Z b q L num ex so bt wt f) := by
  intro sz
  refine Met.ofK (cc := cX1_told) (maxL := 1) (ret := (some .int)) (by decide) (Nat.le_of_ble_eq_true rfl) ?_
  intro p e s m below meth c ls C G hl
  generalize va_A _ sz = A at G ⊢
  have hx := C.1
  have hb := C.2.1
  have hown := C.2.2.2.2.2.1
  have hts := C.2.2.2.2.2.2.1
  refine lv_aload_n hx hb dX1_told_0 rfl (lv_at hl 0 rfl) ?_
  refine k_get (ci := 2) (CC := RX1) (T := TX1) (N := 6) (v := .ref q) C G 0 rfl rfl in_2 1 (by decide) fl_X1_15 rfl rfl dX1_told_1 ?_
  refine k_alen (ty := .byte) C G 1 0 rfl rfl dX1_told_4 ?_
  refine lv_bipush (v := 6) hx hb dX1_told_5 (by decide) ?_
  refine lv_icmp_ge (tgt := 14) hx hb dX1_told_7 (by decide) (fun c_7 => ?_) (fun c_7 => ?_)
  · refine lv_aload_n hx hb dX1_told_14 rfl (lv_at hl 0 rfl) ?_
    refine k_get (ci := 2) (CC := RX1) (T := TX1) (N := 6) (v := .ref q) C G 0 rfl rfl in_2 1 (by decide) fl_X1_15 rfl rfl dX1_told_15 ?_
    refine lv_iconst (v := 5) hx hb dX1_told_18 (by decide) ?_
    have h_19 : vp_in 5 L := by exact vp_in_nI (n := 5) (by omega) (by omega)
    refine k_bald C G 1 rfl h_19 dX1_told_19 ?_
    refine k_topi (y := f 5) (by rfl) ?_
    refine lv_sipush (v := 255) hx hb dX1_told_20 (by decide) ?_
    refine lv_iand hx hb dX1_told_23 ?_
    exact kr_i C G ⟨ub_and _, rfl⟩ (Nat.le_refl _) (Nat.le_refl _) dX1_told_24
  · exact absurd (show nI 6 ≤ nI L from nI_le (by omega) (by omega)) c_7
set_option maxRecDepth 100000 in
set_option maxHeartbeats 4000000 in
theorem c_X1_replace (Z : zT) (l : Launch) (b q L : Nat) (num ex so : Int32) (bt : Option Nat) (wt : Int32) (f : Nat → Int32) (x y : Int32) (hL : L < 2 ^ 30) : Ki Z l yX1_replace cX1_replace 4 (some .int) ({ frames := 1, cells := 0, slots := 0, locals := 30 }) [.ref b, .int x, .int y] (bbW Z b q L num ex so bt wt f) (fun r u => (¬ (0 ≤ x ∧ x < nI L) ∧ r = -1 ∧ u = bbW Z b q L num ex so bt wt f) ∨ ((0 ≤ x ∧ x < nI L) ∧ r = f x.toNatClampNeg &&& 255 ∧ u = bbW Z b q L num 0 so bt wt (upd f x.toNatClampNeg y.toInt8.toInt32))) := by
  intro sz
  refine Met.ofK (cc := cX1_replace) (maxL := 4) (ret := (some .int)) (by decide) (Nat.le_of_ble_eq_true rfl) ?_
  intro p e s m below meth c ls C G hl
  generalize va_A _ sz = A at G ⊢
  have hx := C.1
  have hb := C.2.1
  have hown := C.2.2.2.2.2.1
  have hts := C.2.2.2.2.2.2.1
  refine lv_aload_n hx hb dX1_replace_0 rfl (lv_at hl 0 rfl) ?_
  refine lv_iload_n hx hb dX1_replace_1 rfl (lv_at hl 1 rfl) ?_
  have hX : List.Perm ([(b, .inr (2, [.int num, .ref q, .int ex, .int so, va_rf bt, .int wt])), (q, aB Z L f)]) ([(b, .inr (2, [.int num, .ref q, .int ex, .int so, va_rf bt, .int wt])), (q, aB Z L f)] ++ ([])) := (perm_ix [0, 1] rfl 2 (by decide) rfl)
  refine kc_i (Wc := [(b, .inr (2, [.int num, .ref q, .int ex, .int so, va_rf bt, .int wt])), (q, aB Z L f)]) (Wr := []) G hX (krV 1 rfl (As := [.int x]) (rest := []) (ci := 2) (CC := RX1) (T := TX1) (N := 6) C G hX (c_X1_octetAt Z l b q L num ex so bt wt f x hL _) (gdV ml_X1_19 im_X1_octetAt se_X1_octetAt ii_X1 co_X1_octetAt) (by decide +kernel) ⟨Nat.le_of_ble_eq_true rfl, Nat.le_of_ble_eq_true rfl⟩ rfl 0 rfl hl rfl (Nat.le_of_ble_eq_true rfl) ⟨Nat.le_of_ble_eq_true rfl, Nat.le_of_ble_eq_true rfl⟩ dX1_replace_2) (fun r_2 u H locs hu G => ?_)
  obtain ⟨r_2_e, rfl⟩ := hu
  refine lv_istore_n (lv' := [(3, .int r_2), (0, .ref b), (1, .int x), (2, .int y)]) hx hb dX1_replace_5 rfl hl (by decide) rfl (fun ls hl => ?_)
  refine lv_iload_n hx hb dX1_replace_6 rfl (lv_at hl 0 rfl) ?_
  refine lv_iconst (v := (-1)) hx hb dX1_replace_7 (by decide) ?_
  refine lv_icmp_eq (tgt := 24) hx hb dX1_replace_8 (by decide) (fun c_8 => ?_) (fun c_8 => ?_)
  · refine lv_iload_n hx hb dX1_replace_24 rfl (lv_at hl 0 rfl) ?_
    have hno : ¬ (0 ≤ x ∧ x < nI L) := fun z => by
      rw [if_pos z, ub_and] at r_2_e
      rw [r_2_e] at c_8
      exact nI_pos (Nat.lt_trans (ub_lt _) (by omega)) (by rw [c_8]; decide)
    rw [if_neg hno] at r_2_e
    subst r_2_e
    exact kr_i C G (Or.inl ⟨hno, rfl, rfl⟩) (Nat.le_of_ble_eq_true rfl) (Nat.le_of_ble_eq_true rfl) dX1_replace_25
  · have hin : 0 ≤ x ∧ x < nI L := Decidable.byContradiction (fun z => by rw [if_neg z] at r_2_e; exact c_8 r_2_e)
    obtain ⟨j, hj, ej⟩ := nI_of (Int32.not_lt.mpr hin.1)
    have hjm : j < L := by rw [ej] at hin; exact (nI_ltI hj (by omega)).mp hin.2
    refine lv_aload_n hx hb dX1_replace_11 rfl (lv_at hl 1 rfl) ?_
    refine k_get (ci := 2) (CC := RX1) (T := TX1) (N := 6) (v := .ref q) C G 0 rfl rfl in_2 1 (by decide) fl_X1_15 rfl rfl dX1_replace_12 ?_
    refine lv_iload_n hx hb dX1_replace_15 rfl (lv_at hl 2 rfl) ?_
    refine lv_iload_n hx hb dX1_replace_16 rfl (lv_at hl 3 rfl) ?_
    refine lv_i2b (v := y.toInt8.toInt32) hx hb dX1_replace_17 rfl ?_
    have h_18 : vp_in x L := by rw [ej]; exact vp_in_nI hjm (by omega)
    refine k_bast C G 1 rfl h_18 (pk_vb _) dX1_replace_18 (fun H locs (G : wd Z A s ([(b, .inr (2, [.int num, .ref q, .int ex, .int so, va_rf bt, .int wt])), (q, aB Z L (upd f x.toNatClampNeg y.toInt8.toInt32))]) H locs) => ?_)
    refine lv_aload_n hx hb dX1_replace_19 rfl (lv_at hl 1 rfl) ?_
    refine lv_iconst (v := 0) hx hb dX1_replace_20 (by decide) ?_
    refine k_put (ci := 2) (CC := RX1) (T := TX1) (N := 6) (ty := .boolean) (v := .int 0) C G 0 rfl rfl in_2 tyX1 tyX1_ok nmX1 2 (by decide) fl_X1_23 rfl rfl rfl rfl rfl (Nat.le_of_ble_eq_true rfl) dX1_replace_21 (fun H locs (G : wd Z A s ([(b, .inr (2, [.int num, .ref q, .int 0, .int so, va_rf bt, .int wt])), (q, aB Z L (upd f x.toNatClampNeg y.toInt8.toInt32))]) H locs) => ?_)
    refine lv_iload_n hx hb dX1_replace_24 rfl (lv_at hl 0 rfl) ?_
    rw [if_pos hin] at r_2_e
    exact kr_i C G (Or.inr ⟨hin, r_2_e, rfl⟩) (Nat.le_of_ble_eq_true rfl) (Nat.le_of_ble_eq_true rfl) dX1_replace_25
set_option maxRecDepth 100000 in
set_option maxHeartbeats 4000000 in
theorem c_X1_isFramed (Z : zT) (l : Launch) (b q L : Nat) (num ex so : Int32) (bt : Option Nat) (wt : Int32) (f : Nat → Int32) (mk : Int32) (be : Nat) (hbe : be * ub (f 5) < 2 ^ 20) (hL : L < 2 ^ 30) (h6 : 6 ≤ L) : Ki Z l yX1_isFramed cX1_isFramed 4 (some .boolean) ({ frames := 1, cells := 0, slots := 0, locals := 30 }) [.ref b, .int mk, .int (nI be)] (bbW Z b q L num ex so bt wt f) (fun r u => (¬ frm f L be mk num ∧ r = 0 ∧ u = bbW Z b q L num ex so bt wt f) ∨ (frm f L be mk num ∧ r = 1 ∧ u = bbW Z b q L num ex so bt wt f)) := by
  intro sz
  refine Met.ofK (cc := cX1_isFramed) (maxL := 4) (ret := (some .boolean)) (by decide) (Nat.le_of_ble_eq_true rfl) ?_
  intro p e s m below meth c ls C G hl
  generalize va_A _ sz = A at G ⊢
  have hx := C.1
  have hb := C.2.1
  have hown := C.2.2.2.2.2.1
  have hts := C.2.2.2.2.2.2.1
  refine lv_bipush (v := 6) hx hb dX1_isFramed_0 (by decide) ?_
  refine lv_iload_n hx hb dX1_isFramed_2 rfl (lv_at hl 2 rfl) ?_
  refine lv_aload_n hx hb dX1_isFramed_3 rfl (lv_at hl 0 rfl) ?_
  have hX : List.Perm ([(b, .inr (2, [.int num, .ref q, .int ex, .int so, va_rf bt, .int wt])), (q, aB Z L f)]) ([(b, .inr (2, [.int num, .ref q, .int ex, .int so, va_rf bt, .int wt])), (q, aB Z L f)] ++ ([])) := (perm_ix [0, 1] rfl 2 (by decide) rfl)
  refine kc_i (Wc := [(b, .inr (2, [.int num, .ref q, .int ex, .int so, va_rf bt, .int wt])), (q, aB Z L f)]) (Wr := []) G hX (krV 0 rfl (As := []) (rest := [.int (nI be), .int 6]) (ci := 2) (CC := RX1) (T := TX1) (N := 6) C G hX (c_X1_told Z l b q L num ex so bt wt f hL (by omega) _) (gdV ml_X1_27 im_X1_told se_X1_told ii_X1 co_X1_told) (by decide +kernel) ⟨Nat.le_of_ble_eq_true rfl, Nat.le_of_ble_eq_true rfl⟩ rfl 0 rfl hl rfl (Nat.le_of_ble_eq_true rfl) ⟨Nat.le_refl _, Nat.le_refl _⟩ dX1_isFramed_4) (fun r_4 u H locs hu G => ?_)
  obtain ⟨r_4_e, rfl⟩ := hu
  subst r_4_e
  have G : wd Z A s ([(b, .inr (2, [.int num, .ref q, .int ex, .int so, va_rf bt, .int wt])), (q, aB Z L f)]) H locs := G
  refine lv_imul hx hb dX1_isFramed_7 ?_
  refine lv_iadd hx hb dX1_isFramed_8 ?_
  refine k_topi (y := nI (6 + be * ub (f 5))) (by rw [pk_mul, show (6 : Int32) = nI 6 from rfl, nI_add]) ?_
  refine lv_istore_n (lv' := [(3, .int (nI (6 + be * ub (f 5)))), (0, .ref b), (1, .int mk), (2, .int (nI be))]) hx hb dX1_isFramed_9 rfl hl (by decide) rfl (fun ls hl => ?_)
  refine lv_aload_n hx hb dX1_isFramed_10 rfl (lv_at hl 1 rfl) ?_
  refine k_get (ci := 2) (CC := RX1) (T := TX1) (N := 6) (v := .ref q) C G 0 rfl rfl in_2 1 (by decide) fl_X1_15 rfl rfl dX1_isFramed_11 ?_
  refine k_alen (ty := .byte) C G 1 0 rfl rfl dX1_isFramed_14 ?_
  refine lv_iload_n hx hb dX1_isFramed_15 rfl (lv_at hl 0 rfl) ?_
  refine lv_iconst (v := 4) hx hb dX1_isFramed_16 (by decide) ?_
  refine lv_iadd hx hb dX1_isFramed_17 ?_
  refine k_topi (y := nI (6 + be * ub (f 5) + 4)) (by exact nI_add _ 4) ?_
  refine lv_icmp_ne (tgt := 63) hx hb dX1_isFramed_18 (by decide) (fun c_18 => ?_) (fun c_18 => ?_)
  · refine lv_iconst (v := 0) hx hb dX1_isFramed_63 (by decide) ?_
    exact kr_z C G (by decide) (Or.inl ⟨fun z => c_18 (by rw [← z.1]), rfl, rfl⟩) (Nat.le_of_ble_eq_true rfl) (Nat.le_of_ble_eq_true rfl) dX1_isFramed_64
  · have hLe : L = 6 + be * ub (f 5) + 4 := (nI_eq (by omega) (by omega)).mp c_18
    refine lv_aload_n hx hb dX1_isFramed_21 rfl (lv_at hl 1 rfl) ?_
    refine lv_iconst (v := 0) hx hb dX1_isFramed_22 (by decide) ?_
    have hX : List.Perm ([(b, .inr (2, [.int num, .ref q, .int ex, .int so, va_rf bt, .int wt])), (q, aB Z L f)]) ([(b, .inr (2, [.int num, .ref q, .int ex, .int so, va_rf bt, .int wt])), (q, aB Z L f)] ++ ([])) := (perm_ix [0, 1] rfl 2 (by decide) rfl)
    refine kc_i (Wc := [(b, .inr (2, [.int num, .ref q, .int ex, .int so, va_rf bt, .int wt])), (q, aB Z L f)]) (Wr := []) G hX (krV 1 rfl (As := [.int 0]) (rest := []) (ci := 2) (CC := RX1) (T := TX1) (N := 6) C G hX (c_X1_octetAtI Z l b q L num ex so bt wt f (0) hL (by omega) _) (gdV ml_X1_19 im_X1_octetAt se_X1_octetAt ii_X1 co_X1_octetAt) (by decide +kernel) ⟨Nat.le_of_ble_eq_true rfl, Nat.le_of_ble_eq_true rfl⟩ rfl 0 rfl hl rfl (Nat.le_of_ble_eq_true rfl) ⟨Nat.le_refl _, Nat.le_refl _⟩ dX1_isFramed_23) (fun r_23 u H locs hu G => ?_)
    obtain ⟨r_23_e, rfl⟩ := hu
    subst r_23_e
    have G : wd Z A s ([(b, .inr (2, [.int num, .ref q, .int ex, .int so, va_rf bt, .int wt])), (q, aB Z L f)]) H locs := G
    refine lv_iload_n hx hb dX1_isFramed_26 rfl (lv_at hl 2 rfl) ?_
    refine lv_icmp_ne (tgt := 63) hx hb dX1_isFramed_27 (by decide) (fun c_27 => ?_) (fun c_27 => ?_)
    · refine lv_iconst (v := 0) hx hb dX1_isFramed_63 (by decide) ?_
      exact kr_z C G (by decide) (Or.inl ⟨fun z => c_27 z.2.1, rfl, rfl⟩) (Nat.le_of_ble_eq_true rfl) (Nat.le_of_ble_eq_true rfl) dX1_isFramed_64
    · refine lv_aload_n hx hb dX1_isFramed_30 rfl (lv_at hl 1 rfl) ?_
      refine lv_iconst (v := 1) hx hb dX1_isFramed_31 (by decide) ?_
      have hX : List.Perm ([(b, .inr (2, [.int num, .ref q, .int ex, .int so, va_rf bt, .int wt])), (q, aB Z L f)]) ([(b, .inr (2, [.int num, .ref q, .int ex, .int so, va_rf bt, .int wt])), (q, aB Z L f)] ++ ([])) := (perm_ix [0, 1] rfl 2 (by decide) rfl)
      refine kc_i (Wc := [(b, .inr (2, [.int num, .ref q, .int ex, .int so, va_rf bt, .int wt])), (q, aB Z L f)]) (Wr := []) G hX (krV 1 rfl (As := [.int 1]) (rest := []) (ci := 2) (CC := RX1) (T := TX1) (N := 6) C G hX (c_X1_u4At Z l b q L num ex so bt wt f (1) hL (by omega) _) (gdV ml_X1_31 im_X1_u4At se_X1_u4At ii_X1 co_X1_u4At) (by decide +kernel) ⟨Nat.le_of_ble_eq_true rfl, Nat.le_of_ble_eq_true rfl⟩ rfl 0 rfl hl rfl (Nat.le_of_ble_eq_true rfl) ⟨Nat.le_refl _, Nat.le_refl _⟩ dX1_isFramed_32) (fun r_32 u H locs hu G => ?_)
      obtain ⟨r_32_e, rfl⟩ := hu
      subst r_32_e
      have G : wd Z A s ([(b, .inr (2, [.int num, .ref q, .int ex, .int so, va_rf bt, .int wt])), (q, aB Z L f)]) H locs := G
      refine lv_aload_n hx hb dX1_isFramed_35 rfl (lv_at hl 1 rfl) ?_
      refine k_get (ci := 2) (CC := RX1) (T := TX1) (N := 6) (v := .int num) C G 0 rfl rfl in_2 0 (by decide) fl_X1_9 rfl rfl dX1_isFramed_36 ?_
      refine lv_icmp_ne (tgt := 63) hx hb dX1_isFramed_39 (by decide) (fun c_39 => ?_) (fun c_39 => ?_)
      · refine lv_iconst (v := 0) hx hb dX1_isFramed_63 (by decide) ?_
        exact kr_z C G (by decide) (Or.inl ⟨fun z => c_39 z.2.2.1, rfl, rfl⟩) (Nat.le_of_ble_eq_true rfl) (Nat.le_of_ble_eq_true rfl) dX1_isFramed_64
      · refine lv_aload_n hx hb dX1_isFramed_42 rfl (lv_at hl 1 rfl) ?_
        refine lv_iload_n hx hb dX1_isFramed_43 rfl (lv_at hl 0 rfl) ?_
        have hX : List.Perm ([(b, .inr (2, [.int num, .ref q, .int ex, .int so, va_rf bt, .int wt])), (q, aB Z L f)]) ([(b, .inr (2, [.int num, .ref q, .int ex, .int so, va_rf bt, .int wt])), (q, aB Z L f)] ++ ([])) := (perm_ix [0, 1] rfl 2 (by decide) rfl)
        refine kc_i (Wc := [(b, .inr (2, [.int num, .ref q, .int ex, .int so, va_rf bt, .int wt])), (q, aB Z L f)]) (Wr := []) G hX (krV 1 rfl (As := [.int (nI (6 + be * ub (f 5)))]) (rest := []) (ci := 2) (CC := RX1) (T := TX1) (N := 6) C G hX (c_X1_u4At Z l b q L num ex so bt wt f (6 + be * ub (f 5)) hL (by omega) _) (gdV ml_X1_31 im_X1_u4At se_X1_u4At ii_X1 co_X1_u4At) (by decide +kernel) ⟨Nat.le_of_ble_eq_true rfl, Nat.le_of_ble_eq_true rfl⟩ rfl 0 rfl hl rfl (Nat.le_of_ble_eq_true rfl) ⟨Nat.le_refl _, Nat.le_refl _⟩ dX1_isFramed_44) (fun r_44 u H locs hu G => ?_)
        obtain ⟨r_44_e, rfl⟩ := hu
        subst r_44_e
        have G : wd Z A s ([(b, .inr (2, [.int num, .ref q, .int ex, .int so, va_rf bt, .int wt])), (q, aB Z L f)]) H locs := G
        refine lv_aload_n hx hb dX1_isFramed_47 rfl (lv_at hl 1 rfl) ?_
        refine k_get (ci := 2) (CC := RX1) (T := TX1) (N := 6) (v := .ref q) C G 0 rfl rfl in_2 1 (by decide) fl_X1_15 rfl rfl dX1_isFramed_48 ?_
        refine lv_iconst (v := 0) hx hb dX1_isFramed_51 (by decide) ?_
        refine lv_iload_n hx hb dX1_isFramed_52 rfl (lv_at hl 0 rfl) ?_
        have hX : List.Perm ([(b, .inr (2, [.int num, .ref q, .int ex, .int so, va_rf bt, .int wt])), (q, aB Z L f)]) ([(q, aB Z L f)] ++ ([(b, .inr (2, [.int num, .ref q, .int ex, .int so, va_rf bt, .int wt]))])) := (perm_ix [1, 0] rfl 2 (by decide) rfl)
        refine kc_i (Wc := [(q, aB Z L f)]) (Wr := [(b, .inr (2, [.int num, .ref q, .int ex, .int so, va_rf bt, .int wt]))]) G hX (krS 3 rfl (As := [.ref q, .int 0, .int (nI (6 + be * ub (f 5)))]) (rest := [.int (r4 f (6 + be * ub (f 5)))]) C G hX (c_X6_checkOf Z l q L 0 (6 + be * ub (f 5)) f (by omega) (by omega) (by omega) _) (gdS ml_X1_34 sm_X6_checkOf ii_X6 co_X6_checkOf) (by decide +kernel) ⟨Nat.le_of_ble_eq_true rfl, Nat.le_of_ble_eq_true rfl⟩ hl rfl (Nat.le_of_ble_eq_true rfl) ⟨Nat.le_of_ble_eq_true rfl, Nat.le_of_ble_eq_true rfl⟩ dX1_isFramed_53) (fun r_53 u H locs hu G => ?_)
        obtain ⟨r_53_e, rfl⟩ := hu
        rw [Nat.sub_zero] at r_53_e
        subst r_53_e
        have G : wd Z A s ([(b, .inr (2, [.int num, .ref q, .int ex, .int so, va_rf bt, .int wt])), (q, aB Z L f)]) H locs := G.perm (perm_ix [1, 0] rfl 2 (by decide) rfl)
        refine lv_icmp_ne (tgt := 63) hx hb dX1_isFramed_56 (by decide) (fun c_56 => ?_) (fun c_56 => ?_)
        · refine lv_iconst (v := 0) hx hb dX1_isFramed_63 (by decide) ?_
          exact kr_z C G (by decide) (Or.inl ⟨fun z => c_56 z.2.2.2, rfl, rfl⟩) (Nat.le_of_ble_eq_true rfl) (Nat.le_of_ble_eq_true rfl) dX1_isFramed_64
        · refine lv_iconst (v := 1) hx hb dX1_isFramed_59 (by decide) ?_
          refine lv_goto (tgt := 64) hx hb dX1_isFramed_60 (by decide) ?_
          exact kr_z C G (by decide) (Or.inr ⟨⟨hLe, c_27, c_39, c_56⟩, rfl, rfl⟩) (Nat.le_of_ble_eq_true rfl) (Nat.le_of_ble_eq_true rfl) dX1_isFramed_64
set_option maxRecDepth 100000 in
set_option maxHeartbeats 4000000 in
theorem lp_X1_isSoundEntry {p : Program} {l : Launch} {e : Env} {s : State} {m : MethodId} {args : Array Value} {below : List Frame} {meth : Method} {c : Code} {Z : zT} {A : Nat → Prop} {b q L : Nat} {num ex so : Int32} {bt : Option Nat} {wt : Int32} {f : Nat → Int32} {post : Int32 → va_W → Prop} (C : cx p s m args meth c cX1_isSoundEntry 6 (some .boolean) RX1 "isSoundEntry") (hL : L < 2 ^ 30) (hfr : L = 6 + 6 * ub (f 5) + 4) (hp0 : (∃ k, k < ub (f 5) ∧ ¬ enC f k) → post 0 (bbW Z b q L num ex so bt wt f)) (hp1 : (∀ k, k < ub (f 5) → enC f k) → post 1 (bbW Z b q L num ex so bt wt f)) : ∀ (n k : Nat), k + n = ub (f 5) → (∀ i, i < k → enC f i) → ∀ (H : Heap) (locs : List Loc) (ls : Array Slot), wd Z A s (bbW Z b q L num ex so bt wt f) H locs → lv_has ls 6 [(3, .int (nI k)), (2, .int (aNa f k)), (1, .int (nI (aKa f k))), (0, .ref b)] → W p l e ({ frames := 2, cells := 0, slots := 0, locals := 60 }) s m args below meth c H locs 0 0 (MQ below (va_Qi post (mB Z A) A) args s 0 0 A) (F0 m 19 ls []) := by
  have hx := C.1
  have hb := C.2.1
  have hown := C.2.2.2.2.2.1
  have hts := C.2.2.2.2.2.2.1
  intro n
  induction n with
  | zero =>
    intro k hk hi H locs ls G hl
    have hub := ub_lt (f 5)
    have hak : aK f k < 256 := ub_lt _
    have haka : aKa f k < 256 := by cases k with | zero => show 2 < 256; omega | succ k => exact ub_lt _
    refine lv_iload_n hx hb dX1_isSoundEntry_19 rfl (lv_at hl 0 rfl) ?_
    refine lv_aload_n hx hb dX1_isSoundEntry_20 rfl (lv_at hl 3 rfl) ?_
    have hX : List.Perm ([(b, .inr (2, [.int num, .ref q, .int ex, .int so, va_rf bt, .int wt])), (q, aB Z L f)]) ([(b, .inr (2, [.int num, .ref q, .int ex, .int so, va_rf bt, .int wt])), (q, aB Z L f)] ++ ([])) := (perm_ix [0, 1] rfl 2 (by decide) rfl)
    refine kc_i (Wc := [(b, .inr (2, [.int num, .ref q, .int ex, .int so, va_rf bt, .int wt])), (q, aB Z L f)]) (Wr := []) G hX (krV 0 rfl (As := []) (rest := [.int (nI k)]) (ci := 2) (CC := RX1) (T := TX1) (N := 6) C G hX (c_X1_told Z l b q L num ex so bt wt f hL (by omega) _) (gdV ml_X1_27 im_X1_told se_X1_told ii_X1 co_X1_told) (by decide +kernel) ⟨Nat.le_of_ble_eq_true rfl, Nat.le_of_ble_eq_true rfl⟩ rfl 0 rfl hl rfl (Nat.le_of_ble_eq_true rfl) ⟨Nat.le_refl _, Nat.le_refl _⟩ dX1_isSoundEntry_21) (fun r_21 u H locs hu G => ?_)
    obtain ⟨r_21_e, rfl⟩ := hu
    subst r_21_e
    have G : wd Z A s ([(b, .inr (2, [.int num, .ref q, .int ex, .int so, va_rf bt, .int wt])), (q, aB Z L f)]) H locs := G
    refine lv_icmp_ge (tgt := 110) hx hb dX1_isSoundEntry_24 (by decide) (fun c_24 => ?_) (fun c_24 => ?_)
    · refine lv_iconst (v := 1) hx hb dX1_isSoundEntry_110 (by decide) ?_
      exact kr_z C G (by decide) (hp1 (fun i hi2 => hi i (by omega))) (Nat.le_of_ble_eq_true rfl) (Nat.le_of_ble_eq_true rfl) dX1_isSoundEntry_111
    · exact absurd (nI_le (by omega) (by omega)) c_24
  | succ n ih =>
    intro k hk hi H locs ls G hl
    have hub := ub_lt (f 5)
    have hak : aK f k < 256 := ub_lt _
    have haka : aKa f k < 256 := by cases k with | zero => show 2 < 256; omega | succ k => exact ub_lt _
    refine lv_iload_n hx hb dX1_isSoundEntry_19 rfl (lv_at hl 0 rfl) ?_
    refine lv_aload_n hx hb dX1_isSoundEntry_20 rfl (lv_at hl 3 rfl) ?_
    have hX : List.Perm ([(b, .inr (2, [.int num, .ref q, .int ex, .int so, va_rf bt, .int wt])), (q, aB Z L f)]) ([(b, .inr (2, [.int num, .ref q, .int ex, .int so, va_rf bt, .int wt])), (q, aB Z L f)] ++ ([])) := (perm_ix [0, 1] rfl 2 (by decide) rfl)
    refine kc_i (Wc := [(b, .inr (2, [.int num, .ref q, .int ex, .int so, va_rf bt, .int wt])), (q, aB Z L f)]) (Wr := []) G hX (krV 0 rfl (As := []) (rest := [.int (nI k)]) (ci := 2) (CC := RX1) (T := TX1) (N := 6) C G hX (c_X1_told Z l b q L num ex so bt wt f hL (by omega) _) (gdV ml_X1_27 im_X1_told se_X1_told ii_X1 co_X1_told) (by decide +kernel) ⟨Nat.le_of_ble_eq_true rfl, Nat.le_of_ble_eq_true rfl⟩ rfl 0 rfl hl rfl (Nat.le_of_ble_eq_true rfl) ⟨Nat.le_refl _, Nat.le_refl _⟩ dX1_isSoundEntry_21) (fun r_21 u H locs hu G => ?_)
    obtain ⟨r_21_e, rfl⟩ := hu
    subst r_21_e
    have G : wd Z A s ([(b, .inr (2, [.int num, .ref q, .int ex, .int so, va_rf bt, .int wt])), (q, aB Z L f)]) H locs := G
    refine lv_icmp_ge (tgt := 110) hx hb dX1_isSoundEntry_24 (by decide) (fun c_24 => ?_) (fun c_24 => ?_)
    · exact absurd c_24 (nI_ge (by omega) (by omega))
    · refine lv_bipush (v := 6) hx hb dX1_isSoundEntry_27 (by decide) ?_
      refine lv_bipush (v := 6) hx hb dX1_isSoundEntry_29 (by decide) ?_
      refine lv_iload_n hx hb dX1_isSoundEntry_31 rfl (lv_at hl 0 rfl) ?_
      refine lv_imul hx hb dX1_isSoundEntry_32 ?_
      refine lv_iadd hx hb dX1_isSoundEntry_33 ?_
      refine k_topi (y := nI (6 + 6 * k)) (by rw [show (6 : Int32) = nI 6 from rfl, pk_mul, nI_add]) ?_
      refine lv_istore (lv' := [(4, .int (nI (6 + 6 * k))), (3, .int (nI k)), (2, .int (aNa f k)), (1, .int (nI (aKa f k))), (0, .ref b)]) hx hb dX1_isSoundEntry_34 hl (by decide) rfl (fun ls hl => ?_)
      refine lv_aload_n hx hb dX1_isSoundEntry_36 rfl (lv_at hl 4 rfl) ?_
      refine lv_iload hx hb dX1_isSoundEntry_37 (lv_at hl 0 rfl) ?_
      have hX : List.Perm ([(b, .inr (2, [.int num, .ref q, .int ex, .int so, va_rf bt, .int wt])), (q, aB Z L f)]) ([(b, .inr (2, [.int num, .ref q, .int ex, .int so, va_rf bt, .int wt])), (q, aB Z L f)] ++ ([])) := (perm_ix [0, 1] rfl 2 (by decide) rfl)
      refine kc_i (Wc := [(b, .inr (2, [.int num, .ref q, .int ex, .int so, va_rf bt, .int wt])), (q, aB Z L f)]) (Wr := []) G hX (krV 1 rfl (As := [.int (nI (6 + 6 * k))]) (rest := []) (ci := 2) (CC := RX1) (T := TX1) (N := 6) C G hX (c_X1_octetAtI Z l b q L num ex so bt wt f (6 + 6 * k) hL (by omega) _) (gdV ml_X1_19 im_X1_octetAt se_X1_octetAt ii_X1 co_X1_octetAt) (by decide +kernel) ⟨Nat.le_of_ble_eq_true rfl, Nat.le_of_ble_eq_true rfl⟩ rfl 0 rfl hl rfl (Nat.le_of_ble_eq_true rfl) ⟨Nat.le_refl _, Nat.le_refl _⟩ dX1_isSoundEntry_39) (fun r_39 u H locs hu G => ?_)
      obtain ⟨r_39_e, rfl⟩ := hu
      subst r_39_e
      have G : wd Z A s ([(b, .inr (2, [.int num, .ref q, .int ex, .int so, va_rf bt, .int wt])), (q, aB Z L f)]) H locs := G
      refine k_topi (y := nI (aK f k)) (by rfl) ?_
      refine lv_istore (lv' := [(5, .int (nI (aK f k))), (4, .int (nI (6 + 6 * k))), (3, .int (nI k)), (2, .int (aNa f k)), (1, .int (nI (aKa f k))), (0, .ref b)]) hx hb dX1_isSoundEntry_42 hl (by decide) rfl (fun ls hl => ?_)
      refine lv_iload hx hb dX1_isSoundEntry_44 (lv_at hl 0 rfl) ?_
      refine lv_iload_n hx hb dX1_isSoundEntry_46 rfl (lv_at hl 4 rfl) ?_
      refine lv_icmp_eq (tgt := 52) hx hb dX1_isSoundEntry_47 (by decide) (fun c_47 => ?_) (fun c_47 => ?_)
      · have hke : aK f k = aKa f k := (nI_eq (by omega) (by omega)).mp c_47
        refine lv_iload hx hb dX1_isSoundEntry_52 (lv_at hl 0 rfl) ?_
        refine lv_iconst (v := 1) hx hb dX1_isSoundEntry_54 (by decide) ?_
        refine lv_icmp_lt (tgt := 90) hx hb dX1_isSoundEntry_55 (by decide) (fun c_55 => ?_) (fun c_55 => ?_)
        · refine lv_iconst (v := 0) hx hb dX1_isSoundEntry_90 (by decide) ?_
          exact kr_z C G (by decide) (hp0 ⟨k, by omega, fun z => absurd (show nI (aK f k) < nI 1 from c_55) (nI_nlt z.1 (by omega))⟩) (Nat.le_of_ble_eq_true rfl) (Nat.le_of_ble_eq_true rfl) dX1_isSoundEntry_91
        · refine lv_iload hx hb dX1_isSoundEntry_58 (lv_at hl 0 rfl) ?_
          refine lv_iload_n hx hb dX1_isSoundEntry_60 rfl (lv_at hl 4 rfl) ?_
          refine lv_icmp_gt (tgt := 90) hx hb dX1_isSoundEntry_61 (by decide) (fun c_61 => ?_) (fun c_61 => ?_)
          · refine lv_iconst (v := 0) hx hb dX1_isSoundEntry_90 (by decide) ?_
            exact kr_z C G (by decide) (hp0 ⟨k, by omega, fun z => absurd c_61 (nI_nlt z.2.1 (by omega))⟩) (Nat.le_of_ble_eq_true rfl) (Nat.le_of_ble_eq_true rfl) dX1_isSoundEntry_91
          · refine lv_aload_n hx hb dX1_isSoundEntry_64 rfl (lv_at hl 5 rfl) ?_
            refine lv_iload hx hb dX1_isSoundEntry_65 (lv_at hl 1 rfl) ?_
            refine lv_iconst (v := 1) hx hb dX1_isSoundEntry_67 (by decide) ?_
            refine lv_iadd hx hb dX1_isSoundEntry_68 ?_
            refine k_topi (y := nI (6 + 6 * k + 1)) (by exact nI_1 _) ?_
            have hX : List.Perm ([(b, .inr (2, [.int num, .ref q, .int ex, .int so, va_rf bt, .int wt])), (q, aB Z L f)]) ([(b, .inr (2, [.int num, .ref q, .int ex, .int so, va_rf bt, .int wt])), (q, aB Z L f)] ++ ([])) := (perm_ix [0, 1] rfl 2 (by decide) rfl)
            refine kc_i (Wc := [(b, .inr (2, [.int num, .ref q, .int ex, .int so, va_rf bt, .int wt])), (q, aB Z L f)]) (Wr := []) G hX (krV 1 rfl (As := [.int (nI (6 + 6 * k + 1))]) (rest := []) (ci := 2) (CC := RX1) (T := TX1) (N := 6) C G hX (c_X1_u4At Z l b q L num ex so bt wt f (6 + 6 * k + 1) hL (by omega) _) (gdV ml_X1_31 im_X1_u4At se_X1_u4At ii_X1 co_X1_u4At) (by decide +kernel) ⟨Nat.le_of_ble_eq_true rfl, Nat.le_of_ble_eq_true rfl⟩ rfl 0 rfl hl rfl (Nat.le_of_ble_eq_true rfl) ⟨Nat.le_refl _, Nat.le_refl _⟩ dX1_isSoundEntry_69) (fun r_69 u H locs hu G => ?_)
            obtain ⟨r_69_e, rfl⟩ := hu
            subst r_69_e
            have G : wd Z A s ([(b, .inr (2, [.int num, .ref q, .int ex, .int so, va_rf bt, .int wt])), (q, aB Z L f)]) H locs := G
            refine lv_iload_n hx hb dX1_isSoundEntry_72 rfl (lv_at hl 3 rfl) ?_
            refine lv_icmp_le (tgt := 90) hx hb dX1_isSoundEntry_73 (by decide) (fun c_73 => ?_) (fun c_73 => ?_)
            · refine lv_iconst (v := 0) hx hb dX1_isSoundEntry_90 (by decide) ?_
              exact kr_z C G (by decide) (hp0 ⟨k, by omega, fun z => by have h9 := z.2.2.1; rw [if_pos hke] at h9; exact absurd c_73 (Int32.not_le.mpr h9)⟩) (Nat.le_of_ble_eq_true rfl) (Nat.le_of_ble_eq_true rfl) dX1_isSoundEntry_91
            · refine lv_aload_n hx hb dX1_isSoundEntry_76 rfl (lv_at hl 5 rfl) ?_
              refine lv_iload hx hb dX1_isSoundEntry_77 (lv_at hl 1 rfl) ?_
              refine lv_iconst (v := 5) hx hb dX1_isSoundEntry_79 (by decide) ?_
              refine lv_iadd hx hb dX1_isSoundEntry_80 ?_
              refine k_topi (y := nI (6 + 6 * k + 5)) (by exact nI_add _ 5) ?_
              have hX : List.Perm ([(b, .inr (2, [.int num, .ref q, .int ex, .int so, va_rf bt, .int wt])), (q, aB Z L f)]) ([(b, .inr (2, [.int num, .ref q, .int ex, .int so, va_rf bt, .int wt])), (q, aB Z L f)] ++ ([])) := (perm_ix [0, 1] rfl 2 (by decide) rfl)
              refine kc_i (Wc := [(b, .inr (2, [.int num, .ref q, .int ex, .int so, va_rf bt, .int wt])), (q, aB Z L f)]) (Wr := []) G hX (krV 1 rfl (As := [.int (nI (6 + 6 * k + 5))]) (rest := []) (ci := 2) (CC := RX1) (T := TX1) (N := 6) C G hX (c_X1_octetAtI Z l b q L num ex so bt wt f (6 + 6 * k + 5) hL (by omega) _) (gdV ml_X1_19 im_X1_octetAt se_X1_octetAt ii_X1 co_X1_octetAt) (by decide +kernel) ⟨Nat.le_of_ble_eq_true rfl, Nat.le_of_ble_eq_true rfl⟩ rfl 0 rfl hl rfl (Nat.le_of_ble_eq_true rfl) ⟨Nat.le_refl _, Nat.le_refl _⟩ dX1_isSoundEntry_81) (fun r_81 u H locs hu G => ?_)
              obtain ⟨r_81_e, rfl⟩ := hu
              subst r_81_e
              have G : wd Z A s ([(b, .inr (2, [.int num, .ref q, .int ex, .int so, va_rf bt, .int wt])), (q, aB Z L f)]) H locs := G
              have hX : List.Perm ([(b, .inr (2, [.int num, .ref q, .int ex, .int so, va_rf bt, .int wt])), (q, aB Z L f)]) ([] ++ ([(b, .inr (2, [.int num, .ref q, .int ex, .int so, va_rf bt, .int wt])), (q, aB Z L f)])) := (perm_ix [0, 1] rfl 2 (by decide) rfl)
              refine kc_i (Wc := []) (Wr := [(b, .inr (2, [.int num, .ref q, .int ex, .int so, va_rf bt, .int wt])), (q, aB Z L f)]) G hX (krSN 1 rfl (As := [.int (nI (aP f k))]) (rest := []) (host := "LakeTable") C G hX (c_X10_isPartition Z l (nI (aP f k)) _) (gdP co_X10_isPartition) (by decide) sm_X10_isPartition ii_X10 (by decide +kernel) ⟨Nat.le_of_ble_eq_true rfl, Nat.le_of_ble_eq_true rfl⟩ hl rfl (Nat.le_of_ble_eq_true rfl) ⟨Nat.le_of_ble_eq_true rfl, Nat.le_of_ble_eq_true rfl⟩ dX1_isSoundEntry_84) (fun r_84 u H locs hu G => ?_)
              obtain ⟨hpt, rfl⟩ := hu
              have G : wd Z A s ([(b, .inr (2, [.int num, .ref q, .int ex, .int so, va_rf bt, .int wt])), (q, aB Z L f)]) H locs := G
              refine lv_if_ne (tgt := 92) hx hb dX1_isSoundEntry_87 (by decide) (fun c_87 => ?_) (fun c_87 => ?_)
              · refine lv_iload hx hb dX1_isSoundEntry_92 (lv_at hl 0 rfl) ?_
                refine lv_istore_n (lv' := [(1, .int (nI (aK f k))), (5, .int (nI (aK f k))), (4, .int (nI (6 + 6 * k))), (3, .int (nI k)), (2, .int (aNa f k)), (0, .ref b)]) hx hb dX1_isSoundEntry_94 rfl hl (by decide) rfl (fun ls hl => ?_)
                refine lv_aload_n hx hb dX1_isSoundEntry_95 rfl (lv_at hl 5 rfl) ?_
                refine lv_iload hx hb dX1_isSoundEntry_96 (lv_at hl 2 rfl) ?_
                refine lv_iconst (v := 1) hx hb dX1_isSoundEntry_98 (by decide) ?_
                refine lv_iadd hx hb dX1_isSoundEntry_99 ?_
                refine k_topi (y := nI (6 + 6 * k + 1)) (by exact nI_1 _) ?_
                have hX : List.Perm ([(b, .inr (2, [.int num, .ref q, .int ex, .int so, va_rf bt, .int wt])), (q, aB Z L f)]) ([(b, .inr (2, [.int num, .ref q, .int ex, .int so, va_rf bt, .int wt])), (q, aB Z L f)] ++ ([])) := (perm_ix [0, 1] rfl 2 (by decide) rfl)
                refine kc_i (Wc := [(b, .inr (2, [.int num, .ref q, .int ex, .int so, va_rf bt, .int wt])), (q, aB Z L f)]) (Wr := []) G hX (krV 1 rfl (As := [.int (nI (6 + 6 * k + 1))]) (rest := []) (ci := 2) (CC := RX1) (T := TX1) (N := 6) C G hX (c_X1_u4At Z l b q L num ex so bt wt f (6 + 6 * k + 1) hL (by omega) _) (gdV ml_X1_31 im_X1_u4At se_X1_u4At ii_X1 co_X1_u4At) (by decide +kernel) ⟨Nat.le_of_ble_eq_true rfl, Nat.le_of_ble_eq_true rfl⟩ rfl 0 rfl hl rfl (Nat.le_of_ble_eq_true rfl) ⟨Nat.le_refl _, Nat.le_refl _⟩ dX1_isSoundEntry_100) (fun r_100 u H locs hu G => ?_)
                obtain ⟨r_100_e, rfl⟩ := hu
                subst r_100_e
                have G : wd Z A s ([(b, .inr (2, [.int num, .ref q, .int ex, .int so, va_rf bt, .int wt])), (q, aB Z L f)]) H locs := G
                refine lv_istore_n (lv' := [(2, .int (aN f k)), (1, .int (nI (aK f k))), (5, .int (nI (aK f k))), (4, .int (nI (6 + 6 * k))), (3, .int (nI k)), (0, .ref b)]) hx hb dX1_isSoundEntry_103 rfl hl (by decide) rfl (fun ls hl => ?_)
                refine lv_iinc (v := nI (k + 1)) (lv' := [(3, .int (nI (k + 1))), (2, .int (aN f k)), (1, .int (nI (aK f k))), (5, .int (nI (aK f k))), (4, .int (nI (6 + 6 * k))), (0, .ref b)]) hx hb dX1_isSoundEntry_104 hl (k := 4) rfl (nI_1 _) (by decide) rfl (fun ls hl => ?_)
                refine lv_goto (tgt := 19) hx hb dX1_isSoundEntry_107 (by decide) ?_
                have hC : enC f k := ⟨(nI_leI (a := 1) (by omega) (by omega)).mp (Int32.not_lt.mp c_55), (nI_leI (by omega) (by omega)).mp (Int32.not_lt.mp c_61), by rw [if_pos hke]; exact Int32.not_le.mp c_73, (isP_nI (aP_lt f k)).mp (Decidable.byContradiction (fun z => by rw [hpt, if_neg z] at c_87; exact c_87 rfl))⟩
                exact ih (k + 1) (by omega) (lt_s hi hC) _ _ _ G (lv_sub hl [0, 1, 2, 5] rfl)
              · refine lv_iconst (v := 0) hx hb dX1_isSoundEntry_90 (by decide) ?_
                exact kr_z C G (by decide) (hp0 ⟨k, by omega, fun z => by rw [hpt, if_pos ((isP_nI (aP_lt f k)).mpr z.2.2.2)] at c_87; exact absurd c_87 (by decide)⟩) (Nat.le_of_ble_eq_true rfl) (Nat.le_of_ble_eq_true rfl) dX1_isSoundEntry_91
      · refine lv_iconst (v := (-1)) hx hb dX1_isSoundEntry_50 (by decide) ?_
        refine lv_istore_n (lv' := [(2, .int (-1)), (5, .int (nI (aK f k))), (4, .int (nI (6 + 6 * k))), (3, .int (nI k)), (1, .int (nI (aKa f k))), (0, .ref b)]) hx hb dX1_isSoundEntry_51 rfl hl (by decide) rfl (fun ls hl => ?_)
        have hke : ¬ aK f k = aKa f k := fun z => c_47 (by rw [z])
        refine lv_iload hx hb dX1_isSoundEntry_52 (lv_at hl 1 rfl) ?_
        refine lv_iconst (v := 1) hx hb dX1_isSoundEntry_54 (by decide) ?_
        refine lv_icmp_lt (tgt := 90) hx hb dX1_isSoundEntry_55 (by decide) (fun c_55 => ?_) (fun c_55 => ?_)
        · refine lv_iconst (v := 0) hx hb dX1_isSoundEntry_90 (by decide) ?_
          exact kr_z C G (by decide) (hp0 ⟨k, by omega, fun z => absurd (show nI (aK f k) < nI 1 from c_55) (nI_nlt z.1 (by omega))⟩) (Nat.le_of_ble_eq_true rfl) (Nat.le_of_ble_eq_true rfl) dX1_isSoundEntry_91
        · refine lv_iload hx hb dX1_isSoundEntry_58 (lv_at hl 1 rfl) ?_
          refine lv_iload_n hx hb dX1_isSoundEntry_60 rfl (lv_at hl 4 rfl) ?_
          refine lv_icmp_gt (tgt := 90) hx hb dX1_isSoundEntry_61 (by decide) (fun c_61 => ?_) (fun c_61 => ?_)
          · refine lv_iconst (v := 0) hx hb dX1_isSoundEntry_90 (by decide) ?_
            exact kr_z C G (by decide) (hp0 ⟨k, by omega, fun z => absurd c_61 (nI_nlt z.2.1 (by omega))⟩) (Nat.le_of_ble_eq_true rfl) (Nat.le_of_ble_eq_true rfl) dX1_isSoundEntry_91
          · refine lv_aload_n hx hb dX1_isSoundEntry_64 rfl (lv_at hl 5 rfl) ?_
            refine lv_iload hx hb dX1_isSoundEntry_65 (lv_at hl 2 rfl) ?_
            refine lv_iconst (v := 1) hx hb dX1_isSoundEntry_67 (by decide) ?_
            refine lv_iadd hx hb dX1_isSoundEntry_68 ?_
            refine k_topi (y := nI (6 + 6 * k + 1)) (by exact nI_1 _) ?_
            have hX : List.Perm ([(b, .inr (2, [.int num, .ref q, .int ex, .int so, va_rf bt, .int wt])), (q, aB Z L f)]) ([(b, .inr (2, [.int num, .ref q, .int ex, .int so, va_rf bt, .int wt])), (q, aB Z L f)] ++ ([])) := (perm_ix [0, 1] rfl 2 (by decide) rfl)
            refine kc_i (Wc := [(b, .inr (2, [.int num, .ref q, .int ex, .int so, va_rf bt, .int wt])), (q, aB Z L f)]) (Wr := []) G hX (krV 1 rfl (As := [.int (nI (6 + 6 * k + 1))]) (rest := []) (ci := 2) (CC := RX1) (T := TX1) (N := 6) C G hX (c_X1_u4At Z l b q L num ex so bt wt f (6 + 6 * k + 1) hL (by omega) _) (gdV ml_X1_31 im_X1_u4At se_X1_u4At ii_X1 co_X1_u4At) (by decide +kernel) ⟨Nat.le_of_ble_eq_true rfl, Nat.le_of_ble_eq_true rfl⟩ rfl 0 rfl hl rfl (Nat.le_of_ble_eq_true rfl) ⟨Nat.le_refl _, Nat.le_refl _⟩ dX1_isSoundEntry_69) (fun r_69_1 u H locs hu G => ?_)
            obtain ⟨r_69_1_e, rfl⟩ := hu
            subst r_69_1_e
            have G : wd Z A s ([(b, .inr (2, [.int num, .ref q, .int ex, .int so, va_rf bt, .int wt])), (q, aB Z L f)]) H locs := G
            refine lv_iload_n hx hb dX1_isSoundEntry_72 rfl (lv_at hl 0 rfl) ?_
            refine lv_icmp_le (tgt := 90) hx hb dX1_isSoundEntry_73 (by decide) (fun c_73 => ?_) (fun c_73 => ?_)
            · refine lv_iconst (v := 0) hx hb dX1_isSoundEntry_90 (by decide) ?_
              exact kr_z C G (by decide) (hp0 ⟨k, by omega, fun z => by have h9 := z.2.2.1; rw [if_neg hke] at h9; exact absurd c_73 (Int32.not_le.mpr h9)⟩) (Nat.le_of_ble_eq_true rfl) (Nat.le_of_ble_eq_true rfl) dX1_isSoundEntry_91
            · refine lv_aload_n hx hb dX1_isSoundEntry_76 rfl (lv_at hl 5 rfl) ?_
              refine lv_iload hx hb dX1_isSoundEntry_77 (lv_at hl 2 rfl) ?_
              refine lv_iconst (v := 5) hx hb dX1_isSoundEntry_79 (by decide) ?_
              refine lv_iadd hx hb dX1_isSoundEntry_80 ?_
              refine k_topi (y := nI (6 + 6 * k + 5)) (by exact nI_add _ 5) ?_
              have hX : List.Perm ([(b, .inr (2, [.int num, .ref q, .int ex, .int so, va_rf bt, .int wt])), (q, aB Z L f)]) ([(b, .inr (2, [.int num, .ref q, .int ex, .int so, va_rf bt, .int wt])), (q, aB Z L f)] ++ ([])) := (perm_ix [0, 1] rfl 2 (by decide) rfl)
              refine kc_i (Wc := [(b, .inr (2, [.int num, .ref q, .int ex, .int so, va_rf bt, .int wt])), (q, aB Z L f)]) (Wr := []) G hX (krV 1 rfl (As := [.int (nI (6 + 6 * k + 5))]) (rest := []) (ci := 2) (CC := RX1) (T := TX1) (N := 6) C G hX (c_X1_octetAtI Z l b q L num ex so bt wt f (6 + 6 * k + 5) hL (by omega) _) (gdV ml_X1_19 im_X1_octetAt se_X1_octetAt ii_X1 co_X1_octetAt) (by decide +kernel) ⟨Nat.le_of_ble_eq_true rfl, Nat.le_of_ble_eq_true rfl⟩ rfl 0 rfl hl rfl (Nat.le_of_ble_eq_true rfl) ⟨Nat.le_refl _, Nat.le_refl _⟩ dX1_isSoundEntry_81) (fun r_81_1 u H locs hu G => ?_)
              obtain ⟨r_81_1_e, rfl⟩ := hu
              subst r_81_1_e
              have G : wd Z A s ([(b, .inr (2, [.int num, .ref q, .int ex, .int so, va_rf bt, .int wt])), (q, aB Z L f)]) H locs := G
              have hX : List.Perm ([(b, .inr (2, [.int num, .ref q, .int ex, .int so, va_rf bt, .int wt])), (q, aB Z L f)]) ([] ++ ([(b, .inr (2, [.int num, .ref q, .int ex, .int so, va_rf bt, .int wt])), (q, aB Z L f)])) := (perm_ix [0, 1] rfl 2 (by decide) rfl)
              refine kc_i (Wc := []) (Wr := [(b, .inr (2, [.int num, .ref q, .int ex, .int so, va_rf bt, .int wt])), (q, aB Z L f)]) G hX (krSN 1 rfl (As := [.int (nI (aP f k))]) (rest := []) (host := "LakeTable") C G hX (c_X10_isPartition Z l (nI (aP f k)) _) (gdP co_X10_isPartition) (by decide) sm_X10_isPartition ii_X10 (by decide +kernel) ⟨Nat.le_of_ble_eq_true rfl, Nat.le_of_ble_eq_true rfl⟩ hl rfl (Nat.le_of_ble_eq_true rfl) ⟨Nat.le_of_ble_eq_true rfl, Nat.le_of_ble_eq_true rfl⟩ dX1_isSoundEntry_84) (fun r_84_1 u H locs hu G => ?_)
              obtain ⟨hpt, rfl⟩ := hu
              have G : wd Z A s ([(b, .inr (2, [.int num, .ref q, .int ex, .int so, va_rf bt, .int wt])), (q, aB Z L f)]) H locs := G
              refine lv_if_ne (tgt := 92) hx hb dX1_isSoundEntry_87 (by decide) (fun c_87 => ?_) (fun c_87 => ?_)
              · refine lv_iload hx hb dX1_isSoundEntry_92 (lv_at hl 1 rfl) ?_
                refine lv_istore_n (lv' := [(1, .int (nI (aK f k))), (2, .int (-1)), (5, .int (nI (aK f k))), (4, .int (nI (6 + 6 * k))), (3, .int (nI k)), (0, .ref b)]) hx hb dX1_isSoundEntry_94 rfl hl (by decide) rfl (fun ls hl => ?_)
                refine lv_aload_n hx hb dX1_isSoundEntry_95 rfl (lv_at hl 5 rfl) ?_
                refine lv_iload hx hb dX1_isSoundEntry_96 (lv_at hl 3 rfl) ?_
                refine lv_iconst (v := 1) hx hb dX1_isSoundEntry_98 (by decide) ?_
                refine lv_iadd hx hb dX1_isSoundEntry_99 ?_
                refine k_topi (y := nI (6 + 6 * k + 1)) (by exact nI_1 _) ?_
                have hX : List.Perm ([(b, .inr (2, [.int num, .ref q, .int ex, .int so, va_rf bt, .int wt])), (q, aB Z L f)]) ([(b, .inr (2, [.int num, .ref q, .int ex, .int so, va_rf bt, .int wt])), (q, aB Z L f)] ++ ([])) := (perm_ix [0, 1] rfl 2 (by decide) rfl)
                refine kc_i (Wc := [(b, .inr (2, [.int num, .ref q, .int ex, .int so, va_rf bt, .int wt])), (q, aB Z L f)]) (Wr := []) G hX (krV 1 rfl (As := [.int (nI (6 + 6 * k + 1))]) (rest := []) (ci := 2) (CC := RX1) (T := TX1) (N := 6) C G hX (c_X1_u4At Z l b q L num ex so bt wt f (6 + 6 * k + 1) hL (by omega) _) (gdV ml_X1_31 im_X1_u4At se_X1_u4At ii_X1 co_X1_u4At) (by decide +kernel) ⟨Nat.le_of_ble_eq_true rfl, Nat.le_of_ble_eq_true rfl⟩ rfl 0 rfl hl rfl (Nat.le_of_ble_eq_true rfl) ⟨Nat.le_refl _, Nat.le_refl _⟩ dX1_isSoundEntry_100) (fun r_100_1 u H locs hu G => ?_)
                obtain ⟨r_100_1_e, rfl⟩ := hu
                subst r_100_1_e
                have G : wd Z A s ([(b, .inr (2, [.int num, .ref q, .int ex, .int so, va_rf bt, .int wt])), (q, aB Z L f)]) H locs := G
                refine lv_istore_n (lv' := [(2, .int (aN f k)), (1, .int (nI (aK f k))), (5, .int (nI (aK f k))), (4, .int (nI (6 + 6 * k))), (3, .int (nI k)), (0, .ref b)]) hx hb dX1_isSoundEntry_103 rfl hl (by decide) rfl (fun ls hl => ?_)
                refine lv_iinc (v := nI (k + 1)) (lv' := [(3, .int (nI (k + 1))), (2, .int (aN f k)), (1, .int (nI (aK f k))), (5, .int (nI (aK f k))), (4, .int (nI (6 + 6 * k))), (0, .ref b)]) hx hb dX1_isSoundEntry_104 hl (k := 4) rfl (nI_1 _) (by decide) rfl (fun ls hl => ?_)
                refine lv_goto (tgt := 19) hx hb dX1_isSoundEntry_107 (by decide) ?_
                have hC : enC f k := ⟨(nI_leI (a := 1) (by omega) (by omega)).mp (Int32.not_lt.mp c_55), (nI_leI (by omega) (by omega)).mp (Int32.not_lt.mp c_61), by rw [if_neg hke]; exact Int32.not_le.mp c_73, (isP_nI (aP_lt f k)).mp (Decidable.byContradiction (fun z => by rw [hpt, if_neg z] at c_87; exact c_87 rfl))⟩
                exact ih (k + 1) (by omega) (lt_s hi hC) _ _ _ G (lv_sub hl [0, 1, 2, 5] rfl)
              · refine lv_iconst (v := 0) hx hb dX1_isSoundEntry_90 (by decide) ?_
                exact kr_z C G (by decide) (hp0 ⟨k, by omega, fun z => by rw [hpt, if_pos ((isP_nI (aP_lt f k)).mpr z.2.2.2)] at c_87; exact absurd c_87 (by decide)⟩) (Nat.le_of_ble_eq_true rfl) (Nat.le_of_ble_eq_true rfl) dX1_isSoundEntry_91
set_option maxRecDepth 100000 in
set_option maxHeartbeats 4000000 in
theorem c_X1_isSoundEntry (Z : zT) (l : Launch) (b q L : Nat) (num ex so : Int32) (bt : Option Nat) (wt : Int32) (f : Nat → Int32) (hL : L < 2 ^ 30) (h6 : 6 ≤ L) : Ki Z l yX1_isSoundEntry cX1_isSoundEntry 6 (some .boolean) ({ frames := 2, cells := 0, slots := 0, locals := 60 }) [.ref b] (bbW Z b q L num ex so bt wt f) (fun r u => (¬ (frm f L 6 76 num ∧ ∀ k, k < ub (f 5) → enC f k) ∧ r = 0 ∧ u = bbW Z b q L num ex so bt wt f) ∨ ((frm f L 6 76 num ∧ ∀ k, k < ub (f 5) → enC f k) ∧ r = 1 ∧ u = bbW Z b q L num ex so bt wt f)) := by
  intro sz
  refine Met.ofK (cc := cX1_isSoundEntry) (maxL := 6) (ret := (some .boolean)) (by decide) (Nat.le_of_ble_eq_true rfl) ?_
  intro p e s m below meth c ls C G hl
  generalize va_A _ sz = A at G ⊢
  have hx := C.1
  have hb := C.2.1
  have hown := C.2.2.2.2.2.1
  have hts := C.2.2.2.2.2.2.1
  refine lv_aload_n hx hb dX1_isSoundEntry_0 rfl (lv_at hl 0 rfl) ?_
  refine lv_bipush (v := 76) hx hb dX1_isSoundEntry_1 (by decide) ?_
  refine lv_bipush (v := 6) hx hb dX1_isSoundEntry_3 (by decide) ?_
  have hX : List.Perm ([(b, .inr (2, [.int num, .ref q, .int ex, .int so, va_rf bt, .int wt])), (q, aB Z L f)]) ([(b, .inr (2, [.int num, .ref q, .int ex, .int so, va_rf bt, .int wt])), (q, aB Z L f)] ++ ([])) := (perm_ix [0, 1] rfl 2 (by decide) rfl)
  refine kc_i (Wc := [(b, .inr (2, [.int num, .ref q, .int ex, .int so, va_rf bt, .int wt])), (q, aB Z L f)]) (Wr := []) G hX (krV 2 rfl (As := [.int 76, .int 6]) (rest := []) (ci := 2) (CC := RX1) (T := TX1) (N := 6) C G hX (c_X1_isFramed Z l b q L num ex so bt wt f 76 6 (by have := ub_lt (f 5); omega) hL h6 _) (gdV ml_X1_40 im_X1_isFramed se_X1_isFramed ii_X1 co_X1_isFramed) (by decide +kernel) ⟨Nat.le_of_ble_eq_true rfl, Nat.le_of_ble_eq_true rfl⟩ rfl 0 rfl hl rfl (Nat.le_of_ble_eq_true rfl) ⟨Nat.le_of_ble_eq_true rfl, Nat.le_of_ble_eq_true rfl⟩ dX1_isSoundEntry_5) (fun r_5 u H locs hu G => ?_)
  refine lv_if_ne (tgt := 13) hx hb dX1_isSoundEntry_8 (by decide) (fun c_8 => ?_) (fun c_8 => ?_)
  · refine lv_iconst (v := 2) hx hb dX1_isSoundEntry_13 (by decide) ?_
    refine lv_istore_n (lv' := [(1, .int 2), (0, .ref b)]) hx hb dX1_isSoundEntry_14 rfl hl (by decide) rfl (fun ls hl => ?_)
    refine lv_iconst (v := (-1)) hx hb dX1_isSoundEntry_15 (by decide) ?_
    refine lv_istore_n (lv' := [(2, .int (-1)), (1, .int 2), (0, .ref b)]) hx hb dX1_isSoundEntry_16 rfl hl (by decide) rfl (fun ls hl => ?_)
    refine lv_iconst (v := 0) hx hb dX1_isSoundEntry_17 (by decide) ?_
    refine lv_istore_n (lv' := [(3, .int 0), (2, .int (-1)), (1, .int 2), (0, .ref b)]) hx hb dX1_isSoundEntry_18 rfl hl (by decide) rfl (fun ls hl => ?_)
    rcases hu with ⟨hn, hr, rfl⟩ | ⟨hfr, hr, rfl⟩
    · exact absurd hr c_8
    · exact lp_X1_isSoundEntry C hL hfr.1 (fun z => Or.inl ⟨fun y => by obtain ⟨k, a, b⟩ := z; exact b (y.2 k a), rfl, rfl⟩) (fun z => Or.inr ⟨⟨hfr, z⟩, rfl, rfl⟩) (ub (f 5)) 0 (by omega) lt_0 _ _ _ G (lv_sub hl [0, 1, 2, 3] rfl)
  · refine lv_iconst (v := 0) hx hb dX1_isSoundEntry_11 (by decide) ?_
    rcases hu with ⟨hn, hr, rfl⟩ | ⟨hfr, hr, rfl⟩
    · exact kr_z C G (by decide) (Or.inl ⟨fun z => hn z.1, rfl, rfl⟩) (Nat.le_of_ble_eq_true rfl) (Nat.le_of_ble_eq_true rfl) dX1_isSoundEntry_12
    · rw [hr] at c_8; exact absurd c_8 (by decide)
