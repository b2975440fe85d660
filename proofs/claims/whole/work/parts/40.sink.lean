/-! MODULE Sink (X6): bytes that grow at their end. -/
set_option maxRecDepth 100000 in
set_option maxHeartbeats 4000000 in
theorem c_X6_clear (Z : zT) (l : Launch) (h q L : Nat) (f : Nat → Int32) (n : Int32) : Kv Z l yX6_clear cX6_clear 1 none ({ frames := 0, cells := 0, slots := 0, locals := 0 }) [.ref h] (skW Z h q L f n) (fun u => u = skW Z h q L f 0) := by
  intro sz
  refine Met.ofK (cc := cX6_clear) (maxL := 1) (ret := none) (by decide) (Nat.le_of_ble_eq_true rfl) ?_
  intro p e s m below meth c ls C G hl
  generalize va_A _ sz = A at G ⊢
  have hx := C.1
  have hb := C.2.1
  have hown := C.2.2.2.2.2.1
  have hts := C.2.2.2.2.2.2.1
  refine lv_aload_n hx hb dX6_clear_0 rfl (lv_at hl 0 rfl) ?_
  refine lv_iconst (v := 0) hx hb dX6_clear_1 (by decide) ?_
  refine k_put (ci := 7) (CC := RX6) (T := TX6) (N := 2) (ty := .int) (v := .int 0) C G 0 rfl rfl in_7 tyX6 tyX6_ok nmX6 1 (by decide) fl_X6_13 rfl rfl rfl rfl rfl (Nat.le_of_ble_eq_true rfl) dX6_clear_2 (fun H locs (G : wd Z A s ([(h, .inr (7, [.ref q, .int 0])), (q, aB Z L f)]) H locs) => ?_)
  exact kr_v C G rfl (Nat.le_refl _) (Nat.le_refl _) dX6_clear_5
set_option maxRecDepth 100000 in
set_option maxHeartbeats 4000000 in
theorem c_X6_u1 (Z : zT) (l : Launch) (h q L : Nat) (f : Nat → Int32) (bs : List Int8) (x : Int32) (hf : by_at f bs) (hk : bs.length < L) (hL : L < 2 ^ 31) : Kv Z l yX6_u1 cX6_u1 2 none ({ frames := 0, cells := 0, slots := 0, locals := 0 }) [.ref h, .int x] (skW Z h q L f (nI bs.length)) (fun u => ∃ f', by_at f' (bs ++ [x.toInt8]) ∧ u = skW Z h q L f' (nI (bs.length + 1))) := by
  intro sz
  refine Met.ofK (cc := cX6_u1) (maxL := 2) (ret := none) (by decide) (Nat.le_of_ble_eq_true rfl) ?_
  intro p e s m below meth c ls C G hl
  generalize va_A _ sz = A at G ⊢
  have hx := C.1
  have hb := C.2.1
  have hown := C.2.2.2.2.2.1
  have hts := C.2.2.2.2.2.2.1
  refine lv_aload_n hx hb dX6_u1_0 rfl (lv_at hl 0 rfl) ?_
  refine k_get (ci := 7) (CC := RX6) (T := TX6) (N := 2) (v := .int (nI bs.length)) C G 0 rfl rfl in_7 1 (by decide) fl_X6_13 rfl rfl dX6_u1_1 ?_
  refine lv_aload_n hx hb dX6_u1_4 rfl (lv_at hl 0 rfl) ?_
  refine k_get (ci := 7) (CC := RX6) (T := TX6) (N := 2) (v := .ref q) C G 0 rfl rfl in_7 0 (by decide) fl_X6_7 rfl rfl dX6_u1_5 ?_
  refine k_alen (ty := .byte) C G 1 0 rfl rfl dX6_u1_8 ?_
  refine lv_icmp_ge (tgt := 33) hx hb dX6_u1_9 (by decide) (fun c_9 => ?_) (fun c_9 => ?_)
  · exact absurd c_9 (nI_ge hk hL)
  · refine lv_aload_n hx hb dX6_u1_12 rfl (lv_at hl 0 rfl) ?_
    refine k_get (ci := 7) (CC := RX6) (T := TX6) (N := 2) (v := .ref q) C G 0 rfl rfl in_7 0 (by decide) fl_X6_7 rfl rfl dX6_u1_13 ?_
    refine lv_aload_n hx hb dX6_u1_16 rfl (lv_at hl 0 rfl) ?_
    refine k_get (ci := 7) (CC := RX6) (T := TX6) (N := 2) (v := .int (nI bs.length)) C G 0 rfl rfl in_7 1 (by decide) fl_X6_13 rfl rfl dX6_u1_17 ?_
    refine lv_iload_n hx hb dX6_u1_20 rfl (lv_at hl 1 rfl) ?_
    refine lv_i2b (v := x.toInt8.toInt32) hx hb dX6_u1_21 rfl ?_
    have h_22 : vp_in (nI bs.length) L := by exact in_lt hk hL
    refine k_bast C G 1 rfl h_22 (pk_vb _) dX6_u1_22 (fun H locs (G : wd Z A s ([(h, .inr (7, [.ref q, .int (nI bs.length)])), (q, aB Z L (upd f (nI bs.length).toNatClampNeg x.toInt8.toInt32))]) H locs) => ?_)
    refine lv_aload_n hx hb dX6_u1_23 rfl (lv_at hl 0 rfl) ?_
    refine lv_dup hx hb dX6_u1_24 rfl ?_
    refine k_get (ci := 7) (CC := RX6) (T := TX6) (N := 2) (v := .int (nI bs.length)) C G 0 rfl rfl in_7 1 (by decide) fl_X6_13 rfl rfl dX6_u1_25 ?_
    refine lv_iconst (v := 1) hx hb dX6_u1_28 (by decide) ?_
    refine lv_iadd hx hb dX6_u1_29 ?_
    refine k_put (ci := 7) (CC := RX6) (T := TX6) (N := 2) (ty := .int) (v := .int ((nI bs.length) + 1)) C G 0 rfl rfl in_7 tyX6 tyX6_ok nmX6 1 (by decide) fl_X6_13 rfl rfl rfl rfl rfl (Nat.le_of_ble_eq_true rfl) dX6_u1_30 (fun H locs (G : wd Z A s ([(h, .inr (7, [.ref q, .int ((nI bs.length) + 1)])), (q, aB Z L (upd f (nI bs.length).toNatClampNeg x.toInt8.toInt32))]) H locs) => ?_)
    exact kr_v C G ⟨_, by_push hf x.toInt8, by rw [nI_clamp (by omega : bs.length < 2 ^ 31), nI_1]⟩ (Nat.le_refl _) (Nat.le_refl _) dX6_u1_33
set_option maxRecDepth 100000 in
set_option maxHeartbeats 4000000 in
theorem c_X6_u4 (Z : zT) (l : Launch) (h q L : Nat) (f : Nat → Int32) (bs : List Int8) (x : Int32) (hf : by_at f bs) (hk : bs.length + 4 ≤ L) (hL : L < 2 ^ 31) : Kv Z l yX6_u4 cX6_u4 2 none ({ frames := 0, cells := 0, slots := 0, locals := 0 }) [.ref h, .int x] (skW Z h q L f (nI bs.length)) (fun u => ∃ f', by_at f' (bs ++ u4b x) ∧ u = skW Z h q L f' (nI (bs.length + 4))) := by
  intro sz
  refine Met.ofK (cc := cX6_u4) (maxL := 2) (ret := none) (by decide) (Nat.le_of_ble_eq_true rfl) ?_
  intro p e s m below meth c ls C G hl
  generalize va_A _ sz = A at G ⊢
  have hx := C.1
  have hb := C.2.1
  have hown := C.2.2.2.2.2.1
  have hts := C.2.2.2.2.2.2.1
  refine lv_aload_n hx hb dX6_u4_0 rfl (lv_at hl 0 rfl) ?_
  refine k_get (ci := 7) (CC := RX6) (T := TX6) (N := 2) (v := .int (nI bs.length)) C G 0 rfl rfl in_7 1 (by decide) fl_X6_13 rfl rfl dX6_u4_1 ?_
  refine lv_aload_n hx hb dX6_u4_4 rfl (lv_at hl 0 rfl) ?_
  refine k_get (ci := 7) (CC := RX6) (T := TX6) (N := 2) (v := .ref q) C G 0 rfl rfl in_7 0 (by decide) fl_X6_7 rfl rfl dX6_u4_5 ?_
  refine k_alen (ty := .byte) C G 1 0 rfl rfl dX6_u4_8 ?_
  refine lv_iconst (v := 4) hx hb dX6_u4_9 (by decide) ?_
  refine lv_isub hx hb dX6_u4_10 ?_
  refine lv_icmp_gt (tgt := 83) hx hb dX6_u4_11 (by decide) (fun c_11 => ?_) (fun c_11 => ?_)
  · exact absurd c_11 (k_le4 hk hL)
  · refine lv_aload_n hx hb dX6_u4_14 rfl (lv_at hl 0 rfl) ?_
    refine k_get (ci := 7) (CC := RX6) (T := TX6) (N := 2) (v := .ref q) C G 0 rfl rfl in_7 0 (by decide) fl_X6_7 rfl rfl dX6_u4_15 ?_
    refine lv_aload_n hx hb dX6_u4_18 rfl (lv_at hl 0 rfl) ?_
    refine k_get (ci := 7) (CC := RX6) (T := TX6) (N := 2) (v := .int (nI bs.length)) C G 0 rfl rfl in_7 1 (by decide) fl_X6_13 rfl rfl dX6_u4_19 ?_
    refine lv_iload_n hx hb dX6_u4_22 rfl (lv_at hl 1 rfl) ?_
    refine lv_bipush (v := 24) hx hb dX6_u4_23 (by decide) ?_
    refine lv_iushr (v := ush x 24) hx hb dX6_u4_25 rfl ?_
    refine lv_i2b (v := (ush x 24).toInt8.toInt32) hx hb dX6_u4_26 rfl ?_
    have h_27 : vp_in (nI bs.length) L := by exact vp_in_nI (by omega) hL
    refine k_bast C G 1 rfl h_27 (pk_vb _) dX6_u4_27 (fun H locs (G : wd Z A s ([(h, .inr (7, [.ref q, .int (nI bs.length)])), (q, aB Z L (upd f (nI bs.length).toNatClampNeg ((ush x 24).toInt8.toInt32)))]) H locs) => ?_)
    refine lv_aload_n hx hb dX6_u4_28 rfl (lv_at hl 0 rfl) ?_
    refine k_get (ci := 7) (CC := RX6) (T := TX6) (N := 2) (v := .ref q) C G 0 rfl rfl in_7 0 (by decide) fl_X6_7 rfl rfl dX6_u4_29 ?_
    refine lv_aload_n hx hb dX6_u4_32 rfl (lv_at hl 0 rfl) ?_
    refine k_get (ci := 7) (CC := RX6) (T := TX6) (N := 2) (v := .int (nI bs.length)) C G 0 rfl rfl in_7 1 (by decide) fl_X6_13 rfl rfl dX6_u4_33 ?_
    refine lv_iconst (v := 1) hx hb dX6_u4_36 (by decide) ?_
    refine lv_iadd hx hb dX6_u4_37 ?_
    refine lv_iload_n hx hb dX6_u4_38 rfl (lv_at hl 1 rfl) ?_
    refine lv_bipush (v := 16) hx hb dX6_u4_39 (by decide) ?_
    refine lv_iushr (v := ush x 16) hx hb dX6_u4_41 rfl ?_
    refine lv_i2b (v := (ush x 16).toInt8.toInt32) hx hb dX6_u4_42 rfl ?_
    have h_43 : vp_in ((nI bs.length) + 1) L := by exact in_u4 hk hL 1 (by omega)
    refine k_bast C G 1 rfl h_43 (pk_vb _) dX6_u4_43 (fun H locs (G : wd Z A s ([(h, .inr (7, [.ref q, .int (nI bs.length)])), (q, aB Z L (upd (upd f (nI bs.length).toNatClampNeg ((ush x 24).toInt8.toInt32)) ((nI bs.length) + 1).toNatClampNeg ((ush x 16).toInt8.toInt32)))]) H locs) => ?_)
    refine lv_aload_n hx hb dX6_u4_44 rfl (lv_at hl 0 rfl) ?_
    refine k_get (ci := 7) (CC := RX6) (T := TX6) (N := 2) (v := .ref q) C G 0 rfl rfl in_7 0 (by decide) fl_X6_7 rfl rfl dX6_u4_45 ?_
    refine lv_aload_n hx hb dX6_u4_48 rfl (lv_at hl 0 rfl) ?_
    refine k_get (ci := 7) (CC := RX6) (T := TX6) (N := 2) (v := .int (nI bs.length)) C G 0 rfl rfl in_7 1 (by decide) fl_X6_13 rfl rfl dX6_u4_49 ?_
    refine lv_iconst (v := 2) hx hb dX6_u4_52 (by decide) ?_
    refine lv_iadd hx hb dX6_u4_53 ?_
    refine lv_iload_n hx hb dX6_u4_54 rfl (lv_at hl 1 rfl) ?_
    refine lv_bipush (v := 8) hx hb dX6_u4_55 (by decide) ?_
    refine lv_iushr (v := ush x 8) hx hb dX6_u4_57 rfl ?_
    refine lv_i2b (v := (ush x 8).toInt8.toInt32) hx hb dX6_u4_58 rfl ?_
    have h_59 : vp_in ((nI bs.length) + 2) L := by exact in_u4 hk hL 2 (by omega)
    refine k_bast C G 1 rfl h_59 (pk_vb _) dX6_u4_59 (fun H locs (G : wd Z A s ([(h, .inr (7, [.ref q, .int (nI bs.length)])), (q, aB Z L (upd (upd (upd f (nI bs.length).toNatClampNeg ((ush x 24).toInt8.toInt32)) ((nI bs.length) + 1).toNatClampNeg ((ush x 16).toInt8.toInt32)) ((nI bs.length) + 2).toNatClampNeg ((ush x 8).toInt8.toInt32)))]) H locs) => ?_)
    refine lv_aload_n hx hb dX6_u4_60 rfl (lv_at hl 0 rfl) ?_
    refine k_get (ci := 7) (CC := RX6) (T := TX6) (N := 2) (v := .ref q) C G 0 rfl rfl in_7 0 (by decide) fl_X6_7 rfl rfl dX6_u4_61 ?_
    refine lv_aload_n hx hb dX6_u4_64 rfl (lv_at hl 0 rfl) ?_
    refine k_get (ci := 7) (CC := RX6) (T := TX6) (N := 2) (v := .int (nI bs.length)) C G 0 rfl rfl in_7 1 (by decide) fl_X6_13 rfl rfl dX6_u4_65 ?_
    refine lv_iconst (v := 3) hx hb dX6_u4_68 (by decide) ?_
    refine lv_iadd hx hb dX6_u4_69 ?_
    refine lv_iload_n hx hb dX6_u4_70 rfl (lv_at hl 1 rfl) ?_
    refine lv_i2b (v := x.toInt8.toInt32) hx hb dX6_u4_71 rfl ?_
    have h_72 : vp_in ((nI bs.length) + 3) L := by exact in_u4 hk hL 3 (by omega)
    refine k_bast C G 1 rfl h_72 (pk_vb _) dX6_u4_72 (fun H locs (G : wd Z A s ([(h, .inr (7, [.ref q, .int (nI bs.length)])), (q, aB Z L (upd (upd (upd (upd f (nI bs.length).toNatClampNeg ((ush x 24).toInt8.toInt32)) ((nI bs.length) + 1).toNatClampNeg ((ush x 16).toInt8.toInt32)) ((nI bs.length) + 2).toNatClampNeg ((ush x 8).toInt8.toInt32)) ((nI bs.length) + 3).toNatClampNeg x.toInt8.toInt32))]) H locs) => ?_)
    refine lv_aload_n hx hb dX6_u4_73 rfl (lv_at hl 0 rfl) ?_
    refine lv_dup hx hb dX6_u4_74 rfl ?_
    refine k_get (ci := 7) (CC := RX6) (T := TX6) (N := 2) (v := .int (nI bs.length)) C G 0 rfl rfl in_7 1 (by decide) fl_X6_13 rfl rfl dX6_u4_75 ?_
    refine lv_iconst (v := 4) hx hb dX6_u4_78 (by decide) ?_
    refine lv_iadd hx hb dX6_u4_79 ?_
    refine k_put (ci := 7) (CC := RX6) (T := TX6) (N := 2) (ty := .int) (v := .int ((nI bs.length) + 4)) C G 0 rfl rfl in_7 tyX6 tyX6_ok nmX6 1 (by decide) fl_X6_13 rfl rfl rfl rfl rfl (Nat.le_of_ble_eq_true rfl) dX6_u4_80 (fun H locs (G : wd Z A s ([(h, .inr (7, [.ref q, .int ((nI bs.length) + 4)])), (q, aB Z L (upd (upd (upd (upd f (nI bs.length).toNatClampNeg ((ush x 24).toInt8.toInt32)) ((nI bs.length) + 1).toNatClampNeg ((ush x 16).toInt8.toInt32)) ((nI bs.length) + 2).toNatClampNeg ((ush x 8).toInt8.toInt32)) ((nI bs.length) + 3).toNatClampNeg x.toInt8.toInt32))]) H locs) => ?_)
    have hc : ∀ j, j < 4 → (nI bs.length + nI j).toNatClampNeg = bs.length + j := fun j hj => by rw [nI_add, nI_clamp (by omega)]
    have h0 : (nI bs.length).toNatClampNeg = bs.length := nI_clamp (by omega)
    have h1 : (nI bs.length + 1).toNatClampNeg = bs.length + 1 := hc 1 (by omega)
    have h2 : (nI bs.length + 2).toNatClampNeg = bs.length + 2 := hc 2 (by omega)
    have h3 : (nI bs.length + 3).toNatClampNeg = bs.length + 3 := hc 3 (by omega)
    refine kr_v C G ⟨_, ?_, by rw [h0, h1, h2, h3, show nI bs.length + 4 = nI (bs.length + 4) from nI_add _ 4]⟩ (Nat.le_refl _) (Nat.le_refl _) dX6_u4_83
    have b1 := by_push hf (ush x 24).toInt8
    have b2 := by_push b1 (ush x 16).toInt8
    have b3 := by_push b2 (ush x 8).toInt8
    have b4 := by_push b3 x.toInt8
    simp only [List.length_append, List.length_singleton, List.append_assoc] at b4
    exact b4
