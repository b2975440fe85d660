/-! MODULE Sink (X6), second part: varints, the CHECK. -/
set_option maxRecDepth 100000 in
set_option maxHeartbeats 4000000 in
theorem c_X6_varintBytes (Z : zT) (l : Launch) (x : Int32) : Ki Z l yX6_varintBytes cX6_varintBytes 3 (some .int) ({ frames := 0, cells := 0, slots := 0, locals := 0 }) [.int x] [] (fun r u => r = nI (vbs x).length ∧ u = []) := by
  intro sz
  refine Met.ofK (cc := cX6_varintBytes) (maxL := 3) (ret := (some .int)) (by decide) (Nat.le_of_ble_eq_true rfl) ?_
  intro p e s m below meth c ls C G hl
  generalize va_A _ sz = A at G ⊢
  have hx := C.1
  have hb := C.2.1
  have hown := C.2.2.2.2.2.1
  have hts := C.2.2.2.2.2.2.1
  refine lv_iload_n hx hb dX6_varintBytes_0 rfl (lv_at hl 0 rfl) ?_
  refine lv_iconst (v := 1) hx hb dX6_varintBytes_1 (by decide) ?_
  refine lv_ishl hx hb dX6_varintBytes_2 ?_
  refine lv_iload_n hx hb dX6_varintBytes_3 rfl (lv_at hl 0 rfl) ?_
  refine lv_bipush (v := 31) hx hb dX6_varintBytes_4 (by decide) ?_
  refine lv_ishr hx hb dX6_varintBytes_6 ?_
  refine lv_ixor hx hb dX6_varintBytes_7 ?_
  refine k_topi (y := nI (vzN x)) (by exact vzI_nI x) ?_
  refine lv_istore_n (lv' := [(1, .int (nI (vzN x))), (0, .int x)]) hx hb dX6_varintBytes_8 rfl hl (by decide) rfl (fun ls hl => ?_)
  refine lv_iconst (v := 1) hx hb dX6_varintBytes_9 (by decide) ?_
  refine lv_istore_n (lv' := [(2, .int 1), (1, .int (nI (vzN x))), (0, .int x)]) hx hb dX6_varintBytes_10 rfl hl (by decide) rfl (fun ls hl => ?_)
  refine lv_iload_n hx hb dX6_varintBytes_11 rfl (lv_at hl 0 rfl) ?_
  refine lv_iconst (v := 5) hx hb dX6_varintBytes_12 (by decide) ?_
  refine lv_icmp_ge (tgt := 31) hx hb dX6_varintBytes_13 (by decide) (fun c_13 => ?_) (fun c_13 => ?_)
  · exact absurd c_13 (by decide)
  · refine lv_iload_n hx hb dX6_varintBytes_16 rfl (lv_at hl 1 rfl) ?_
    refine lv_bipush (v := 7) hx hb dX6_varintBytes_17 (by decide) ?_
    refine lv_iload_n hx hb dX6_varintBytes_19 rfl (lv_at hl 0 rfl) ?_
    refine lv_imul hx hb dX6_varintBytes_20 ?_
    refine k_topi (y := 7) (by decide) ?_
    refine lv_iushr (v := ush (nI (vzN x)) 7) hx hb dX6_varintBytes_21 rfl ?_
    refine lv_if_eq (tgt := 31) hx hb dX6_varintBytes_22 (by decide) (fun c_22 => ?_) (fun c_22 => ?_)
    · refine lv_iload_n hx hb dX6_varintBytes_31 rfl (lv_at hl 0 rfl) ?_
      exact kr_i C G ⟨by rw [vbs, vb_len1 ((ush_z (vzN_lt x) 7 (by decide)).mp c_22)]; rfl, rfl⟩ (Nat.le_refl _) (Nat.le_refl _) dX6_varintBytes_32
    · refine lv_iinc (v := 2) (lv' := [(2, .int 2), (1, .int (nI (vzN x))), (0, .int x)]) hx hb dX6_varintBytes_25 hl (k := 0) rfl (by decide) (by decide) rfl (fun ls hl => ?_)
      refine lv_goto (tgt := 11) hx hb dX6_varintBytes_28 (by decide) ?_
      refine lv_iload_n hx hb dX6_varintBytes_11 rfl (lv_at hl 0 rfl) ?_
      refine lv_iconst (v := 5) hx hb dX6_varintBytes_12 (by decide) ?_
      refine lv_icmp_ge (tgt := 31) hx hb dX6_varintBytes_13 (by decide) (fun c_13_1 => ?_) (fun c_13_1 => ?_)
      · exact absurd c_13_1 (by decide)
      · refine lv_iload_n hx hb dX6_varintBytes_16 rfl (lv_at hl 1 rfl) ?_
        refine lv_bipush (v := 7) hx hb dX6_varintBytes_17 (by decide) ?_
        refine lv_iload_n hx hb dX6_varintBytes_19 rfl (lv_at hl 0 rfl) ?_
        refine lv_imul hx hb dX6_varintBytes_20 ?_
        refine k_topi (y := 14) (by decide) ?_
        refine lv_iushr (v := ush (nI (vzN x)) 14) hx hb dX6_varintBytes_21 rfl ?_
        refine lv_if_eq (tgt := 31) hx hb dX6_varintBytes_22 (by decide) (fun c_22_1 => ?_) (fun c_22_1 => ?_)
        · refine lv_iload_n hx hb dX6_varintBytes_31 rfl (lv_at hl 0 rfl) ?_
          exact kr_i C G ⟨by rw [vbs, vb_len2 (fun h => c_22 ((ush_z (vzN_lt x) 7 (by decide)).mpr h)) ((ush_z (vzN_lt x) 14 (by decide)).mp c_22_1)]; rfl, rfl⟩ (Nat.le_refl _) (Nat.le_refl _) dX6_varintBytes_32
        · refine lv_iinc (v := 3) (lv' := [(2, .int 3), (1, .int (nI (vzN x))), (0, .int x)]) hx hb dX6_varintBytes_25 hl (k := 0) rfl (by decide) (by decide) rfl (fun ls hl => ?_)
          refine lv_goto (tgt := 11) hx hb dX6_varintBytes_28 (by decide) ?_
          refine lv_iload_n hx hb dX6_varintBytes_11 rfl (lv_at hl 0 rfl) ?_
          refine lv_iconst (v := 5) hx hb dX6_varintBytes_12 (by decide) ?_
          refine lv_icmp_ge (tgt := 31) hx hb dX6_varintBytes_13 (by decide) (fun c_13_2 => ?_) (fun c_13_2 => ?_)
          · exact absurd c_13_2 (by decide)
          · refine lv_iload_n hx hb dX6_varintBytes_16 rfl (lv_at hl 1 rfl) ?_
            refine lv_bipush (v := 7) hx hb dX6_varintBytes_17 (by decide) ?_
            refine lv_iload_n hx hb dX6_varintBytes_19 rfl (lv_at hl 0 rfl) ?_
            refine lv_imul hx hb dX6_varintBytes_20 ?_
            refine k_topi (y := 21) (by decide) ?_
            refine lv_iushr (v := ush (nI (vzN x)) 21) hx hb dX6_varintBytes_21 rfl ?_
            refine lv_if_eq (tgt := 31) hx hb dX6_varintBytes_22 (by decide) (fun c_22_2 => ?_) (fun c_22_2 => ?_)
            · refine lv_iload_n hx hb dX6_varintBytes_31 rfl (lv_at hl 0 rfl) ?_
              exact kr_i C G ⟨by rw [vbs, vb_len3 (fun h => c_22 ((ush_z (vzN_lt x) 7 (by decide)).mpr h)) (fun h => c_22_1 ((ush_z (vzN_lt x) 14 (by decide)).mpr h)) ((ush_z (vzN_lt x) 21 (by decide)).mp c_22_2)]; rfl, rfl⟩ (Nat.le_refl _) (Nat.le_refl _) dX6_varintBytes_32
            · refine lv_iinc (v := 4) (lv' := [(2, .int 4), (1, .int (nI (vzN x))), (0, .int x)]) hx hb dX6_varintBytes_25 hl (k := 0) rfl (by decide) (by decide) rfl (fun ls hl => ?_)
              refine lv_goto (tgt := 11) hx hb dX6_varintBytes_28 (by decide) ?_
              refine lv_iload_n hx hb dX6_varintBytes_11 rfl (lv_at hl 0 rfl) ?_
              refine lv_iconst (v := 5) hx hb dX6_varintBytes_12 (by decide) ?_
              refine lv_icmp_ge (tgt := 31) hx hb dX6_varintBytes_13 (by decide) (fun c_13_3 => ?_) (fun c_13_3 => ?_)
              · exact absurd c_13_3 (by decide)
              · refine lv_iload_n hx hb dX6_varintBytes_16 rfl (lv_at hl 1 rfl) ?_
                refine lv_bipush (v := 7) hx hb dX6_varintBytes_17 (by decide) ?_
                refine lv_iload_n hx hb dX6_varintBytes_19 rfl (lv_at hl 0 rfl) ?_
                refine lv_imul hx hb dX6_varintBytes_20 ?_
                refine k_topi (y := 28) (by decide) ?_
                refine lv_iushr (v := ush (nI (vzN x)) 28) hx hb dX6_varintBytes_21 rfl ?_
                refine lv_if_eq (tgt := 31) hx hb dX6_varintBytes_22 (by decide) (fun c_22_3 => ?_) (fun c_22_3 => ?_)
                · refine lv_iload_n hx hb dX6_varintBytes_31 rfl (lv_at hl 0 rfl) ?_
                  exact kr_i C G ⟨by rw [vbs, vb_len4 (fun h => c_22 ((ush_z (vzN_lt x) 7 (by decide)).mpr h)) (fun h => c_22_1 ((ush_z (vzN_lt x) 14 (by decide)).mpr h)) (fun h => c_22_2 ((ush_z (vzN_lt x) 21 (by decide)).mpr h)) ((ush_z (vzN_lt x) 28 (by decide)).mp c_22_3)]; rfl, rfl⟩ (Nat.le_refl _) (Nat.le_refl _) dX6_varintBytes_32
                · refine lv_iinc (v := 5) (lv' := [(2, .int 5), (1, .int (nI (vzN x))), (0, .int x)]) hx hb dX6_varintBytes_25 hl (k := 0) rfl (by decide) (by decide) rfl (fun ls hl => ?_)
                  refine lv_goto (tgt := 11) hx hb dX6_varintBytes_28 (by decide) ?_
                  refine lv_iload_n hx hb dX6_varintBytes_11 rfl (lv_at hl 0 rfl) ?_
                  refine lv_iconst (v := 5) hx hb dX6_varintBytes_12 (by decide) ?_
                  refine lv_icmp_ge (tgt := 31) hx hb dX6_varintBytes_13 (by decide) (fun c_13_4 => ?_) (fun c_13_4 => ?_)
                  · refine lv_iload_n hx hb dX6_varintBytes_31 rfl (lv_at hl 0 rfl) ?_
                    exact kr_i C G ⟨by rw [vbs, vb_len5 (fun h => c_22 ((ush_z (vzN_lt x) 7 (by decide)).mpr h)) (fun h => c_22_1 ((ush_z (vzN_lt x) 14 (by decide)).mpr h)) (fun h => c_22_2 ((ush_z (vzN_lt x) 21 (by decide)).mpr h)) (fun h => c_22_3 ((ush_z (vzN_lt x) 28 (by decide)).mpr h))]; rfl, rfl⟩ (Nat.le_refl _) (Nat.le_refl _) dX6_varintBytes_32
                  · exact absurd c_13_4 (by decide)
set_option maxRecDepth 100000 in
set_option maxHeartbeats 4000000 in
theorem c_X6_varint (Z : zT) (l : Launch) (h q L : Nat) (f : Nat → Int32) (bs : List Int8) (x : Int32) (hf : by_at f bs) (hk : bs.length + 5 ≤ L) (hL : L < 2 ^ 31) : Kv Z l yX6_varint cX6_varint 5 none ({ frames := 0, cells := 0, slots := 0, locals := 0 }) [.ref h, .int x] (skW Z h q L f (nI bs.length)) (fun u => ∃ f', by_at f' (bs ++ vbs x) ∧ u = skW Z h q L f' (nI (bs.length + (vbs x).length))) := by
  intro sz
  refine Met.ofK (cc := cX6_varint) (maxL := 5) (ret := none) (by decide) (Nat.le_of_ble_eq_true rfl) ?_
  intro p e s m below meth c ls C G hl
  generalize va_A _ sz = A at G ⊢
  have hx := C.1
  have hb := C.2.1
  have hown := C.2.2.2.2.2.1
  have hts := C.2.2.2.2.2.2.1
  have h0 := vzN_lt x
  have h1 : vzN x / 128 < 2 ^ 32 := by omega
  have h2 : vzN x / 128 / 128 < 2 ^ 32 := by omega
  have h3 : vzN x / 128 / 128 / 128 < 2 ^ 32 := by omega
  have h4 : vzN x / 128 / 128 / 128 / 128 < 2 ^ 32 := by omega
  have h5 : vzN x / 128 / 128 / 128 / 128 / 128 < 2 ^ 32 := by omega
  refine lv_iload_n hx hb dX6_varint_0 rfl (lv_at hl 1 rfl) ?_
  refine lv_iconst (v := 1) hx hb dX6_varint_1 (by decide) ?_
  refine lv_ishl hx hb dX6_varint_2 ?_
  refine lv_iload_n hx hb dX6_varint_3 rfl (lv_at hl 1 rfl) ?_
  refine lv_bipush (v := 31) hx hb dX6_varint_4 (by decide) ?_
  refine lv_ishr hx hb dX6_varint_6 ?_
  refine lv_ixor hx hb dX6_varint_7 ?_
  refine k_topi (y := nI (vzN x)) (by exact vzI_nI x) ?_
  refine lv_istore_n (lv' := [(2, .int (nI (vzN x))), (0, .ref h), (1, .int x)]) hx hb dX6_varint_8 rfl hl (by decide) rfl (fun ls hl => ?_)
  refine lv_iconst (v := 0) hx hb dX6_varint_9 (by decide) ?_
  refine lv_istore_n (lv' := [(3, .int 0), (2, .int (nI (vzN x))), (0, .ref h), (1, .int x)]) hx hb dX6_varint_10 rfl hl (by decide) rfl (fun ls hl => ?_)
  refine lv_iconst (v := 0) hx hb dX6_varint_11 (by decide) ?_
  refine lv_istore (lv' := [(4, .int 0), (3, .int 0), (2, .int (nI (vzN x))), (0, .ref h), (1, .int x)]) hx hb dX6_varint_12 hl (by decide) rfl (fun ls hl => ?_)
  refine lv_iload hx hb dX6_varint_14 (lv_at hl 0 rfl) ?_
  refine lv_iconst (v := 5) hx hb dX6_varint_16 (by decide) ?_
  refine lv_icmp_ge (tgt := 96) hx hb dX6_varint_17 (by decide) (fun c_17 => ?_) (fun c_17 => ?_)
  · exact absurd c_17 (by decide)
  · refine lv_iload_n hx hb dX6_varint_20 rfl (lv_at hl 1 rfl) ?_
    refine lv_if_ne (tgt := 96) hx hb dX6_varint_21 (by decide) (fun c_21 => ?_) (fun c_21 => ?_)
    · exact absurd c_21 (by decide)
    · refine lv_aload_n hx hb dX6_varint_24 rfl (lv_at hl 3 rfl) ?_
      refine k_get (ci := 7) (CC := RX6) (T := TX6) (N := 2) (v := .int (nI bs.length)) C G 0 rfl rfl in_7 1 (by decide) fl_X6_13 rfl rfl dX6_varint_25 ?_
      refine lv_aload_n hx hb dX6_varint_28 rfl (lv_at hl 3 rfl) ?_
      refine k_get (ci := 7) (CC := RX6) (T := TX6) (N := 2) (v := .ref q) C G 0 rfl rfl in_7 0 (by decide) fl_X6_7 rfl rfl dX6_varint_29 ?_
      refine k_alen (ty := .byte) C G 1 0 rfl rfl dX6_varint_32 ?_
      refine lv_icmp_ge (tgt := 96) hx hb dX6_varint_33 (by decide) (fun c_33 => ?_) (fun c_33 => ?_)
      · exact absurd c_33 (nI_ge (by omega) hL)
      · refine lv_iload_n hx hb dX6_varint_36 rfl (lv_at hl 2 rfl) ?_
        refine lv_bipush (v := 7) hx hb dX6_varint_37 (by decide) ?_
        refine lv_iushr (v := ush (nI (vzN x)) 7) hx hb dX6_varint_39 rfl ?_
        refine lv_if_ne (tgt := 47) hx hb dX6_varint_40 (by decide) (fun c_40 => ?_) (fun c_40 => ?_)
        · refine lv_iconst (v := 0) hx hb dX6_varint_47 (by decide) ?_
          refine lv_istore_n (lv' := [(3, .int 0), (4, .int 0), (2, .int (nI (vzN x))), (0, .ref h), (1, .int x)]) hx hb dX6_varint_48 rfl hl (by decide) rfl (fun ls hl => ?_)
          refine lv_aload_n hx hb dX6_varint_49 rfl (lv_at hl 3 rfl) ?_
          refine k_get (ci := 7) (CC := RX6) (T := TX6) (N := 2) (v := .ref q) C G 0 rfl rfl in_7 0 (by decide) fl_X6_7 rfl rfl dX6_varint_50 ?_
          refine lv_aload_n hx hb dX6_varint_53 rfl (lv_at hl 3 rfl) ?_
          refine k_get (ci := 7) (CC := RX6) (T := TX6) (N := 2) (v := .int (nI bs.length)) C G 0 rfl rfl in_7 1 (by decide) fl_X6_13 rfl rfl dX6_varint_54 ?_
          refine lv_iload_n hx hb dX6_varint_57 rfl (lv_at hl 0 rfl) ?_
          refine lv_if_eq (tgt := 65) hx hb dX6_varint_58 (by decide) (fun c_58 => ?_) (fun c_58 => ?_)
          · refine lv_iload_n hx hb dX6_varint_65 rfl (lv_at hl 2 rfl) ?_
            refine lv_bipush (v := 127) hx hb dX6_varint_66 (by decide) ?_
            refine lv_iand hx hb dX6_varint_68 ?_
            refine lv_sipush (v := 128) hx hb dX6_varint_69 (by decide) ?_
            refine lv_ior hx hb dX6_varint_72 ?_
            refine lv_i2b (v := (((nI (vzN x)) &&& 127) ||| 128).toInt8.toInt32) hx hb dX6_varint_73 rfl ?_
            have h_74 : vp_in (nI bs.length) L := by exact vp_in_nI (by omega) hL
            refine k_bast C G 1 rfl h_74 (pk_vb _) dX6_varint_74 (fun H locs (G : wd Z A s ([(h, .inr (7, [.ref q, .int (nI bs.length)])), (q, aB Z L (upd f (nI bs.length).toNatClampNeg ((((nI (vzN x)) &&& 127) ||| 128).toInt8.toInt32)))]) H locs) => ?_)
            refine lv_aload_n hx hb dX6_varint_75 rfl (lv_at hl 3 rfl) ?_
            refine lv_dup hx hb dX6_varint_76 rfl ?_
            refine k_get (ci := 7) (CC := RX6) (T := TX6) (N := 2) (v := .int (nI bs.length)) C G 0 rfl rfl in_7 1 (by decide) fl_X6_13 rfl rfl dX6_varint_77 ?_
            refine lv_iconst (v := 1) hx hb dX6_varint_80 (by decide) ?_
            refine lv_iadd hx hb dX6_varint_81 ?_
            refine k_topi (y := nI (bs.length + 1)) (by exact nI_1 _) ?_
            refine k_put (ci := 7) (CC := RX6) (T := TX6) (N := 2) (ty := .int) (v := .int (nI (bs.length + 1))) C G 0 rfl rfl in_7 tyX6 tyX6_ok nmX6 1 (by decide) fl_X6_13 rfl rfl rfl rfl rfl (Nat.le_of_ble_eq_true rfl) dX6_varint_82 (fun H locs (G : wd Z A s ([(h, .inr (7, [.ref q, .int (nI (bs.length + 1))])), (q, aB Z L (upd f (nI bs.length).toNatClampNeg ((((nI (vzN x)) &&& 127) ||| 128).toInt8.toInt32)))]) H locs) => ?_)
            obtain ⟨f1, ef1⟩ : ∃ g, g = upd f (nI bs.length).toNatClampNeg ((((nI (vzN x)) &&& 127) ||| 128).toInt8.toInt32) := ⟨_, rfl⟩
            rw [← ef1] at G
            have hf1 := by_pushN (n := bs.length) hf (by simp) (nI (vzN x) &&& 127 ||| 128).toInt8
            rw [show upd f (bs.length) (nI (vzN x) &&& 127 ||| 128).toInt8.toInt32 = f1 by rw [ef1, nI_clamp (by omega)]] at hf1
            refine lv_iload_n hx hb dX6_varint_85 rfl (lv_at hl 2 rfl) ?_
            refine lv_bipush (v := 7) hx hb dX6_varint_86 (by decide) ?_
            refine lv_iushr (v := ush (nI (vzN x)) 7) hx hb dX6_varint_88 rfl ?_
            refine k_topi (y := nI (vzN x / 128)) (by exact ush_nI h0 7 (by decide)) ?_
            refine lv_istore_n (lv' := [(2, .int (nI (vzN x / 128))), (3, .int 0), (4, .int 0), (0, .ref h), (1, .int x)]) hx hb dX6_varint_89 rfl hl (by decide) rfl (fun ls hl => ?_)
            refine lv_iinc (v := 1) (lv' := [(4, .int 1), (2, .int (nI (vzN x / 128))), (3, .int 0), (0, .ref h), (1, .int x)]) hx hb dX6_varint_90 hl (k := 2) rfl (by decide) (by decide) rfl (fun ls hl => ?_)
            refine lv_goto (tgt := 14) hx hb dX6_varint_93 (by decide) ?_
            refine lv_iload hx hb dX6_varint_14 (lv_at hl 0 rfl) ?_
            refine lv_iconst (v := 5) hx hb dX6_varint_16 (by decide) ?_
            refine lv_icmp_ge (tgt := 96) hx hb dX6_varint_17 (by decide) (fun c_17_1 => ?_) (fun c_17_1 => ?_)
            · exact absurd c_17_1 (by decide)
            · refine lv_iload_n hx hb dX6_varint_20 rfl (lv_at hl 2 rfl) ?_
              refine lv_if_ne (tgt := 96) hx hb dX6_varint_21 (by decide) (fun c_21_1 => ?_) (fun c_21_1 => ?_)
              · exact absurd c_21_1 (by decide)
              · refine lv_aload_n hx hb dX6_varint_24 rfl (lv_at hl 3 rfl) ?_
                refine k_get (ci := 7) (CC := RX6) (T := TX6) (N := 2) (v := .int (nI (bs.length + 1))) C G 0 rfl rfl in_7 1 (by decide) fl_X6_13 rfl rfl dX6_varint_25 ?_
                refine lv_aload_n hx hb dX6_varint_28 rfl (lv_at hl 3 rfl) ?_
                refine k_get (ci := 7) (CC := RX6) (T := TX6) (N := 2) (v := .ref q) C G 0 rfl rfl in_7 0 (by decide) fl_X6_7 rfl rfl dX6_varint_29 ?_
                refine k_alen (ty := .byte) C G 1 0 rfl rfl dX6_varint_32 ?_
                refine lv_icmp_ge (tgt := 96) hx hb dX6_varint_33 (by decide) (fun c_33_1 => ?_) (fun c_33_1 => ?_)
                · exact absurd c_33_1 (nI_ge (by omega) hL)
                · refine lv_iload_n hx hb dX6_varint_36 rfl (lv_at hl 1 rfl) ?_
                  refine lv_bipush (v := 7) hx hb dX6_varint_37 (by decide) ?_
                  refine lv_iushr (v := ush (nI (vzN x / 128)) 7) hx hb dX6_varint_39 rfl ?_
                  refine lv_if_ne (tgt := 47) hx hb dX6_varint_40 (by decide) (fun c_40_1 => ?_) (fun c_40_1 => ?_)
                  · refine lv_iconst (v := 0) hx hb dX6_varint_47 (by decide) ?_
                    refine lv_istore_n (lv' := [(3, .int 0), (4, .int 1), (2, .int (nI (vzN x / 128))), (0, .ref h), (1, .int x)]) hx hb dX6_varint_48 rfl hl (by decide) rfl (fun ls hl => ?_)
                    refine lv_aload_n hx hb dX6_varint_49 rfl (lv_at hl 3 rfl) ?_
                    refine k_get (ci := 7) (CC := RX6) (T := TX6) (N := 2) (v := .ref q) C G 0 rfl rfl in_7 0 (by decide) fl_X6_7 rfl rfl dX6_varint_50 ?_
                    refine lv_aload_n hx hb dX6_varint_53 rfl (lv_at hl 3 rfl) ?_
                    refine k_get (ci := 7) (CC := RX6) (T := TX6) (N := 2) (v := .int (nI (bs.length + 1))) C G 0 rfl rfl in_7 1 (by decide) fl_X6_13 rfl rfl dX6_varint_54 ?_
                    refine lv_iload_n hx hb dX6_varint_57 rfl (lv_at hl 0 rfl) ?_
                    refine lv_if_eq (tgt := 65) hx hb dX6_varint_58 (by decide) (fun c_58_1 => ?_) (fun c_58_1 => ?_)
                    · refine lv_iload_n hx hb dX6_varint_65 rfl (lv_at hl 2 rfl) ?_
                      refine lv_bipush (v := 127) hx hb dX6_varint_66 (by decide) ?_
                      refine lv_iand hx hb dX6_varint_68 ?_
                      refine lv_sipush (v := 128) hx hb dX6_varint_69 (by decide) ?_
                      refine lv_ior hx hb dX6_varint_72 ?_
                      refine lv_i2b (v := (((nI (vzN x / 128)) &&& 127) ||| 128).toInt8.toInt32) hx hb dX6_varint_73 rfl ?_
                      have h_74 : vp_in (nI (bs.length + 1)) L := by exact vp_in_nI (by omega) hL
                      refine k_bast C G 1 rfl h_74 (pk_vb _) dX6_varint_74 (fun H locs (G : wd Z A s ([(h, .inr (7, [.ref q, .int (nI (bs.length + 1))])), (q, aB Z L (upd f1 (nI (bs.length + 1)).toNatClampNeg ((((nI (vzN x / 128)) &&& 127) ||| 128).toInt8.toInt32)))]) H locs) => ?_)
                      refine lv_aload_n hx hb dX6_varint_75 rfl (lv_at hl 3 rfl) ?_
                      refine lv_dup hx hb dX6_varint_76 rfl ?_
                      refine k_get (ci := 7) (CC := RX6) (T := TX6) (N := 2) (v := .int (nI (bs.length + 1))) C G 0 rfl rfl in_7 1 (by decide) fl_X6_13 rfl rfl dX6_varint_77 ?_
                      refine lv_iconst (v := 1) hx hb dX6_varint_80 (by decide) ?_
                      refine lv_iadd hx hb dX6_varint_81 ?_
                      refine k_topi (y := nI (bs.length + 2)) (by exact nI_1 _) ?_
                      refine k_put (ci := 7) (CC := RX6) (T := TX6) (N := 2) (ty := .int) (v := .int (nI (bs.length + 2))) C G 0 rfl rfl in_7 tyX6 tyX6_ok nmX6 1 (by decide) fl_X6_13 rfl rfl rfl rfl rfl (Nat.le_of_ble_eq_true rfl) dX6_varint_82 (fun H locs (G : wd Z A s ([(h, .inr (7, [.ref q, .int (nI (bs.length + 2))])), (q, aB Z L (upd f1 (nI (bs.length + 1)).toNatClampNeg ((((nI (vzN x / 128)) &&& 127) ||| 128).toInt8.toInt32)))]) H locs) => ?_)
                      obtain ⟨f2, ef2⟩ : ∃ g, g = upd f1 (nI (bs.length + 1)).toNatClampNeg ((((nI (vzN x / 128)) &&& 127) ||| 128).toInt8.toInt32) := ⟨_, rfl⟩
                      rw [← ef2] at G
                      have hf2 := by_pushN (n := bs.length + 1) hf1 (by simp) (nI (vzN x / 128) &&& 127 ||| 128).toInt8
                      rw [show upd f1 (bs.length + 1) (nI (vzN x / 128) &&& 127 ||| 128).toInt8.toInt32 = f2 by rw [ef2, nI_clamp (by omega)]] at hf2
                      refine lv_iload_n hx hb dX6_varint_85 rfl (lv_at hl 2 rfl) ?_
                      refine lv_bipush (v := 7) hx hb dX6_varint_86 (by decide) ?_
                      refine lv_iushr (v := ush (nI (vzN x / 128)) 7) hx hb dX6_varint_88 rfl ?_
                      refine k_topi (y := nI (vzN x / 128 / 128)) (by exact ush_nI h1 7 (by decide)) ?_
                      refine lv_istore_n (lv' := [(2, .int (nI (vzN x / 128 / 128))), (3, .int 0), (4, .int 1), (0, .ref h), (1, .int x)]) hx hb dX6_varint_89 rfl hl (by decide) rfl (fun ls hl => ?_)
                      refine lv_iinc (v := 2) (lv' := [(4, .int 2), (2, .int (nI (vzN x / 128 / 128))), (3, .int 0), (0, .ref h), (1, .int x)]) hx hb dX6_varint_90 hl (k := 2) rfl (by decide) (by decide) rfl (fun ls hl => ?_)
                      refine lv_goto (tgt := 14) hx hb dX6_varint_93 (by decide) ?_
                      refine lv_iload hx hb dX6_varint_14 (lv_at hl 0 rfl) ?_
                      refine lv_iconst (v := 5) hx hb dX6_varint_16 (by decide) ?_
                      refine lv_icmp_ge (tgt := 96) hx hb dX6_varint_17 (by decide) (fun c_17_2 => ?_) (fun c_17_2 => ?_)
                      · exact absurd c_17_2 (by decide)
                      · refine lv_iload_n hx hb dX6_varint_20 rfl (lv_at hl 2 rfl) ?_
                        refine lv_if_ne (tgt := 96) hx hb dX6_varint_21 (by decide) (fun c_21_2 => ?_) (fun c_21_2 => ?_)
                        · exact absurd c_21_2 (by decide)
                        · refine lv_aload_n hx hb dX6_varint_24 rfl (lv_at hl 3 rfl) ?_
                          refine k_get (ci := 7) (CC := RX6) (T := TX6) (N := 2) (v := .int (nI (bs.length + 2))) C G 0 rfl rfl in_7 1 (by decide) fl_X6_13 rfl rfl dX6_varint_25 ?_
                          refine lv_aload_n hx hb dX6_varint_28 rfl (lv_at hl 3 rfl) ?_
                          refine k_get (ci := 7) (CC := RX6) (T := TX6) (N := 2) (v := .ref q) C G 0 rfl rfl in_7 0 (by decide) fl_X6_7 rfl rfl dX6_varint_29 ?_
                          refine k_alen (ty := .byte) C G 1 0 rfl rfl dX6_varint_32 ?_
                          refine lv_icmp_ge (tgt := 96) hx hb dX6_varint_33 (by decide) (fun c_33_2 => ?_) (fun c_33_2 => ?_)
                          · exact absurd c_33_2 (nI_ge (by omega) hL)
                          · refine lv_iload_n hx hb dX6_varint_36 rfl (lv_at hl 1 rfl) ?_
                            refine lv_bipush (v := 7) hx hb dX6_varint_37 (by decide) ?_
                            refine lv_iushr (v := ush (nI (vzN x / 128 / 128)) 7) hx hb dX6_varint_39 rfl ?_
                            refine lv_if_ne (tgt := 47) hx hb dX6_varint_40 (by decide) (fun c_40_2 => ?_) (fun c_40_2 => ?_)
                            · refine lv_iconst (v := 0) hx hb dX6_varint_47 (by decide) ?_
                              refine lv_istore_n (lv' := [(3, .int 0), (4, .int 2), (2, .int (nI (vzN x / 128 / 128))), (0, .ref h), (1, .int x)]) hx hb dX6_varint_48 rfl hl (by decide) rfl (fun ls hl => ?_)
                              refine lv_aload_n hx hb dX6_varint_49 rfl (lv_at hl 3 rfl) ?_
                              refine k_get (ci := 7) (CC := RX6) (T := TX6) (N := 2) (v := .ref q) C G 0 rfl rfl in_7 0 (by decide) fl_X6_7 rfl rfl dX6_varint_50 ?_
                              refine lv_aload_n hx hb dX6_varint_53 rfl (lv_at hl 3 rfl) ?_
                              refine k_get (ci := 7) (CC := RX6) (T := TX6) (N := 2) (v := .int (nI (bs.length + 2))) C G 0 rfl rfl in_7 1 (by decide) fl_X6_13 rfl rfl dX6_varint_54 ?_
                              refine lv_iload_n hx hb dX6_varint_57 rfl (lv_at hl 0 rfl) ?_
                              refine lv_if_eq (tgt := 65) hx hb dX6_varint_58 (by decide) (fun c_58_2 => ?_) (fun c_58_2 => ?_)
                              · refine lv_iload_n hx hb dX6_varint_65 rfl (lv_at hl 2 rfl) ?_
                                refine lv_bipush (v := 127) hx hb dX6_varint_66 (by decide) ?_
                                refine lv_iand hx hb dX6_varint_68 ?_
                                refine lv_sipush (v := 128) hx hb dX6_varint_69 (by decide) ?_
                                refine lv_ior hx hb dX6_varint_72 ?_
                                refine lv_i2b (v := (((nI (vzN x / 128 / 128)) &&& 127) ||| 128).toInt8.toInt32) hx hb dX6_varint_73 rfl ?_
                                have h_74 : vp_in (nI (bs.length + 2)) L := by exact vp_in_nI (by omega) hL
                                refine k_bast C G 1 rfl h_74 (pk_vb _) dX6_varint_74 (fun H locs (G : wd Z A s ([(h, .inr (7, [.ref q, .int (nI (bs.length + 2))])), (q, aB Z L (upd f2 (nI (bs.length + 2)).toNatClampNeg ((((nI (vzN x / 128 / 128)) &&& 127) ||| 128).toInt8.toInt32)))]) H locs) => ?_)
                                refine lv_aload_n hx hb dX6_varint_75 rfl (lv_at hl 3 rfl) ?_
                                refine lv_dup hx hb dX6_varint_76 rfl ?_
                                refine k_get (ci := 7) (CC := RX6) (T := TX6) (N := 2) (v := .int (nI (bs.length + 2))) C G 0 rfl rfl in_7 1 (by decide) fl_X6_13 rfl rfl dX6_varint_77 ?_
                                refine lv_iconst (v := 1) hx hb dX6_varint_80 (by decide) ?_
                                refine lv_iadd hx hb dX6_varint_81 ?_
                                refine k_topi (y := nI (bs.length + 3)) (by exact nI_1 _) ?_
                                refine k_put (ci := 7) (CC := RX6) (T := TX6) (N := 2) (ty := .int) (v := .int (nI (bs.length + 3))) C G 0 rfl rfl in_7 tyX6 tyX6_ok nmX6 1 (by decide) fl_X6_13 rfl rfl rfl rfl rfl (Nat.le_of_ble_eq_true rfl) dX6_varint_82 (fun H locs (G : wd Z A s ([(h, .inr (7, [.ref q, .int (nI (bs.length + 3))])), (q, aB Z L (upd f2 (nI (bs.length + 2)).toNatClampNeg ((((nI (vzN x / 128 / 128)) &&& 127) ||| 128).toInt8.toInt32)))]) H locs) => ?_)
                                obtain ⟨f3, ef3⟩ : ∃ g, g = upd f2 (nI (bs.length + 2)).toNatClampNeg ((((nI (vzN x / 128 / 128)) &&& 127) ||| 128).toInt8.toInt32) := ⟨_, rfl⟩
                                rw [← ef3] at G
                                have hf3 := by_pushN (n := bs.length + 2) hf2 (by simp) (nI (vzN x / 128 / 128) &&& 127 ||| 128).toInt8
                                rw [show upd f2 (bs.length + 2) (nI (vzN x / 128 / 128) &&& 127 ||| 128).toInt8.toInt32 = f3 by rw [ef3, nI_clamp (by omega)]] at hf3
                                refine lv_iload_n hx hb dX6_varint_85 rfl (lv_at hl 2 rfl) ?_
                                refine lv_bipush (v := 7) hx hb dX6_varint_86 (by decide) ?_
                                refine lv_iushr (v := ush (nI (vzN x / 128 / 128)) 7) hx hb dX6_varint_88 rfl ?_
                                refine k_topi (y := nI (vzN x / 128 / 128 / 128)) (by exact ush_nI h2 7 (by decide)) ?_
                                refine lv_istore_n (lv' := [(2, .int (nI (vzN x / 128 / 128 / 128))), (3, .int 0), (4, .int 2), (0, .ref h), (1, .int x)]) hx hb dX6_varint_89 rfl hl (by decide) rfl (fun ls hl => ?_)
                                refine lv_iinc (v := 3) (lv' := [(4, .int 3), (2, .int (nI (vzN x / 128 / 128 / 128))), (3, .int 0), (0, .ref h), (1, .int x)]) hx hb dX6_varint_90 hl (k := 2) rfl (by decide) (by decide) rfl (fun ls hl => ?_)
                                refine lv_goto (tgt := 14) hx hb dX6_varint_93 (by decide) ?_
                                refine lv_iload hx hb dX6_varint_14 (lv_at hl 0 rfl) ?_
                                refine lv_iconst (v := 5) hx hb dX6_varint_16 (by decide) ?_
                                refine lv_icmp_ge (tgt := 96) hx hb dX6_varint_17 (by decide) (fun c_17_3 => ?_) (fun c_17_3 => ?_)
                                · exact absurd c_17_3 (by decide)
                                · refine lv_iload_n hx hb dX6_varint_20 rfl (lv_at hl 2 rfl) ?_
                                  refine lv_if_ne (tgt := 96) hx hb dX6_varint_21 (by decide) (fun c_21_3 => ?_) (fun c_21_3 => ?_)
                                  · exact absurd c_21_3 (by decide)
                                  · refine lv_aload_n hx hb dX6_varint_24 rfl (lv_at hl 3 rfl) ?_
                                    refine k_get (ci := 7) (CC := RX6) (T := TX6) (N := 2) (v := .int (nI (bs.length + 3))) C G 0 rfl rfl in_7 1 (by decide) fl_X6_13 rfl rfl dX6_varint_25 ?_
                                    refine lv_aload_n hx hb dX6_varint_28 rfl (lv_at hl 3 rfl) ?_
                                    refine k_get (ci := 7) (CC := RX6) (T := TX6) (N := 2) (v := .ref q) C G 0 rfl rfl in_7 0 (by decide) fl_X6_7 rfl rfl dX6_varint_29 ?_
                                    refine k_alen (ty := .byte) C G 1 0 rfl rfl dX6_varint_32 ?_
                                    refine lv_icmp_ge (tgt := 96) hx hb dX6_varint_33 (by decide) (fun c_33_3 => ?_) (fun c_33_3 => ?_)
                                    · exact absurd c_33_3 (nI_ge (by omega) hL)
                                    · refine lv_iload_n hx hb dX6_varint_36 rfl (lv_at hl 1 rfl) ?_
                                      refine lv_bipush (v := 7) hx hb dX6_varint_37 (by decide) ?_
                                      refine lv_iushr (v := ush (nI (vzN x / 128 / 128 / 128)) 7) hx hb dX6_varint_39 rfl ?_
                                      refine lv_if_ne (tgt := 47) hx hb dX6_varint_40 (by decide) (fun c_40_3 => ?_) (fun c_40_3 => ?_)
                                      · refine lv_iconst (v := 0) hx hb dX6_varint_47 (by decide) ?_
                                        refine lv_istore_n (lv' := [(3, .int 0), (4, .int 3), (2, .int (nI (vzN x / 128 / 128 / 128))), (0, .ref h), (1, .int x)]) hx hb dX6_varint_48 rfl hl (by decide) rfl (fun ls hl => ?_)
                                        refine lv_aload_n hx hb dX6_varint_49 rfl (lv_at hl 3 rfl) ?_
                                        refine k_get (ci := 7) (CC := RX6) (T := TX6) (N := 2) (v := .ref q) C G 0 rfl rfl in_7 0 (by decide) fl_X6_7 rfl rfl dX6_varint_50 ?_
                                        refine lv_aload_n hx hb dX6_varint_53 rfl (lv_at hl 3 rfl) ?_
                                        refine k_get (ci := 7) (CC := RX6) (T := TX6) (N := 2) (v := .int (nI (bs.length + 3))) C G 0 rfl rfl in_7 1 (by decide) fl_X6_13 rfl rfl dX6_varint_54 ?_
                                        refine lv_iload_n hx hb dX6_varint_57 rfl (lv_at hl 0 rfl) ?_
                                        refine lv_if_eq (tgt := 65) hx hb dX6_varint_58 (by decide) (fun c_58_3 => ?_) (fun c_58_3 => ?_)
                                        · refine lv_iload_n hx hb dX6_varint_65 rfl (lv_at hl 2 rfl) ?_
                                          refine lv_bipush (v := 127) hx hb dX6_varint_66 (by decide) ?_
                                          refine lv_iand hx hb dX6_varint_68 ?_
                                          refine lv_sipush (v := 128) hx hb dX6_varint_69 (by decide) ?_
                                          refine lv_ior hx hb dX6_varint_72 ?_
                                          refine lv_i2b (v := (((nI (vzN x / 128 / 128 / 128)) &&& 127) ||| 128).toInt8.toInt32) hx hb dX6_varint_73 rfl ?_
                                          have h_74 : vp_in (nI (bs.length + 3)) L := by exact vp_in_nI (by omega) hL
                                          refine k_bast C G 1 rfl h_74 (pk_vb _) dX6_varint_74 (fun H locs (G : wd Z A s ([(h, .inr (7, [.ref q, .int (nI (bs.length + 3))])), (q, aB Z L (upd f3 (nI (bs.length + 3)).toNatClampNeg ((((nI (vzN x / 128 / 128 / 128)) &&& 127) ||| 128).toInt8.toInt32)))]) H locs) => ?_)
                                          refine lv_aload_n hx hb dX6_varint_75 rfl (lv_at hl 3 rfl) ?_
                                          refine lv_dup hx hb dX6_varint_76 rfl ?_
                                          refine k_get (ci := 7) (CC := RX6) (T := TX6) (N := 2) (v := .int (nI (bs.length + 3))) C G 0 rfl rfl in_7 1 (by decide) fl_X6_13 rfl rfl dX6_varint_77 ?_
                                          refine lv_iconst (v := 1) hx hb dX6_varint_80 (by decide) ?_
                                          refine lv_iadd hx hb dX6_varint_81 ?_
                                          refine k_topi (y := nI (bs.length + 4)) (by exact nI_1 _) ?_
                                          refine k_put (ci := 7) (CC := RX6) (T := TX6) (N := 2) (ty := .int) (v := .int (nI (bs.length + 4))) C G 0 rfl rfl in_7 tyX6 tyX6_ok nmX6 1 (by decide) fl_X6_13 rfl rfl rfl rfl rfl (Nat.le_of_ble_eq_true rfl) dX6_varint_82 (fun H locs (G : wd Z A s ([(h, .inr (7, [.ref q, .int (nI (bs.length + 4))])), (q, aB Z L (upd f3 (nI (bs.length + 3)).toNatClampNeg ((((nI (vzN x / 128 / 128 / 128)) &&& 127) ||| 128).toInt8.toInt32)))]) H locs) => ?_)
                                          obtain ⟨f4, ef4⟩ : ∃ g, g = upd f3 (nI (bs.length + 3)).toNatClampNeg ((((nI (vzN x / 128 / 128 / 128)) &&& 127) ||| 128).toInt8.toInt32) := ⟨_, rfl⟩
                                          rw [← ef4] at G
                                          have hf4 := by_pushN (n := bs.length + 3) hf3 (by simp) (nI (vzN x / 128 / 128 / 128) &&& 127 ||| 128).toInt8
                                          rw [show upd f3 (bs.length + 3) (nI (vzN x / 128 / 128 / 128) &&& 127 ||| 128).toInt8.toInt32 = f4 by rw [ef4, nI_clamp (by omega)]] at hf4
                                          refine lv_iload_n hx hb dX6_varint_85 rfl (lv_at hl 2 rfl) ?_
                                          refine lv_bipush (v := 7) hx hb dX6_varint_86 (by decide) ?_
                                          refine lv_iushr (v := ush (nI (vzN x / 128 / 128 / 128)) 7) hx hb dX6_varint_88 rfl ?_
                                          refine k_topi (y := nI (vzN x / 128 / 128 / 128 / 128)) (by exact ush_nI h3 7 (by decide)) ?_
                                          refine lv_istore_n (lv' := [(2, .int (nI (vzN x / 128 / 128 / 128 / 128))), (3, .int 0), (4, .int 3), (0, .ref h), (1, .int x)]) hx hb dX6_varint_89 rfl hl (by decide) rfl (fun ls hl => ?_)
                                          refine lv_iinc (v := 4) (lv' := [(4, .int 4), (2, .int (nI (vzN x / 128 / 128 / 128 / 128))), (3, .int 0), (0, .ref h), (1, .int x)]) hx hb dX6_varint_90 hl (k := 2) rfl (by decide) (by decide) rfl (fun ls hl => ?_)
                                          refine lv_goto (tgt := 14) hx hb dX6_varint_93 (by decide) ?_
                                          refine lv_iload hx hb dX6_varint_14 (lv_at hl 0 rfl) ?_
                                          refine lv_iconst (v := 5) hx hb dX6_varint_16 (by decide) ?_
                                          refine lv_icmp_ge (tgt := 96) hx hb dX6_varint_17 (by decide) (fun c_17_4 => ?_) (fun c_17_4 => ?_)
                                          · exact absurd c_17_4 (by decide)
                                          · refine lv_iload_n hx hb dX6_varint_20 rfl (lv_at hl 2 rfl) ?_
                                            refine lv_if_ne (tgt := 96) hx hb dX6_varint_21 (by decide) (fun c_21_4 => ?_) (fun c_21_4 => ?_)
                                            · exact absurd c_21_4 (by decide)
                                            · refine lv_aload_n hx hb dX6_varint_24 rfl (lv_at hl 3 rfl) ?_
                                              refine k_get (ci := 7) (CC := RX6) (T := TX6) (N := 2) (v := .int (nI (bs.length + 4))) C G 0 rfl rfl in_7 1 (by decide) fl_X6_13 rfl rfl dX6_varint_25 ?_
                                              refine lv_aload_n hx hb dX6_varint_28 rfl (lv_at hl 3 rfl) ?_
                                              refine k_get (ci := 7) (CC := RX6) (T := TX6) (N := 2) (v := .ref q) C G 0 rfl rfl in_7 0 (by decide) fl_X6_7 rfl rfl dX6_varint_29 ?_
                                              refine k_alen (ty := .byte) C G 1 0 rfl rfl dX6_varint_32 ?_
                                              refine lv_icmp_ge (tgt := 96) hx hb dX6_varint_33 (by decide) (fun c_33_4 => ?_) (fun c_33_4 => ?_)
                                              · exact absurd c_33_4 (nI_ge (by omega) hL)
                                              · refine lv_iload_n hx hb dX6_varint_36 rfl (lv_at hl 1 rfl) ?_
                                                refine lv_bipush (v := 7) hx hb dX6_varint_37 (by decide) ?_
                                                refine lv_iushr (v := ush (nI (vzN x / 128 / 128 / 128 / 128)) 7) hx hb dX6_varint_39 rfl ?_
                                                refine lv_if_ne (tgt := 47) hx hb dX6_varint_40 (by decide) (fun c_40_4 => ?_) (fun c_40_4 => ?_)
                                                · exact absurd ((ush_z h4 7 (by decide)).mpr (by omega)) c_40_4
                                                · refine lv_iconst (v := 1) hx hb dX6_varint_43 (by decide) ?_
                                                  refine lv_goto (tgt := 48) hx hb dX6_varint_44 (by decide) ?_
                                                  refine lv_istore_n (lv' := [(3, .int 1), (4, .int 4), (2, .int (nI (vzN x / 128 / 128 / 128 / 128))), (0, .ref h), (1, .int x)]) hx hb dX6_varint_48 rfl hl (by decide) rfl (fun ls hl => ?_)
                                                  refine lv_aload_n hx hb dX6_varint_49 rfl (lv_at hl 3 rfl) ?_
                                                  refine k_get (ci := 7) (CC := RX6) (T := TX6) (N := 2) (v := .ref q) C G 0 rfl rfl in_7 0 (by decide) fl_X6_7 rfl rfl dX6_varint_50 ?_
                                                  refine lv_aload_n hx hb dX6_varint_53 rfl (lv_at hl 3 rfl) ?_
                                                  refine k_get (ci := 7) (CC := RX6) (T := TX6) (N := 2) (v := .int (nI (bs.length + 4))) C G 0 rfl rfl in_7 1 (by decide) fl_X6_13 rfl rfl dX6_varint_54 ?_
                                                  refine lv_iload_n hx hb dX6_varint_57 rfl (lv_at hl 0 rfl) ?_
                                                  refine lv_if_eq (tgt := 65) hx hb dX6_varint_58 (by decide) (fun c_58_4 => ?_) (fun c_58_4 => ?_)
                                                  · exact absurd c_58_4 (by decide)
                                                  · refine lv_iload_n hx hb dX6_varint_61 rfl (lv_at hl 2 rfl) ?_
                                                    refine lv_goto (tgt := 73) hx hb dX6_varint_62 (by decide) ?_
                                                    refine lv_i2b (v := (nI (vzN x / 128 / 128 / 128 / 128)).toInt8.toInt32) hx hb dX6_varint_73 rfl ?_
                                                    have h_74 : vp_in (nI (bs.length + 4)) L := by exact vp_in_nI (by omega) hL
                                                    refine k_bast C G 1 rfl h_74 (pk_vb _) dX6_varint_74 (fun H locs (G : wd Z A s ([(h, .inr (7, [.ref q, .int (nI (bs.length + 4))])), (q, aB Z L (upd f4 (nI (bs.length + 4)).toNatClampNeg ((nI (vzN x / 128 / 128 / 128 / 128)).toInt8.toInt32)))]) H locs) => ?_)
                                                    refine lv_aload_n hx hb dX6_varint_75 rfl (lv_at hl 3 rfl) ?_
                                                    refine lv_dup hx hb dX6_varint_76 rfl ?_
                                                    refine k_get (ci := 7) (CC := RX6) (T := TX6) (N := 2) (v := .int (nI (bs.length + 4))) C G 0 rfl rfl in_7 1 (by decide) fl_X6_13 rfl rfl dX6_varint_77 ?_
                                                    refine lv_iconst (v := 1) hx hb dX6_varint_80 (by decide) ?_
                                                    refine lv_iadd hx hb dX6_varint_81 ?_
                                                    refine k_topi (y := nI (bs.length + 5)) (by exact nI_1 _) ?_
                                                    refine k_put (ci := 7) (CC := RX6) (T := TX6) (N := 2) (ty := .int) (v := .int (nI (bs.length + 5))) C G 0 rfl rfl in_7 tyX6 tyX6_ok nmX6 1 (by decide) fl_X6_13 rfl rfl rfl rfl rfl (Nat.le_of_ble_eq_true rfl) dX6_varint_82 (fun H locs (G : wd Z A s ([(h, .inr (7, [.ref q, .int (nI (bs.length + 5))])), (q, aB Z L (upd f4 (nI (bs.length + 4)).toNatClampNeg ((nI (vzN x / 128 / 128 / 128 / 128)).toInt8.toInt32)))]) H locs) => ?_)
                                                    obtain ⟨f5, ef5⟩ : ∃ g, g = upd f4 (nI (bs.length + 4)).toNatClampNeg ((nI (vzN x / 128 / 128 / 128 / 128)).toInt8.toInt32) := ⟨_, rfl⟩
                                                    rw [← ef5] at G
                                                    have hf5 := by_pushN (n := bs.length + 4) hf4 (by simp) (nI (vzN x / 128 / 128 / 128 / 128)).toInt8
                                                    rw [show upd f4 (bs.length + 4) (nI (vzN x / 128 / 128 / 128 / 128)).toInt8.toInt32 = f5 by rw [ef5, nI_clamp (by omega)]] at hf5
                                                    refine lv_iload_n hx hb dX6_varint_85 rfl (lv_at hl 2 rfl) ?_
                                                    refine lv_bipush (v := 7) hx hb dX6_varint_86 (by decide) ?_
                                                    refine lv_iushr (v := ush (nI (vzN x / 128 / 128 / 128 / 128)) 7) hx hb dX6_varint_88 rfl ?_
                                                    refine k_topi (y := nI (vzN x / 128 / 128 / 128 / 128 / 128)) (by exact ush_nI h4 7 (by decide)) ?_
                                                    refine lv_istore_n (lv' := [(2, .int (nI (vzN x / 128 / 128 / 128 / 128 / 128))), (3, .int 1), (4, .int 4), (0, .ref h), (1, .int x)]) hx hb dX6_varint_89 rfl hl (by decide) rfl (fun ls hl => ?_)
                                                    refine lv_iinc (v := 5) (lv' := [(4, .int 5), (2, .int (nI (vzN x / 128 / 128 / 128 / 128 / 128))), (3, .int 1), (0, .ref h), (1, .int x)]) hx hb dX6_varint_90 hl (k := 2) rfl (by decide) (by decide) rfl (fun ls hl => ?_)
                                                    refine lv_goto (tgt := 14) hx hb dX6_varint_93 (by decide) ?_
                                                    refine lv_iload hx hb dX6_varint_14 (lv_at hl 0 rfl) ?_
                                                    refine lv_iconst (v := 5) hx hb dX6_varint_16 (by decide) ?_
                                                    refine lv_icmp_ge (tgt := 96) hx hb dX6_varint_17 (by decide) (fun c_17_5 => ?_) (fun c_17_5 => ?_)
                                                    · have ev : vbs x = [(nI (vzN x) &&& 127 ||| 128).toInt8, (nI (vzN x / 128) &&& 127 ||| 128).toInt8, (nI (vzN x / 128 / 128) &&& 127 ||| 128).toInt8, (nI (vzN x / 128 / 128 / 128) &&& 127 ||| 128).toInt8, (nI (vzN x / 128 / 128 / 128 / 128)).toInt8] := by rw [vbs, vb_2 (fun h => c_40 ((ush_z h0 7 (by decide)).mpr h)), vb_2 (fun h => c_40_1 ((ush_z h1 7 (by decide)).mpr h)), vb_2 (fun h => c_40_2 ((ush_z h2 7 (by decide)).mpr h)), vb_2 (fun h => c_40_3 ((ush_z h3 7 (by decide)).mpr h)), vb_0]
                                                      rw [ev]
                                                      refine kr_v C G ⟨f5, ?_, rfl⟩ (Nat.le_refl _) (Nat.le_refl _) dX6_varint_96
                                                      simpa only [List.append_assoc, List.cons_append, List.nil_append] using hf5
                                                    · exact absurd c_17_5 (by decide)
                                        · exact absurd c_58_3 (by decide)
                                      · refine lv_iconst (v := 1) hx hb dX6_varint_43 (by decide) ?_
                                        refine lv_goto (tgt := 48) hx hb dX6_varint_44 (by decide) ?_
                                        refine lv_istore_n (lv' := [(3, .int 1), (4, .int 3), (2, .int (nI (vzN x / 128 / 128 / 128))), (0, .ref h), (1, .int x)]) hx hb dX6_varint_48 rfl hl (by decide) rfl (fun ls hl => ?_)
                                        refine lv_aload_n hx hb dX6_varint_49 rfl (lv_at hl 3 rfl) ?_
                                        refine k_get (ci := 7) (CC := RX6) (T := TX6) (N := 2) (v := .ref q) C G 0 rfl rfl in_7 0 (by decide) fl_X6_7 rfl rfl dX6_varint_50 ?_
                                        refine lv_aload_n hx hb dX6_varint_53 rfl (lv_at hl 3 rfl) ?_
                                        refine k_get (ci := 7) (CC := RX6) (T := TX6) (N := 2) (v := .int (nI (bs.length + 3))) C G 0 rfl rfl in_7 1 (by decide) fl_X6_13 rfl rfl dX6_varint_54 ?_
                                        refine lv_iload_n hx hb dX6_varint_57 rfl (lv_at hl 0 rfl) ?_
                                        refine lv_if_eq (tgt := 65) hx hb dX6_varint_58 (by decide) (fun c_58_3 => ?_) (fun c_58_3 => ?_)
                                        · exact absurd c_58_3 (by decide)
                                        · refine lv_iload_n hx hb dX6_varint_61 rfl (lv_at hl 2 rfl) ?_
                                          refine lv_goto (tgt := 73) hx hb dX6_varint_62 (by decide) ?_
                                          refine lv_i2b (v := (nI (vzN x / 128 / 128 / 128)).toInt8.toInt32) hx hb dX6_varint_73 rfl ?_
                                          have h_74 : vp_in (nI (bs.length + 3)) L := by exact vp_in_nI (by omega) hL
                                          refine k_bast C G 1 rfl h_74 (pk_vb _) dX6_varint_74 (fun H locs (G : wd Z A s ([(h, .inr (7, [.ref q, .int (nI (bs.length + 3))])), (q, aB Z L (upd f3 (nI (bs.length + 3)).toNatClampNeg ((nI (vzN x / 128 / 128 / 128)).toInt8.toInt32)))]) H locs) => ?_)
                                          refine lv_aload_n hx hb dX6_varint_75 rfl (lv_at hl 3 rfl) ?_
                                          refine lv_dup hx hb dX6_varint_76 rfl ?_
                                          refine k_get (ci := 7) (CC := RX6) (T := TX6) (N := 2) (v := .int (nI (bs.length + 3))) C G 0 rfl rfl in_7 1 (by decide) fl_X6_13 rfl rfl dX6_varint_77 ?_
                                          refine lv_iconst (v := 1) hx hb dX6_varint_80 (by decide) ?_
                                          refine lv_iadd hx hb dX6_varint_81 ?_
                                          refine k_topi (y := nI (bs.length + 4)) (by exact nI_1 _) ?_
                                          refine k_put (ci := 7) (CC := RX6) (T := TX6) (N := 2) (ty := .int) (v := .int (nI (bs.length + 4))) C G 0 rfl rfl in_7 tyX6 tyX6_ok nmX6 1 (by decide) fl_X6_13 rfl rfl rfl rfl rfl (Nat.le_of_ble_eq_true rfl) dX6_varint_82 (fun H locs (G : wd Z A s ([(h, .inr (7, [.ref q, .int (nI (bs.length + 4))])), (q, aB Z L (upd f3 (nI (bs.length + 3)).toNatClampNeg ((nI (vzN x / 128 / 128 / 128)).toInt8.toInt32)))]) H locs) => ?_)
                                          obtain ⟨f4, ef4⟩ : ∃ g, g = upd f3 (nI (bs.length + 3)).toNatClampNeg ((nI (vzN x / 128 / 128 / 128)).toInt8.toInt32) := ⟨_, rfl⟩
                                          rw [← ef4] at G
                                          have hf4 := by_pushN (n := bs.length + 3) hf3 (by simp) (nI (vzN x / 128 / 128 / 128)).toInt8
                                          rw [show upd f3 (bs.length + 3) (nI (vzN x / 128 / 128 / 128)).toInt8.toInt32 = f4 by rw [ef4, nI_clamp (by omega)]] at hf4
                                          refine lv_iload_n hx hb dX6_varint_85 rfl (lv_at hl 2 rfl) ?_
                                          refine lv_bipush (v := 7) hx hb dX6_varint_86 (by decide) ?_
                                          refine lv_iushr (v := ush (nI (vzN x / 128 / 128 / 128)) 7) hx hb dX6_varint_88 rfl ?_
                                          refine k_topi (y := nI (vzN x / 128 / 128 / 128 / 128)) (by exact ush_nI h3 7 (by decide)) ?_
                                          refine lv_istore_n (lv' := [(2, .int (nI (vzN x / 128 / 128 / 128 / 128))), (3, .int 1), (4, .int 3), (0, .ref h), (1, .int x)]) hx hb dX6_varint_89 rfl hl (by decide) rfl (fun ls hl => ?_)
                                          refine lv_iinc (v := 4) (lv' := [(4, .int 4), (2, .int (nI (vzN x / 128 / 128 / 128 / 128))), (3, .int 1), (0, .ref h), (1, .int x)]) hx hb dX6_varint_90 hl (k := 2) rfl (by decide) (by decide) rfl (fun ls hl => ?_)
                                          refine lv_goto (tgt := 14) hx hb dX6_varint_93 (by decide) ?_
                                          refine lv_iload hx hb dX6_varint_14 (lv_at hl 0 rfl) ?_
                                          refine lv_iconst (v := 5) hx hb dX6_varint_16 (by decide) ?_
                                          refine lv_icmp_ge (tgt := 96) hx hb dX6_varint_17 (by decide) (fun c_17_4 => ?_) (fun c_17_4 => ?_)
                                          · exact absurd c_17_4 (by decide)
                                          · refine lv_iload_n hx hb dX6_varint_20 rfl (lv_at hl 2 rfl) ?_
                                            refine lv_if_ne (tgt := 96) hx hb dX6_varint_21 (by decide) (fun c_21_4 => ?_) (fun c_21_4 => ?_)
                                            · have ev : vbs x = [(nI (vzN x) &&& 127 ||| 128).toInt8, (nI (vzN x / 128) &&& 127 ||| 128).toInt8, (nI (vzN x / 128 / 128) &&& 127 ||| 128).toInt8, (nI (vzN x / 128 / 128 / 128)).toInt8] := by rw [vbs, vb_2 (fun h => c_40 ((ush_z h0 7 (by decide)).mpr h)), vb_2 (fun h => c_40_1 ((ush_z h1 7 (by decide)).mpr h)), vb_2 (fun h => c_40_2 ((ush_z h2 7 (by decide)).mpr h)), vb_1 ((ush_z h3 7 (by decide)).mp c_40_3)]
                                              rw [ev]
                                              refine kr_v C G ⟨f4, ?_, rfl⟩ (Nat.le_refl _) (Nat.le_refl _) dX6_varint_96
                                              simpa only [List.append_assoc, List.cons_append, List.nil_append] using hf4
                                            · exact absurd c_21_4 (by decide)
                              · exact absurd c_58_2 (by decide)
                            · refine lv_iconst (v := 1) hx hb dX6_varint_43 (by decide) ?_
                              refine lv_goto (tgt := 48) hx hb dX6_varint_44 (by decide) ?_
                              refine lv_istore_n (lv' := [(3, .int 1), (4, .int 2), (2, .int (nI (vzN x / 128 / 128))), (0, .ref h), (1, .int x)]) hx hb dX6_varint_48 rfl hl (by decide) rfl (fun ls hl => ?_)
                              refine lv_aload_n hx hb dX6_varint_49 rfl (lv_at hl 3 rfl) ?_
                              refine k_get (ci := 7) (CC := RX6) (T := TX6) (N := 2) (v := .ref q) C G 0 rfl rfl in_7 0 (by decide) fl_X6_7 rfl rfl dX6_varint_50 ?_
                              refine lv_aload_n hx hb dX6_varint_53 rfl (lv_at hl 3 rfl) ?_
                              refine k_get (ci := 7) (CC := RX6) (T := TX6) (N := 2) (v := .int (nI (bs.length + 2))) C G 0 rfl rfl in_7 1 (by decide) fl_X6_13 rfl rfl dX6_varint_54 ?_
                              refine lv_iload_n hx hb dX6_varint_57 rfl (lv_at hl 0 rfl) ?_
                              refine lv_if_eq (tgt := 65) hx hb dX6_varint_58 (by decide) (fun c_58_2 => ?_) (fun c_58_2 => ?_)
                              · exact absurd c_58_2 (by decide)
                              · refine lv_iload_n hx hb dX6_varint_61 rfl (lv_at hl 2 rfl) ?_
                                refine lv_goto (tgt := 73) hx hb dX6_varint_62 (by decide) ?_
                                refine lv_i2b (v := (nI (vzN x / 128 / 128)).toInt8.toInt32) hx hb dX6_varint_73 rfl ?_
                                have h_74 : vp_in (nI (bs.length + 2)) L := by exact vp_in_nI (by omega) hL
                                refine k_bast C G 1 rfl h_74 (pk_vb _) dX6_varint_74 (fun H locs (G : wd Z A s ([(h, .inr (7, [.ref q, .int (nI (bs.length + 2))])), (q, aB Z L (upd f2 (nI (bs.length + 2)).toNatClampNeg ((nI (vzN x / 128 / 128)).toInt8.toInt32)))]) H locs) => ?_)
                                refine lv_aload_n hx hb dX6_varint_75 rfl (lv_at hl 3 rfl) ?_
                                refine lv_dup hx hb dX6_varint_76 rfl ?_
                                refine k_get (ci := 7) (CC := RX6) (T := TX6) (N := 2) (v := .int (nI (bs.length + 2))) C G 0 rfl rfl in_7 1 (by decide) fl_X6_13 rfl rfl dX6_varint_77 ?_
                                refine lv_iconst (v := 1) hx hb dX6_varint_80 (by decide) ?_
                                refine lv_iadd hx hb dX6_varint_81 ?_
                                refine k_topi (y := nI (bs.length + 3)) (by exact nI_1 _) ?_
                                refine k_put (ci := 7) (CC := RX6) (T := TX6) (N := 2) (ty := .int) (v := .int (nI (bs.length + 3))) C G 0 rfl rfl in_7 tyX6 tyX6_ok nmX6 1 (by decide) fl_X6_13 rfl rfl rfl rfl rfl (Nat.le_of_ble_eq_true rfl) dX6_varint_82 (fun H locs (G : wd Z A s ([(h, .inr (7, [.ref q, .int (nI (bs.length + 3))])), (q, aB Z L (upd f2 (nI (bs.length + 2)).toNatClampNeg ((nI (vzN x / 128 / 128)).toInt8.toInt32)))]) H locs) => ?_)
                                obtain ⟨f3, ef3⟩ : ∃ g, g = upd f2 (nI (bs.length + 2)).toNatClampNeg ((nI (vzN x / 128 / 128)).toInt8.toInt32) := ⟨_, rfl⟩
                                rw [← ef3] at G
                                have hf3 := by_pushN (n := bs.length + 2) hf2 (by simp) (nI (vzN x / 128 / 128)).toInt8
                                rw [show upd f2 (bs.length + 2) (nI (vzN x / 128 / 128)).toInt8.toInt32 = f3 by rw [ef3, nI_clamp (by omega)]] at hf3
                                refine lv_iload_n hx hb dX6_varint_85 rfl (lv_at hl 2 rfl) ?_
                                refine lv_bipush (v := 7) hx hb dX6_varint_86 (by decide) ?_
                                refine lv_iushr (v := ush (nI (vzN x / 128 / 128)) 7) hx hb dX6_varint_88 rfl ?_
                                refine k_topi (y := nI (vzN x / 128 / 128 / 128)) (by exact ush_nI h2 7 (by decide)) ?_
                                refine lv_istore_n (lv' := [(2, .int (nI (vzN x / 128 / 128 / 128))), (3, .int 1), (4, .int 2), (0, .ref h), (1, .int x)]) hx hb dX6_varint_89 rfl hl (by decide) rfl (fun ls hl => ?_)
                                refine lv_iinc (v := 3) (lv' := [(4, .int 3), (2, .int (nI (vzN x / 128 / 128 / 128))), (3, .int 1), (0, .ref h), (1, .int x)]) hx hb dX6_varint_90 hl (k := 2) rfl (by decide) (by decide) rfl (fun ls hl => ?_)
                                refine lv_goto (tgt := 14) hx hb dX6_varint_93 (by decide) ?_
                                refine lv_iload hx hb dX6_varint_14 (lv_at hl 0 rfl) ?_
                                refine lv_iconst (v := 5) hx hb dX6_varint_16 (by decide) ?_
                                refine lv_icmp_ge (tgt := 96) hx hb dX6_varint_17 (by decide) (fun c_17_3 => ?_) (fun c_17_3 => ?_)
                                · exact absurd c_17_3 (by decide)
                                · refine lv_iload_n hx hb dX6_varint_20 rfl (lv_at hl 2 rfl) ?_
                                  refine lv_if_ne (tgt := 96) hx hb dX6_varint_21 (by decide) (fun c_21_3 => ?_) (fun c_21_3 => ?_)
                                  · have ev : vbs x = [(nI (vzN x) &&& 127 ||| 128).toInt8, (nI (vzN x / 128) &&& 127 ||| 128).toInt8, (nI (vzN x / 128 / 128)).toInt8] := by rw [vbs, vb_2 (fun h => c_40 ((ush_z h0 7 (by decide)).mpr h)), vb_2 (fun h => c_40_1 ((ush_z h1 7 (by decide)).mpr h)), vb_1 ((ush_z h2 7 (by decide)).mp c_40_2)]
                                    rw [ev]
                                    refine kr_v C G ⟨f3, ?_, rfl⟩ (Nat.le_refl _) (Nat.le_refl _) dX6_varint_96
                                    simpa only [List.append_assoc, List.cons_append, List.nil_append] using hf3
                                  · exact absurd c_21_3 (by decide)
                    · exact absurd c_58_1 (by decide)
                  · refine lv_iconst (v := 1) hx hb dX6_varint_43 (by decide) ?_
                    refine lv_goto (tgt := 48) hx hb dX6_varint_44 (by decide) ?_
                    refine lv_istore_n (lv' := [(3, .int 1), (4, .int 1), (2, .int (nI (vzN x / 128))), (0, .ref h), (1, .int x)]) hx hb dX6_varint_48 rfl hl (by decide) rfl (fun ls hl => ?_)
                    refine lv_aload_n hx hb dX6_varint_49 rfl (lv_at hl 3 rfl) ?_
                    refine k_get (ci := 7) (CC := RX6) (T := TX6) (N := 2) (v := .ref q) C G 0 rfl rfl in_7 0 (by decide) fl_X6_7 rfl rfl dX6_varint_50 ?_
                    refine lv_aload_n hx hb dX6_varint_53 rfl (lv_at hl 3 rfl) ?_
                    refine k_get (ci := 7) (CC := RX6) (T := TX6) (N := 2) (v := .int (nI (bs.length + 1))) C G 0 rfl rfl in_7 1 (by decide) fl_X6_13 rfl rfl dX6_varint_54 ?_
                    refine lv_iload_n hx hb dX6_varint_57 rfl (lv_at hl 0 rfl) ?_
                    refine lv_if_eq (tgt := 65) hx hb dX6_varint_58 (by decide) (fun c_58_1 => ?_) (fun c_58_1 => ?_)
                    · exact absurd c_58_1 (by decide)
                    · refine lv_iload_n hx hb dX6_varint_61 rfl (lv_at hl 2 rfl) ?_
                      refine lv_goto (tgt := 73) hx hb dX6_varint_62 (by decide) ?_
                      refine lv_i2b (v := (nI (vzN x / 128)).toInt8.toInt32) hx hb dX6_varint_73 rfl ?_
                      have h_74 : vp_in (nI (bs.length + 1)) L := by exact vp_in_nI (by omega) hL
                      refine k_bast C G 1 rfl h_74 (pk_vb _) dX6_varint_74 (fun H locs (G : wd Z A s ([(h, .inr (7, [.ref q, .int (nI (bs.length + 1))])), (q, aB Z L (upd f1 (nI (bs.length + 1)).toNatClampNeg ((nI (vzN x / 128)).toInt8.toInt32)))]) H locs) => ?_)
                      refine lv_aload_n hx hb dX6_varint_75 rfl (lv_at hl 3 rfl) ?_
                      refine lv_dup hx hb dX6_varint_76 rfl ?_
                      refine k_get (ci := 7) (CC := RX6) (T := TX6) (N := 2) (v := .int (nI (bs.length + 1))) C G 0 rfl rfl in_7 1 (by decide) fl_X6_13 rfl rfl dX6_varint_77 ?_
                      refine lv_iconst (v := 1) hx hb dX6_varint_80 (by decide) ?_
                      refine lv_iadd hx hb dX6_varint_81 ?_
                      refine k_topi (y := nI (bs.length + 2)) (by exact nI_1 _) ?_
                      refine k_put (ci := 7) (CC := RX6) (T := TX6) (N := 2) (ty := .int) (v := .int (nI (bs.length + 2))) C G 0 rfl rfl in_7 tyX6 tyX6_ok nmX6 1 (by decide) fl_X6_13 rfl rfl rfl rfl rfl (Nat.le_of_ble_eq_true rfl) dX6_varint_82 (fun H locs (G : wd Z A s ([(h, .inr (7, [.ref q, .int (nI (bs.length + 2))])), (q, aB Z L (upd f1 (nI (bs.length + 1)).toNatClampNeg ((nI (vzN x / 128)).toInt8.toInt32)))]) H locs) => ?_)
                      obtain ⟨f2, ef2⟩ : ∃ g, g = upd f1 (nI (bs.length + 1)).toNatClampNeg ((nI (vzN x / 128)).toInt8.toInt32) := ⟨_, rfl⟩
                      rw [← ef2] at G
                      have hf2 := by_pushN (n := bs.length + 1) hf1 (by simp) (nI (vzN x / 128)).toInt8
                      rw [show upd f1 (bs.length + 1) (nI (vzN x / 128)).toInt8.toInt32 = f2 by rw [ef2, nI_clamp (by omega)]] at hf2
                      refine lv_iload_n hx hb dX6_varint_85 rfl (lv_at hl 2 rfl) ?_
                      refine lv_bipush (v := 7) hx hb dX6_varint_86 (by decide) ?_
                      refine lv_iushr (v := ush (nI (vzN x / 128)) 7) hx hb dX6_varint_88 rfl ?_
                      refine k_topi (y := nI (vzN x / 128 / 128)) (by exact ush_nI h1 7 (by decide)) ?_
                      refine lv_istore_n (lv' := [(2, .int (nI (vzN x / 128 / 128))), (3, .int 1), (4, .int 1), (0, .ref h), (1, .int x)]) hx hb dX6_varint_89 rfl hl (by decide) rfl (fun ls hl => ?_)
                      refine lv_iinc (v := 2) (lv' := [(4, .int 2), (2, .int (nI (vzN x / 128 / 128))), (3, .int 1), (0, .ref h), (1, .int x)]) hx hb dX6_varint_90 hl (k := 2) rfl (by decide) (by decide) rfl (fun ls hl => ?_)
                      refine lv_goto (tgt := 14) hx hb dX6_varint_93 (by decide) ?_
                      refine lv_iload hx hb dX6_varint_14 (lv_at hl 0 rfl) ?_
                      refine lv_iconst (v := 5) hx hb dX6_varint_16 (by decide) ?_
                      refine lv_icmp_ge (tgt := 96) hx hb dX6_varint_17 (by decide) (fun c_17_2 => ?_) (fun c_17_2 => ?_)
                      · exact absurd c_17_2 (by decide)
                      · refine lv_iload_n hx hb dX6_varint_20 rfl (lv_at hl 2 rfl) ?_
                        refine lv_if_ne (tgt := 96) hx hb dX6_varint_21 (by decide) (fun c_21_2 => ?_) (fun c_21_2 => ?_)
                        · have ev : vbs x = [(nI (vzN x) &&& 127 ||| 128).toInt8, (nI (vzN x / 128)).toInt8] := by rw [vbs, vb_2 (fun h => c_40 ((ush_z h0 7 (by decide)).mpr h)), vb_1 ((ush_z h1 7 (by decide)).mp c_40_1)]
                          rw [ev]
                          refine kr_v C G ⟨f2, ?_, rfl⟩ (Nat.le_refl _) (Nat.le_refl _) dX6_varint_96
                          simpa only [List.append_assoc, List.cons_append, List.nil_append] using hf2
                        · exact absurd c_21_2 (by decide)
          · exact absurd c_58 (by decide)
        · refine lv_iconst (v := 1) hx hb dX6_varint_43 (by decide) ?_
          refine lv_goto (tgt := 48) hx hb dX6_varint_44 (by decide) ?_
          refine lv_istore_n (lv' := [(3, .int 1), (4, .int 0), (2, .int (nI (vzN x))), (0, .ref h), (1, .int x)]) hx hb dX6_varint_48 rfl hl (by decide) rfl (fun ls hl => ?_)
          refine lv_aload_n hx hb dX6_varint_49 rfl (lv_at hl 3 rfl) ?_
          refine k_get (ci := 7) (CC := RX6) (T := TX6) (N := 2) (v := .ref q) C G 0 rfl rfl in_7 0 (by decide) fl_X6_7 rfl rfl dX6_varint_50 ?_
          refine lv_aload_n hx hb dX6_varint_53 rfl (lv_at hl 3 rfl) ?_
          refine k_get (ci := 7) (CC := RX6) (T := TX6) (N := 2) (v := .int (nI bs.length)) C G 0 rfl rfl in_7 1 (by decide) fl_X6_13 rfl rfl dX6_varint_54 ?_
          refine lv_iload_n hx hb dX6_varint_57 rfl (lv_at hl 0 rfl) ?_
          refine lv_if_eq (tgt := 65) hx hb dX6_varint_58 (by decide) (fun c_58 => ?_) (fun c_58 => ?_)
          · exact absurd c_58 (by decide)
          · refine lv_iload_n hx hb dX6_varint_61 rfl (lv_at hl 2 rfl) ?_
            refine lv_goto (tgt := 73) hx hb dX6_varint_62 (by decide) ?_
            refine lv_i2b (v := (nI (vzN x)).toInt8.toInt32) hx hb dX6_varint_73 rfl ?_
            have h_74 : vp_in (nI bs.length) L := by exact vp_in_nI (by omega) hL
            refine k_bast C G 1 rfl h_74 (pk_vb _) dX6_varint_74 (fun H locs (G : wd Z A s ([(h, .inr (7, [.ref q, .int (nI bs.length)])), (q, aB Z L (upd f (nI bs.length).toNatClampNeg ((nI (vzN x)).toInt8.toInt32)))]) H locs) => ?_)
            refine lv_aload_n hx hb dX6_varint_75 rfl (lv_at hl 3 rfl) ?_
            refine lv_dup hx hb dX6_varint_76 rfl ?_
            refine k_get (ci := 7) (CC := RX6) (T := TX6) (N := 2) (v := .int (nI bs.length)) C G 0 rfl rfl in_7 1 (by decide) fl_X6_13 rfl rfl dX6_varint_77 ?_
            refine lv_iconst (v := 1) hx hb dX6_varint_80 (by decide) ?_
            refine lv_iadd hx hb dX6_varint_81 ?_
            refine k_topi (y := nI (bs.length + 1)) (by exact nI_1 _) ?_
            refine k_put (ci := 7) (CC := RX6) (T := TX6) (N := 2) (ty := .int) (v := .int (nI (bs.length + 1))) C G 0 rfl rfl in_7 tyX6 tyX6_ok nmX6 1 (by decide) fl_X6_13 rfl rfl rfl rfl rfl (Nat.le_of_ble_eq_true rfl) dX6_varint_82 (fun H locs (G : wd Z A s ([(h, .inr (7, [.ref q, .int (nI (bs.length + 1))])), (q, aB Z L (upd f (nI bs.length).toNatClampNeg ((nI (vzN x)).toInt8.toInt32)))]) H locs) => ?_)
            obtain ⟨f1, ef1⟩ : ∃ g, g = upd f (nI bs.length).toNatClampNeg ((nI (vzN x)).toInt8.toInt32) := ⟨_, rfl⟩
            rw [← ef1] at G
            have hf1 := by_pushN (n := bs.length) hf (by simp) (nI (vzN x)).toInt8
            rw [show upd f (bs.length) (nI (vzN x)).toInt8.toInt32 = f1 by rw [ef1, nI_clamp (by omega)]] at hf1
            refine lv_iload_n hx hb dX6_varint_85 rfl (lv_at hl 2 rfl) ?_
            refine lv_bipush (v := 7) hx hb dX6_varint_86 (by decide) ?_
            refine lv_iushr (v := ush (nI (vzN x)) 7) hx hb dX6_varint_88 rfl ?_
            refine k_topi (y := nI (vzN x / 128)) (by exact ush_nI h0 7 (by decide)) ?_
            refine lv_istore_n (lv' := [(2, .int (nI (vzN x / 128))), (3, .int 1), (4, .int 0), (0, .ref h), (1, .int x)]) hx hb dX6_varint_89 rfl hl (by decide) rfl (fun ls hl => ?_)
            refine lv_iinc (v := 1) (lv' := [(4, .int 1), (2, .int (nI (vzN x / 128))), (3, .int 1), (0, .ref h), (1, .int x)]) hx hb dX6_varint_90 hl (k := 2) rfl (by decide) (by decide) rfl (fun ls hl => ?_)
            refine lv_goto (tgt := 14) hx hb dX6_varint_93 (by decide) ?_
            refine lv_iload hx hb dX6_varint_14 (lv_at hl 0 rfl) ?_
            refine lv_iconst (v := 5) hx hb dX6_varint_16 (by decide) ?_
            refine lv_icmp_ge (tgt := 96) hx hb dX6_varint_17 (by decide) (fun c_17_1 => ?_) (fun c_17_1 => ?_)
            · exact absurd c_17_1 (by decide)
            · refine lv_iload_n hx hb dX6_varint_20 rfl (lv_at hl 2 rfl) ?_
              refine lv_if_ne (tgt := 96) hx hb dX6_varint_21 (by decide) (fun c_21_1 => ?_) (fun c_21_1 => ?_)
              · have ev : vbs x = [(nI (vzN x)).toInt8] := by rw [vbs, vb_1 ((ush_z h0 7 (by decide)).mp c_40)]
                rw [ev]
                refine kr_v C G ⟨f1, ?_, rfl⟩ (Nat.le_refl _) (Nat.le_refl _) dX6_varint_96
                simpa only [List.append_assoc, List.cons_append, List.nil_append] using hf1
              · exact absurd c_21_1 (by decide)
set_option maxRecDepth 100000 in
set_option maxHeartbeats 4000000 in
theorem lp_X6_checkOf {p : Program} {l : Launch} {e : Env} {s : State} {m : MethodId} {args : Array Value} {below : List Frame} {meth : Method} {c : Code} {Z : zT} {A : Nat → Prop} {q L b : Nat} {f : Nat → Int32} {v1 : Int32} {post : Int32 → va_W → Prop} (C : cx p s m args meth c cX6_checkOf 6 (some .int) RX6 "checkOf") (hb1 : b ≤ L) (hL : L < 2 ^ 31) : ∀ (n a : Nat) (ck : Int32), a + n = b → post (crF f ck a n ^^^ (-1)) [(q, aB Z L f)] → ∀ (H : Heap) (locs : List Loc) (ls : Array Slot), wd Z A s [(q, aB Z L f)] H locs → lv_has ls 6 [(4, .int (nI a)), (3, .int ck), (0, .ref q), (1, .int v1), (2, .int (nI b))] → W p l e ({ frames := 0, cells := 0, slots := 0, locals := 0 }) s m args below meth c H locs 0 0 (MQ below (va_Qi post (mB Z A) A) args s 0 0 A) (F0 m 5 ls []) := by
  have hx := C.1
  have hb := C.2.1
  have hown := C.2.2.2.2.2.1
  have hts := C.2.2.2.2.2.2.1
  intro n
  induction n with
  | zero =>
    intro a ck hn hp H locs ls G hl
    have hab : a = b := by omega
    subst hab
    refine lv_iload hx hb dX6_checkOf_5 (lv_at hl 0 rfl) ?_
    refine lv_if_lt (tgt := 69) hx hb dX6_checkOf_7 (by decide) (fun c_7 => ?_) (fun c_7 => ?_)
    · exact absurd c_7 (nI_pos (by omega))
    · refine lv_iload hx hb dX6_checkOf_10 (lv_at hl 0 rfl) ?_
      refine lv_iload_n hx hb dX6_checkOf_12 rfl (lv_at hl 4 rfl) ?_
      refine lv_icmp_ge (tgt := 69) hx hb dX6_checkOf_13 (by decide) (fun c_13 => ?_) (fun c_13 => ?_)
      · refine lv_iload_n hx hb dX6_checkOf_69 rfl (lv_at hl 1 rfl) ?_
        refine lv_iconst (v := (-1)) hx hb dX6_checkOf_70 (by decide) ?_
        refine lv_ixor hx hb dX6_checkOf_71 ?_
        exact kr_i C G (by simpa [crF] using hp) (Nat.le_refl _) (Nat.le_refl _) dX6_checkOf_72
      · exact absurd (nI_le (by omega) (by omega)) c_13
  | succ n ih =>
    intro a ck hn hp H locs ls G hl
    refine lv_iload hx hb dX6_checkOf_5 (lv_at hl 0 rfl) ?_
    refine lv_if_lt (tgt := 69) hx hb dX6_checkOf_7 (by decide) (fun c_7 => ?_) (fun c_7 => ?_)
    · exact absurd c_7 (nI_pos (by omega))
    · refine lv_iload hx hb dX6_checkOf_10 (lv_at hl 0 rfl) ?_
      refine lv_iload_n hx hb dX6_checkOf_12 rfl (lv_at hl 4 rfl) ?_
      refine lv_icmp_ge (tgt := 69) hx hb dX6_checkOf_13 (by decide) (fun c_13 => ?_) (fun c_13 => ?_)
      · exact absurd c_13 (nI_ge (by omega) (by omega))
      · refine lv_iload hx hb dX6_checkOf_16 (lv_at hl 0 rfl) ?_
        refine lv_aload_n hx hb dX6_checkOf_18 rfl (lv_at hl 2 rfl) ?_
        refine k_alen (ty := .byte) C G 0 0 rfl rfl dX6_checkOf_19 ?_
        refine lv_icmp_ge (tgt := 69) hx hb dX6_checkOf_20 (by decide) (fun c_20 => ?_) (fun c_20 => ?_)
        · exact absurd c_20 (nI_ge (by omega) (by omega))
        · refine lv_aload_n hx hb dX6_checkOf_23 rfl (lv_at hl 2 rfl) ?_
          refine lv_iload hx hb dX6_checkOf_24 (lv_at hl 0 rfl) ?_
          have h_26 : vp_in (nI a) L := by exact vp_in_nI (by omega) (by omega)
          refine k_bald C G 0 rfl h_26 dX6_checkOf_26 ?_
          refine k_topi (y := f a) (by rw [nI_clamp (by omega)]) ?_
          refine lv_istore (lv' := [(5, .int (f a)), (4, .int (nI a)), (3, .int ck), (0, .ref q), (1, .int v1), (2, .int (nI b))]) hx hb dX6_checkOf_27 hl (by decide) rfl (fun ls hl => ?_)
          refine lv_iload_n hx hb dX6_checkOf_29 rfl (lv_at hl 2 rfl) ?_
          refine lv_iconst (v := 4) hx hb dX6_checkOf_30 (by decide) ?_
          refine lv_iushr (v := ush ck 4) hx hb dX6_checkOf_31 rfl ?_
          refine k_hbt C G (by decide) dX6_checkOf_32 ?_
          refine lv_iload_n hx hb dX6_checkOf_35 rfl (lv_at hl 2 rfl) ?_
          refine lv_iload hx hb dX6_checkOf_36 (lv_at hl 0 rfl) ?_
          refine lv_ixor hx hb dX6_checkOf_38 ?_
          refine lv_bipush (v := 15) hx hb dX6_checkOf_39 (by decide) ?_
          refine lv_iand hx hb dX6_checkOf_41 ?_
          refine k_hbi C G (in15 _) dX6_checkOf_42 ?_
          refine lv_ixor hx hb dX6_checkOf_43 ?_
          refine lv_istore_n (lv' := [(3, .int ((ush ck 4) ^^^ (hbT.getD ((ck ^^^ (f a)) &&& 15).toNatClampNeg 0))), (5, .int (f a)), (4, .int (nI a)), (0, .ref q), (1, .int v1), (2, .int (nI b))]) hx hb dX6_checkOf_44 rfl hl (by decide) rfl (fun ls hl => ?_)
          refine lv_iload_n hx hb dX6_checkOf_45 rfl (lv_at hl 0 rfl) ?_
          refine lv_iconst (v := 4) hx hb dX6_checkOf_46 (by decide) ?_
          refine lv_iushr (v := ush ((ush ck 4) ^^^ (hbT.getD ((ck ^^^ (f a)) &&& 15).toNatClampNeg 0)) 4) hx hb dX6_checkOf_47 rfl ?_
          refine k_hbt C G (by decide) dX6_checkOf_48 ?_
          refine lv_iload_n hx hb dX6_checkOf_51 rfl (lv_at hl 0 rfl) ?_
          refine lv_iload hx hb dX6_checkOf_52 (lv_at hl 1 rfl) ?_
          refine lv_iconst (v := 4) hx hb dX6_checkOf_54 (by decide) ?_
          refine lv_ishr hx hb dX6_checkOf_55 ?_
          refine lv_ixor hx hb dX6_checkOf_56 ?_
          refine lv_bipush (v := 15) hx hb dX6_checkOf_57 (by decide) ?_
          refine lv_iand hx hb dX6_checkOf_59 ?_
          refine k_hbi C G (in15 _) dX6_checkOf_60 ?_
          refine lv_ixor hx hb dX6_checkOf_61 ?_
          refine lv_istore_n (lv' := [(3, .int ((ush ((ush ck 4) ^^^ (hbT.getD ((ck ^^^ (f a)) &&& 15).toNatClampNeg 0)) 4) ^^^ (hbT.getD ((((ush ck 4) ^^^ (hbT.getD ((ck ^^^ (f a)) &&& 15).toNatClampNeg 0)) ^^^ ((f a) >>> (4 &&& 31))) &&& 15).toNatClampNeg 0))), (5, .int (f a)), (4, .int (nI a)), (0, .ref q), (1, .int v1), (2, .int (nI b))]) hx hb dX6_checkOf_62 rfl hl (by decide) rfl (fun ls hl => ?_)
          refine lv_iinc (v := nI (a + 1)) (lv' := [(4, .int (nI (a + 1))), (3, .int ((ush ((ush ck 4) ^^^ (hbT.getD ((ck ^^^ (f a)) &&& 15).toNatClampNeg 0)) 4) ^^^ (hbT.getD ((((ush ck 4) ^^^ (hbT.getD ((ck ^^^ (f a)) &&& 15).toNatClampNeg 0)) ^^^ ((f a) >>> (4 &&& 31))) &&& 15).toNatClampNeg 0))), (5, .int (f a)), (0, .ref q), (1, .int v1), (2, .int (nI b))]) hx hb dX6_checkOf_63 hl (k := 2) rfl (nI_1 _) (by decide) rfl (fun ls hl => ?_)
          refine lv_goto (tgt := 5) hx hb dX6_checkOf_66 (by decide) ?_
          exact ih (a + 1) _ (by omega) hp _ _ _ G (lv_sub hl [0, 1, 3, 4, 5] rfl)
set_option maxRecDepth 100000 in
set_option maxHeartbeats 4000000 in
theorem c_X6_checkOf (Z : zT) (l : Launch) (q L a b : Nat) (f : Nat → Int32) (ha : a ≤ b) (hb1 : b ≤ L) (hL : L < 2 ^ 31) : Ki Z l yX6_checkOf cX6_checkOf 6 (some .int) ({ frames := 0, cells := 0, slots := 0, locals := 0 }) [.ref q, .int (nI a), .int (nI b)] [(q, aB Z L f)] (fun r u => r = crF f (-1) a (b - a) ^^^ (-1) ∧ u = [(q, aB Z L f)]) := by
  intro sz
  refine Met.ofK (cc := cX6_checkOf) (maxL := 6) (ret := (some .int)) (by decide) (Nat.le_of_ble_eq_true rfl) ?_
  intro p e s m below meth c ls C G hl
  generalize va_A _ sz = A at G ⊢
  have hx := C.1
  have hb := C.2.1
  have hown := C.2.2.2.2.2.1
  have hts := C.2.2.2.2.2.2.1
  refine lv_iconst (v := (-1)) hx hb dX6_checkOf_0 (by decide) ?_
  refine lv_istore_n (lv' := [(3, .int (-1)), (0, .ref q), (1, .int (nI a)), (2, .int (nI b))]) hx hb dX6_checkOf_1 rfl hl (by decide) rfl (fun ls hl => ?_)
  refine lv_iload_n hx hb dX6_checkOf_2 rfl (lv_at hl 2 rfl) ?_
  refine lv_istore (lv' := [(4, .int (nI a)), (3, .int (-1)), (0, .ref q), (1, .int (nI a)), (2, .int (nI b))]) hx hb dX6_checkOf_3 hl (by decide) rfl (fun ls hl => ?_)
  exact lp_X6_checkOf C hb1 hL (b - a) a (-1) (by omega) ⟨rfl, rfl⟩ _ _ _ G (lv_sub hl [0, 1, 2, 3, 4] rfl)
set_option maxRecDepth 100000 in
set_option maxHeartbeats 4000000 in
theorem c_X6_check (Z : zT) (l : Launch) (h q L a : Nat) (f : Nat → Int32) (bs : List Int8) (hf : by_at f bs) (ha : a ≤ bs.length) (hk : bs.length + 4 ≤ L) (hL : L < 2 ^ 31) : Kv Z l yX6_check cX6_check 2 none ({ frames := 1, cells := 0, slots := 0, locals := 30 }) [.ref h, .int (nI a)] (skW Z h q L f (nI bs.length)) (fun u => ∃ f', by_at f' (bs ++ u4b (crc (bs.drop a))) ∧ u = skW Z h q L f' (nI (bs.length + 4))) := by
  intro sz
  refine Met.ofK (cc := cX6_check) (maxL := 2) (ret := none) (by decide) (Nat.le_of_ble_eq_true rfl) ?_
  intro p e s m below meth c ls C G hl
  generalize va_A _ sz = A at G ⊢
  have hx := C.1
  have hb := C.2.1
  have hown := C.2.2.2.2.2.1
  have hts := C.2.2.2.2.2.2.1
  refine lv_aload_n hx hb dX6_check_0 rfl (lv_at hl 0 rfl) ?_
  refine lv_aload_n hx hb dX6_check_1 rfl (lv_at hl 0 rfl) ?_
  refine k_get (ci := 7) (CC := RX6) (T := TX6) (N := 2) (v := .ref q) C G 0 rfl rfl in_7 0 (by decide) fl_X6_7 rfl rfl dX6_check_2 ?_
  refine lv_iload_n hx hb dX6_check_5 rfl (lv_at hl 1 rfl) ?_
  refine lv_aload_n hx hb dX6_check_6 rfl (lv_at hl 0 rfl) ?_
  refine k_get (ci := 7) (CC := RX6) (T := TX6) (N := 2) (v := .int (nI bs.length)) C G 0 rfl rfl in_7 1 (by decide) fl_X6_13 rfl rfl dX6_check_7 ?_
  have hX : List.Perm ([(h, .inr (7, [.ref q, .int (nI bs.length)])), (q, aB Z L f)]) ([(q, aB Z L f)] ++ ([(h, .inr (7, [.ref q, .int (nI bs.length)]))])) := (perm_ix [1, 0] rfl 2 (by decide) rfl)
  refine kc_i (Wc := [(q, aB Z L f)]) (Wr := [(h, .inr (7, [.ref q, .int (nI bs.length)]))]) G hX (krS 3 rfl (As := [.ref q, .int (nI a), .int (nI bs.length)]) (rest := [.ref h]) C G hX (c_X6_checkOf Z l q L a bs.length f ha (by omega) hL _) (gdS ml_X6_29 sm_X6_checkOf ii_X6 co_X6_checkOf) (by decide +kernel) ⟨Nat.le_of_ble_eq_true rfl, Nat.le_of_ble_eq_true rfl⟩ hl rfl (Nat.le_of_ble_eq_true rfl) ⟨Nat.le_of_ble_eq_true rfl, Nat.le_of_ble_eq_true rfl⟩ dX6_check_10) (fun r_10 u H locs hu G => ?_)
  obtain ⟨e1, rfl⟩ := hu
  rw [crF_by hf _ ha] at e1
  have e2 : r_10 = crc (bs.drop a) := e1
  subst e2
  have G : wd Z A s ([(q, aB Z L f), (h, .inr (7, [.ref q, .int (nI bs.length)]))]) H locs := G
  have hX : List.Perm ([(q, aB Z L f), (h, .inr (7, [.ref q, .int (nI bs.length)]))]) ([(h, .inr (7, [.ref q, .int (nI bs.length)])), (q, aB Z L f)] ++ ([])) := (perm_ix [1, 0] rfl 2 (by decide) rfl)
  refine kc_v (Wc := [(h, .inr (7, [.ref q, .int (nI bs.length)])), (q, aB Z L f)]) (Wr := []) G hX (krV 1 rfl (As := [.int (crc (bs.drop a))]) (rest := []) (ci := 7) (CC := RX6) (T := TX6) (N := 2) C G hX (c_X6_u4 Z l h q L f bs (crc (bs.drop a)) hf hk hL _) (gdV ml_X6_33 im_X6_u4 se_X6_u4 ii_X6 co_X6_u4) (by decide +kernel) ⟨Nat.le_of_ble_eq_true rfl, Nat.le_of_ble_eq_true rfl⟩ rfl 0 rfl hl rfl (Nat.le_of_ble_eq_true rfl) ⟨Nat.le_of_ble_eq_true rfl, Nat.le_of_ble_eq_true rfl⟩ dX6_check_13) (fun u H locs hu G => ?_)
  obtain ⟨f', hf', rfl⟩ := hu
  exact kr_v C G ⟨f', hf', rfl⟩ (Nat.le_of_ble_eq_true rfl) (Nat.le_of_ble_eq_true rfl) dX6_check_16
