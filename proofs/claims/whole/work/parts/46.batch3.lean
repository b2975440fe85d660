/-! MODULE Batch (X0), third part: writing columns. -/
theorem c_X6_u1N (Z : zT) (l : Launch) (h q L N : Nat) (f : Nat → Int32) (bs : List Int8) (x : Int32) (hf : by_at f bs) (hN : bs.length = N) (hk : N < L) (hL : L < 2 ^ 31) : Kv Z l yX6_u1 cX6_u1 2 none ({ frames := 0, cells := 0, slots := 0, locals := 0 }) [.ref h, .int x] (skW Z h q L f (nI N)) (fun u => ∃ f', by_at f' (bs ++ [x.toInt8]) ∧ u = skW Z h q L f' (nI (N + 1))) := by
  subst hN
  exact c_X6_u1 Z l h q L f bs x hf hk hL
theorem c_X6_u4N (Z : zT) (l : Launch) (h q L N : Nat) (f : Nat → Int32) (bs : List Int8) (x : Int32) (hf : by_at f bs) (hN : bs.length = N) (hk : N + 4 ≤ L) (hL : L < 2 ^ 31) : Kv Z l yX6_u4 cX6_u4 2 none ({ frames := 0, cells := 0, slots := 0, locals := 0 }) [.ref h, .int x] (skW Z h q L f (nI N)) (fun u => ∃ f', by_at f' (bs ++ u4b x) ∧ u = skW Z h q L f' (nI (N + 4))) := by
  subst hN
  exact c_X6_u4 Z l h q L f bs x hf hk hL
theorem c_X6_varintN (Z : zT) (l : Launch) (h q L N : Nat) (f : Nat → Int32) (bs : List Int8) (x : Int32) (hf : by_at f bs) (hN : bs.length = N) (hk : N + 5 ≤ L) (hL : L < 2 ^ 31) : Kv Z l yX6_varint cX6_varint 5 none ({ frames := 0, cells := 0, slots := 0, locals := 0 }) [.ref h, .int x] (skW Z h q L f (nI N)) (fun u => ∃ f', by_at f' (bs ++ vbs x) ∧ u = skW Z h q L f' (nI (N + (vbs x).length))) := by
  subst hN
  exact c_X6_varint Z l h q L f bs x hf hk hL
set_option maxRecDepth 100000 in
set_option maxHeartbeats 4000000 in
theorem lp_X0_wmI {p : Program} {l : Launch} {e : Env} {s : State} {m : MethodId} {args : Array Value} {below : List Frame} {meth : Method} {c : Code} {Z : zT} {A : Nat → Prop} {h qv qp ql qg c0 n : Nat} {P : Int32} {V pr le gr : Nat → Int32} {sh sq SL : Nat} {fi jm N : Nat} {f : Nat → Int32} {Q : State → Prop} (C : cx p s m args meth c cX0_writeMissing 6 none RX0 "writeMissing") (hc : c0 < 3) (hn : n ≤ 48) (hfi : fi < n) (hjm : jm = min 8 (n - fi)) (kk : ∀ (H : Heap) (locs : List Loc) (ls : Array Slot), wd Z A s (btW Z h qv qp ql qg P (nI n) V pr le gr ++ skW Z sh sq SL f (nI N)) H locs → lv_has ls 6 [(5, .int (nI (fi + jm))), (4, .int (mbits V c0 fi jm)), (3, .int (nI fi)), (0, .ref h), (1, .ref sh), (2, .int (nI c0))] → W p l e ({ frames := 1, cells := 0, slots := 0, locals := 40 }) s m args below meth c H locs 0 0 Q (F0 m 69 ls [])) : ∀ (k j : Nat), j + k = jm → ∀ (H : Heap) (locs : List Loc) (ls : Array Slot), wd Z A s (btW Z h qv qp ql qg P (nI n) V pr le gr ++ skW Z sh sq SL f (nI N)) H locs → lv_has ls 6 [(5, .int (nI (fi + j))), (4, .int (mbits V c0 fi j)), (3, .int (nI fi)), (0, .ref h), (1, .ref sh), (2, .int (nI c0))] → W p l e ({ frames := 1, cells := 0, slots := 0, locals := 40 }) s m args below meth c H locs 0 0 Q (F0 m 16 ls []) := by
  have hx := C.1
  have hb := C.2.1
  have hown := C.2.2.2.2.2.1
  have hts := C.2.2.2.2.2.2.1
  intro k
  induction k with
  | zero =>
    intro j hj H locs ls G hl
    have e0 : j = jm := by omega
    subst e0
    refine lv_iload hx hb dX0_writeMissing_16 (lv_at hl 0 rfl) ?_
    refine lv_iload_n hx hb dX0_writeMissing_18 rfl (lv_at hl 2 rfl) ?_
    refine lv_bipush (v := 8) hx hb dX0_writeMissing_19 (by decide) ?_
    refine lv_iadd hx hb dX0_writeMissing_21 ?_
    refine k_topi (y := nI (fi + 8)) (by exact nI_add fi 8) ?_
    refine lv_icmp_ge (tgt := 69) hx hb dX0_writeMissing_22 (by decide) (fun c_22 => ?_) (fun c_22 => ?_)
    · exact kk _ _ _ G (lv_sub hl [0, 1, 2, 3, 4, 5] rfl)
    · have hj8 : fi + j < fi + 8 := nI_nle_lt c_22 (by omega)
      refine lv_iload hx hb dX0_writeMissing_25 (lv_at hl 0 rfl) ?_
      refine lv_aload_n hx hb dX0_writeMissing_27 rfl (lv_at hl 3 rfl) ?_
      refine k_get (ci := 1) (CC := RX0) (T := TX0) (N := 6) (v := .int (nI n)) C G 0 rfl rfl in_1 1 (by decide) fl_X0_28 rfl rfl dX0_writeMissing_28 ?_
      refine lv_icmp_ge (tgt := 69) hx hb dX0_writeMissing_31 (by decide) (fun c_31 => ?_) (fun c_31 => ?_)
      · exact kk _ _ _ G (lv_sub hl [0, 1, 2, 3, 4, 5] rfl)
      · exact absurd (nI_le (by omega) (by omega)) c_31
  | succ k ih =>
    intro j hj H locs ls G hl
    refine lv_iload hx hb dX0_writeMissing_16 (lv_at hl 0 rfl) ?_
    refine lv_iload_n hx hb dX0_writeMissing_18 rfl (lv_at hl 2 rfl) ?_
    refine lv_bipush (v := 8) hx hb dX0_writeMissing_19 (by decide) ?_
    refine lv_iadd hx hb dX0_writeMissing_21 ?_
    refine k_topi (y := nI (fi + 8)) (by exact nI_add fi 8) ?_
    refine lv_icmp_ge (tgt := 69) hx hb dX0_writeMissing_22 (by decide) (fun c_22 => ?_) (fun c_22 => ?_)
    · exact absurd c_22 (nI_ge (by omega) (by omega))
    · refine lv_iload hx hb dX0_writeMissing_25 (lv_at hl 0 rfl) ?_
      refine lv_aload_n hx hb dX0_writeMissing_27 rfl (lv_at hl 3 rfl) ?_
      refine k_get (ci := 1) (CC := RX0) (T := TX0) (N := 6) (v := .int (nI n)) C G 0 rfl rfl in_1 1 (by decide) fl_X0_28 rfl rfl dX0_writeMissing_28 ?_
      refine lv_icmp_ge (tgt := 69) hx hb dX0_writeMissing_31 (by decide) (fun c_31 => ?_) (fun c_31 => ?_)
      · exact absurd c_31 (nI_ge (by omega) (by omega))
      · refine lv_iload hx hb dX0_writeMissing_34 (lv_at hl 1 rfl) ?_
        refine lv_aload_n hx hb dX0_writeMissing_36 rfl (lv_at hl 3 rfl) ?_
        refine lv_iload_n hx hb dX0_writeMissing_37 rfl (lv_at hl 5 rfl) ?_
        refine lv_iload hx hb dX0_writeMissing_38 (lv_at hl 0 rfl) ?_
        have hX : List.Perm ([(h, .inr (1, [.int P, .int (nI n), .ref qv, .ref qp, .ref ql, .ref qg])), (qv, aI Z 144 V), (qp, aI Z 3 pr), (ql, aI Z 3 le), (qg, aI Z 3 gr), (sh, .inr (7, [.ref sq, .int (nI N)])), (sq, aB Z SL f)]) ([(h, .inr (1, [.int P, .int (nI n), .ref qv, .ref qp, .ref ql, .ref qg])), (qv, aI Z 144 V), (qp, aI Z 3 pr), (ql, aI Z 3 le), (qg, aI Z 3 gr)] ++ ([(sh, .inr (7, [.ref sq, .int (nI N)])), (sq, aB Z SL f)])) := (perm_ix [0, 1, 2, 3, 4, 5, 6] rfl 7 (by decide) rfl)
        refine kc_i (Wc := [(h, .inr (1, [.int P, .int (nI n), .ref qv, .ref qp, .ref ql, .ref qg])), (qv, aI Z 144 V), (qp, aI Z 3 pr), (ql, aI Z 3 le), (qg, aI Z 3 gr)]) (Wr := [(sh, .inr (7, [.ref sq, .int (nI N)])), (sq, aB Z SL f)]) G hX (krV 2 rfl (As := [.int (nI c0), .int (nI (fi + j))]) (rest := [.int (mbits V c0 fi j)]) (ci := 1) (CC := RX0) (T := TX0) (N := 6) C G hX (c_X0_valueAt Z l h qv qp ql qg c0 (fi + j) P (nI n) V pr le gr hc (by omega) _) (gdV ml_X0_41 im_X0_valueAt se_X0_valueAt ii_X0 co_X0_valueAt) (by decide +kernel) ⟨Nat.le_of_ble_eq_true rfl, Nat.le_of_ble_eq_true rfl⟩ rfl 0 rfl hl rfl (Nat.le_of_ble_eq_true rfl) ⟨Nat.le_of_ble_eq_true rfl, Nat.le_of_ble_eq_true rfl⟩ dX0_writeMissing_40) (fun r_40 u H locs hu G => ?_)
        obtain ⟨r_40_e, rfl⟩ := hu
        subst r_40_e
        have G : wd Z A s ([(h, .inr (1, [.int P, .int (nI n), .ref qv, .ref qp, .ref ql, .ref qg])), (qv, aI Z 144 V), (qp, aI Z 3 pr), (ql, aI Z 3 le), (qg, aI Z 3 gr), (sh, .inr (7, [.ref sq, .int (nI N)])), (sq, aB Z SL f)]) H locs := G
        refine lv_ldc (v := (-2147483648)) hx hb hown (hts _ kn_X0_48) dX0_writeMissing_43 ?_
        refine lv_icmp_ne (tgt := 59) hx hb dX0_writeMissing_45 (by decide) (fun c_45 => ?_) (fun c_45 => ?_)
        · refine lv_iconst (v := 0) hx hb dX0_writeMissing_59 (by decide) ?_
          refine lv_ior hx hb dX0_writeMissing_60 ?_
          refine k_topi (y := mbits V c0 fi (j + 1)) (by rw [mbits, if_neg c_45]) ?_
          refine lv_istore (lv' := [(4, .int (mbits V c0 fi (j + 1))), (5, .int (nI (fi + j))), (3, .int (nI fi)), (0, .ref h), (1, .ref sh), (2, .int (nI c0))]) hx hb dX0_writeMissing_61 hl (by decide) rfl (fun ls hl => ?_)
          refine lv_iinc (v := nI (fi + j + 1)) (lv' := [(5, .int (nI (fi + j + 1))), (4, .int (mbits V c0 fi (j + 1))), (3, .int (nI fi)), (0, .ref h), (1, .ref sh), (2, .int (nI c0))]) hx hb dX0_writeMissing_63 hl (k := 1) rfl (nI_1 _) (by decide) rfl (fun ls hl => ?_)
          refine lv_goto (tgt := 16) hx hb dX0_writeMissing_66 (by decide) ?_
          exact ih (j + 1) (by omega) _ _ _ G (lv_sub hl [0, 1, 2, 3, 4, 5] rfl)
        · refine lv_sipush (v := 128) hx hb dX0_writeMissing_48 (by decide) ?_
          refine lv_iload hx hb dX0_writeMissing_51 (lv_at hl 0 rfl) ?_
          refine lv_iload_n hx hb dX0_writeMissing_53 rfl (lv_at hl 2 rfl) ?_
          refine lv_isub hx hb dX0_writeMissing_54 ?_
          refine k_topi (y := nI j) (by rw [pk_sub (by omega), Nat.add_sub_cancel_left]) ?_
          refine lv_ishr hx hb dX0_writeMissing_55 ?_
          refine lv_goto (tgt := 60) hx hb dX0_writeMissing_56 (by decide) ?_
          refine lv_ior hx hb dX0_writeMissing_60 ?_
          refine k_topi (y := mbits V c0 fi (j + 1)) (by rw [mbits, if_pos c_45]) ?_
          refine lv_istore (lv' := [(4, .int (mbits V c0 fi (j + 1))), (5, .int (nI (fi + j))), (3, .int (nI fi)), (0, .ref h), (1, .ref sh), (2, .int (nI c0))]) hx hb dX0_writeMissing_61 hl (by decide) rfl (fun ls hl => ?_)
          refine lv_iinc (v := nI (fi + j + 1)) (lv' := [(5, .int (nI (fi + j + 1))), (4, .int (mbits V c0 fi (j + 1))), (3, .int (nI fi)), (0, .ref h), (1, .ref sh), (2, .int (nI c0))]) hx hb dX0_writeMissing_63 hl (k := 1) rfl (nI_1 _) (by decide) rfl (fun ls hl => ?_)
          refine lv_goto (tgt := 16) hx hb dX0_writeMissing_66 (by decide) ?_
          exact ih (j + 1) (by omega) _ _ _ G (lv_sub hl [0, 1, 2, 3, 4, 5] rfl)
set_option maxRecDepth 100000 in
set_option maxHeartbeats 4000000 in
theorem lp_X0_wmO {p : Program} {l : Launch} {e : Env} {s : State} {m : MethodId} {args : Array Value} {below : List Frame} {meth : Method} {c : Code} {Z : zT} {A : Nat → Prop} {h qv qp ql qg c0 n : Nat} {P : Int32} {V pr le gr : Nat → Int32} {sh sq SL : Nat} {bs : List Int8} {post : va_W → Prop} (C : cx p s m args meth c cX0_writeMissing 6 none RX0 "writeMissing") (hc : c0 < 3) (hn : n ≤ 48) (hk : bs.length + (n + 7) / 8 ≤ SL) (hL : SL < 2 ^ 31) (hp : ∀ f, by_at f (bs ++ mBs V c0 n ((n + 7) / 8)) → post (btW Z h qv qp ql qg P (nI n) V pr le gr ++ skW Z sh sq SL f (nI (bs.length + (n + 7) / 8)))) : ∀ (k t : Nat) (f : Nat → Int32), t + k = (n + 7) / 8 → by_at f (bs ++ mBs V c0 n t) → ∀ (H : Heap) (locs : List Loc) (ls : Array Slot), wd Z A s (btW Z h qv qp ql qg P (nI n) V pr le gr ++ skW Z sh sq SL f (nI (bs.length + t))) H locs → lv_has ls 6 [(3, .int (nI (8 * t))), (0, .ref h), (1, .ref sh), (2, .int (nI c0))] → W p l e ({ frames := 1, cells := 0, slots := 0, locals := 40 }) s m args below meth c H locs 0 0 (MQ below (va_Qv post (mB Z A) A) args s 0 0 A) (F0 m 2 ls []) := by
  have hx := C.1
  have hb := C.2.1
  have hown := C.2.2.2.2.2.1
  have hts := C.2.2.2.2.2.2.1
  intro k
  induction k with
  | zero =>
    intro t f ht hf H locs ls G hl
    have e0 : t = (n + 7) / 8 := by omega
    rw [← e0] at hp
    refine lv_iload_n hx hb dX0_writeMissing_2 rfl (lv_at hl 0 rfl) ?_
    refine lv_aload_n hx hb dX0_writeMissing_3 rfl (lv_at hl 1 rfl) ?_
    refine k_get (ci := 1) (CC := RX0) (T := TX0) (N := 6) (v := .int (nI n)) C G 0 rfl rfl in_1 1 (by decide) fl_X0_28 rfl rfl dX0_writeMissing_4 ?_
    refine lv_icmp_ge (tgt := 81) hx hb dX0_writeMissing_7 (by decide) (fun c_7 => ?_) (fun c_7 => ?_)
    · exact kr_v C G (hp f hf) (Nat.le_of_ble_eq_true rfl) (Nat.le_of_ble_eq_true rfl) dX0_writeMissing_81
    · exact absurd (nI_le (by omega) (by omega)) c_7
  | succ k ih =>
    intro t f ht hf H locs ls G hl
    refine lv_iload_n hx hb dX0_writeMissing_2 rfl (lv_at hl 0 rfl) ?_
    refine lv_aload_n hx hb dX0_writeMissing_3 rfl (lv_at hl 1 rfl) ?_
    refine k_get (ci := 1) (CC := RX0) (T := TX0) (N := 6) (v := .int (nI n)) C G 0 rfl rfl in_1 1 (by decide) fl_X0_28 rfl rfl dX0_writeMissing_4 ?_
    refine lv_icmp_ge (tgt := 81) hx hb dX0_writeMissing_7 (by decide) (fun c_7 => ?_) (fun c_7 => ?_)
    · exact absurd c_7 (nI_ge (by omega) (by omega))
    · refine lv_iconst (v := 0) hx hb dX0_writeMissing_10 (by decide) ?_
      refine lv_istore (lv' := [(4, .int 0), (3, .int (nI (8 * t))), (0, .ref h), (1, .ref sh), (2, .int (nI c0))]) hx hb dX0_writeMissing_11 hl (by decide) rfl (fun ls hl => ?_)
      refine lv_iload_n hx hb dX0_writeMissing_13 rfl (lv_at hl 1 rfl) ?_
      refine lv_istore (lv' := [(5, .int (nI (8 * t))), (4, .int 0), (3, .int (nI (8 * t))), (0, .ref h), (1, .ref sh), (2, .int (nI c0))]) hx hb dX0_writeMissing_14 hl (by decide) rfl (fun ls hl => ?_)
      refine lp_X0_wmI (fi := 8 * t) (N := bs.length + t) (f := f) C hc hn (by omega) rfl (fun H locs ls G hl => ?_) (min 8 (n - 8 * t)) 0 (by omega) _ _ _ G (lv_sub hl [0, 1, 2, 3, 4, 5] rfl)
      refine lv_aload_n hx hb dX0_writeMissing_69 rfl (lv_at hl 4 rfl) ?_
      refine lv_iload hx hb dX0_writeMissing_70 (lv_at hl 1 rfl) ?_
      have hX : List.Perm ([(h, .inr (1, [.int P, .int (nI n), .ref qv, .ref qp, .ref ql, .ref qg])), (qv, aI Z 144 V), (qp, aI Z 3 pr), (ql, aI Z 3 le), (qg, aI Z 3 gr), (sh, .inr (7, [.ref sq, .int (nI (bs.length + t))])), (sq, aB Z SL f)]) ([(sh, .inr (7, [.ref sq, .int (nI (bs.length + t))])), (sq, aB Z SL f)] ++ ([(h, .inr (1, [.int P, .int (nI n), .ref qv, .ref qp, .ref ql, .ref qg])), (qv, aI Z 144 V), (qp, aI Z 3 pr), (ql, aI Z 3 le), (qg, aI Z 3 gr)])) := (perm_ix [5, 6, 0, 1, 2, 3, 4] rfl 7 (by decide) rfl)
      refine kc_v (Wc := [(sh, .inr (7, [.ref sq, .int (nI (bs.length + t))])), (sq, aB Z SL f)]) (Wr := [(h, .inr (1, [.int P, .int (nI n), .ref qv, .ref qp, .ref ql, .ref qg])), (qv, aI Z 144 V), (qp, aI Z 3 pr), (ql, aI Z 3 le), (qg, aI Z 3 gr)]) G hX (krV 1 rfl (As := [.int (mbits V c0 (8 * t) (min 8 (n - 8 * t)))]) (rest := []) (ci := 7) (CC := RX6) (T := TX6) (N := 2) C G hX (c_X6_u1N Z l sh sq SL (bs.length + t) f (bs ++ mBs V c0 n t) (mbits V c0 (8 * t) (min 8 (n - 8 * t))) hf (by rw [List.length_append, mBs_len]) (by omega) hL _) (gdV ml_X0_58 im_X6_u1 se_X6_u1 ii_X6 co_X6_u1) (by decide +kernel) ⟨Nat.le_of_ble_eq_true rfl, Nat.le_of_ble_eq_true rfl⟩ rfl 0 rfl hl rfl (Nat.le_of_ble_eq_true rfl) ⟨Nat.le_of_ble_eq_true rfl, Nat.le_of_ble_eq_true rfl⟩ dX0_writeMissing_72) (fun u H locs hu G => ?_)
      obtain ⟨f', hf', rfl⟩ := hu
      have G : wd Z A s ([(h, .inr (1, [.int P, .int (nI n), .ref qv, .ref qp, .ref ql, .ref qg])), (qv, aI Z 144 V), (qp, aI Z 3 pr), (ql, aI Z 3 le), (qg, aI Z 3 gr), (sh, .inr (7, [.ref sq, .int (nI (bs.length + (t + 1)))])), (sq, aB Z SL f')]) H locs := G.perm (perm_ix [2, 3, 4, 5, 6, 0, 1] rfl 7 (by decide) rfl)
      refine lv_iinc (v := nI (8 * t + 8)) (lv' := [(3, .int (nI (8 * t + 8))), (5, .int (nI (8 * t + min 8 (n - 8 * t)))), (4, .int (mbits V c0 (8 * t) (min 8 (n - 8 * t)))), (0, .ref h), (1, .ref sh), (2, .int (nI c0))]) hx hb dX0_writeMissing_75 hl (k := 2) rfl (nI_add _ 8) (by decide) rfl (fun ls hl => ?_)
      refine lv_goto (tgt := 2) hx hb dX0_writeMissing_78 (by decide) ?_
      exact ih (t + 1) f' (by omega) (by rw [mBs_s, ← List.append_assoc]; exact hf') _ _ _ G (lv_sub hl [0, 3, 4, 5] rfl)
set_option maxRecDepth 100000 in
set_option maxHeartbeats 4000000 in
theorem c_X0_writeMissing (Z : zT) (l : Launch) (h qv qp ql qg c0 n sh sq SL : Nat) (P : Int32) (V pr le gr f : Nat → Int32) (bs : List Int8) (hc : c0 < 3) (hn : n ≤ 48) (hf : by_at f bs) (hk : bs.length + (n + 7) / 8 ≤ SL) (hL : SL < 2 ^ 31) : Kv Z l yX0_writeMissing cX0_writeMissing 6 none ({ frames := 1, cells := 0, slots := 0, locals := 40 }) [.ref h, .ref sh, .int (nI c0)] (btW Z h qv qp ql qg P (nI n) V pr le gr ++ skW Z sh sq SL f (nI bs.length)) (fun u => ∃ f', by_at f' (bs ++ mBs V c0 n ((n + 7) / 8)) ∧ u = btW Z h qv qp ql qg P (nI n) V pr le gr ++ skW Z sh sq SL f' (nI (bs.length + (n + 7) / 8))) := by
  intro sz
  refine Met.ofK (cc := cX0_writeMissing) (maxL := 6) (ret := none) (by decide) (Nat.le_of_ble_eq_true rfl) ?_
  intro p e s m below meth c ls C G hl
  generalize va_A _ sz = A at G ⊢
  have hx := C.1
  have hb := C.2.1
  have hown := C.2.2.2.2.2.1
  have hts := C.2.2.2.2.2.2.1
  refine lv_iconst (v := 0) hx hb dX0_writeMissing_0 (by decide) ?_
  refine lv_istore_n (lv' := [(3, .int 0), (0, .ref h), (1, .ref sh), (2, .int (nI c0))]) hx hb dX0_writeMissing_1 rfl hl (by decide) rfl (fun ls hl => ?_)
  exact lp_X0_wmO C hc hn hk hL (fun f hf => ⟨f, hf, rfl⟩) ((n + 7) / 8) 0 f (by omega) (by simpa [mBs] using hf) _ _ _ G (lv_sub hl [0, 1, 2, 3] rfl)
set_option maxRecDepth 100000 in
set_option maxHeartbeats 4000000 in
theorem lp_X0_writeRuns {p : Program} {l : Launch} {e : Env} {s : State} {m : MethodId} {args : Array Value} {below : List Frame} {meth : Method} {c : Code} {Z : zT} {A : Nat → Prop} {h qv qp ql qg c0 n : Nat} {P : Int32} {V pr le gr : Nat → Int32} {sh sq SL : Nat} {bs : List Int8} {post : va_W → Prop} (C : cx p s m args meth c cX0_writeRuns 7 none RX0 "writeRuns") (hc : c0 < 3) (hn : n ≤ 48) (hk : bs.length + (swF (col V c0 n)).2.1 ≤ SL) (hL : SL < 2 ^ 31) (hp : ∀ (f : Nat → Int32) (N : Nat), by_at f (bs ++ rnB (col V c0 n)) → N = bs.length + (rnB (col V c0 n)).length → post (btW Z h qv qp ql qg P (nI n) V pr le gr ++ skW Z sh sq SL f (nI N))) : ∀ (k i : Nat) (o : List Int8) (len : Nat) (lk : Int32) (f : Nat → Int32), i + k = n → (o, len, lk) = rnF (col V c0 i) → by_at f (bs ++ o) → ∀ (H : Heap) (locs : List Loc) (ls : Array Slot), wd Z A s (btW Z h qv qp ql qg P (nI n) V pr le gr ++ skW Z sh sq SL f (nI (bs.length + o.length))) H locs → lv_has ls 7 [(5, .int (nI i)), (4, .int lk), (3, .int (nI len)), (0, .ref h), (1, .ref sh), (2, .int (nI c0))] → W p l e ({ frames := 1, cells := 0, slots := 0, locals := 40 }) s m args below meth c H locs 0 0 (MQ below (va_Qv post (mB Z A) A) args s 0 0 A) (F0 m 8 ls []) := by
  have hx := C.1
  have hb := C.2.1
  have hown := C.2.2.2.2.2.1
  have hts := C.2.2.2.2.2.2.1
  intro k
  induction k with
  | zero =>
    intro i o len lk f hi hs hf H locs ls G hl
    obtain ⟨-, -, -, hr4, hr5⟩ := rn_sw i V c0
    have hr6 := (sw_mono V c0 (i := i) (n - i)).2.1
    rw [show i + (n - i) = n by omega] at hr6
    rw [← hs] at hr4 hr5
    dsimp only at hr4 hr5
    have e0 : i = n := by omega
    rw [e0] at hs
    refine lv_iload hx hb dX0_writeRuns_8 (lv_at hl 0 rfl) ?_
    refine lv_aload_n hx hb dX0_writeRuns_10 rfl (lv_at hl 3 rfl) ?_
    refine k_get (ci := 1) (CC := RX0) (T := TX0) (N := 6) (v := .int (nI n)) C G 0 rfl rfl in_1 1 (by decide) fl_X0_28 rfl rfl dX0_writeRuns_11 ?_
    refine lv_icmp_ge (tgt := 73) hx hb dX0_writeRuns_14 (by decide) (fun c_14 => ?_) (fun c_14 => ?_)
    · refine lv_iload_n hx hb dX0_writeRuns_73 rfl (lv_at hl 2 rfl) ?_
      refine lv_if_le (tgt := 88) hx hb dX0_writeRuns_74 (by decide) (fun c_74 => ?_) (fun c_74 => ?_)
      · exact kr_v C G (hp f _ (by rw [rnB, ← hs, rnE, if_neg ((nI_le0 (by omega)).mp c_74)]; exact hf) (by rw [rnB, ← hs, rnE, if_neg ((nI_le0 (by omega)).mp c_74)])) (Nat.le_of_ble_eq_true rfl) (Nat.le_of_ble_eq_true rfl) dX0_writeRuns_88
      · have hlen2 : 0 < len := Decidable.byContradiction (fun z => c_74 ((nI_le0 (by omega)).mpr z))
        rw [if_pos hlen2] at hr5
        refine lv_aload_n hx hb dX0_writeRuns_77 rfl (lv_at hl 4 rfl) ?_
        refine lv_iload_n hx hb dX0_writeRuns_78 rfl (lv_at hl 2 rfl) ?_
        have hX : List.Perm ([(h, .inr (1, [.int P, .int (nI n), .ref qv, .ref qp, .ref ql, .ref qg])), (qv, aI Z 144 V), (qp, aI Z 3 pr), (ql, aI Z 3 le), (qg, aI Z 3 gr), (sh, .inr (7, [.ref sq, .int (nI (bs.length + o.length))])), (sq, aB Z SL f)]) ([(sh, .inr (7, [.ref sq, .int (nI (bs.length + o.length))])), (sq, aB Z SL f)] ++ ([(h, .inr (1, [.int P, .int (nI n), .ref qv, .ref qp, .ref ql, .ref qg])), (qv, aI Z 144 V), (qp, aI Z 3 pr), (ql, aI Z 3 le), (qg, aI Z 3 gr)])) := (perm_ix [5, 6, 0, 1, 2, 3, 4] rfl 7 (by decide) rfl)
        refine kc_v (Wc := [(sh, .inr (7, [.ref sq, .int (nI (bs.length + o.length))])), (sq, aB Z SL f)]) (Wr := [(h, .inr (1, [.int P, .int (nI n), .ref qv, .ref qp, .ref ql, .ref qg])), (qv, aI Z 144 V), (qp, aI Z 3 pr), (ql, aI Z 3 le), (qg, aI Z 3 gr)]) G hX (krV 1 rfl (As := [.int (nI len)]) (rest := []) (ci := 7) (CC := RX6) (T := TX6) (N := 2) C G hX (c_X6_u1N Z l sh sq SL (bs.length + o.length) f (bs ++ o) (nI len) hf (by rw [List.length_append]) (by omega) hL _) (gdV ml_X0_58 im_X6_u1 se_X6_u1 ii_X6 co_X6_u1) (by decide +kernel) ⟨Nat.le_of_ble_eq_true rfl, Nat.le_of_ble_eq_true rfl⟩ rfl 0 rfl hl rfl (Nat.le_of_ble_eq_true rfl) ⟨Nat.le_of_ble_eq_true rfl, Nat.le_of_ble_eq_true rfl⟩ dX0_writeRuns_79) (fun u H locs hu G => ?_)
        obtain ⟨f1, hf1, rfl⟩ := hu
        have G : wd Z A s ([(h, .inr (1, [.int P, .int (nI n), .ref qv, .ref qp, .ref ql, .ref qg])), (qv, aI Z 144 V), (qp, aI Z 3 pr), (ql, aI Z 3 le), (qg, aI Z 3 gr), (sh, .inr (7, [.ref sq, .int (nI (bs.length + o.length + 1))])), (sq, aB Z SL f1)]) H locs := G.perm (perm_ix [2, 3, 4, 5, 6, 0, 1] rfl 7 (by decide) rfl)
        refine lv_aload_n hx hb dX0_writeRuns_82 rfl (lv_at hl 4 rfl) ?_
        refine lv_iload hx hb dX0_writeRuns_83 (lv_at hl 1 rfl) ?_
        have hX : List.Perm ([(h, .inr (1, [.int P, .int (nI n), .ref qv, .ref qp, .ref ql, .ref qg])), (qv, aI Z 144 V), (qp, aI Z 3 pr), (ql, aI Z 3 le), (qg, aI Z 3 gr), (sh, .inr (7, [.ref sq, .int (nI (bs.length + o.length + 1))])), (sq, aB Z SL f1)]) ([(sh, .inr (7, [.ref sq, .int (nI (bs.length + o.length + 1))])), (sq, aB Z SL f1)] ++ ([(h, .inr (1, [.int P, .int (nI n), .ref qv, .ref qp, .ref ql, .ref qg])), (qv, aI Z 144 V), (qp, aI Z 3 pr), (ql, aI Z 3 le), (qg, aI Z 3 gr)])) := (perm_ix [5, 6, 0, 1, 2, 3, 4] rfl 7 (by decide) rfl)
        refine kc_v (Wc := [(sh, .inr (7, [.ref sq, .int (nI (bs.length + o.length + 1))])), (sq, aB Z SL f1)]) (Wr := [(h, .inr (1, [.int P, .int (nI n), .ref qv, .ref qp, .ref ql, .ref qg])), (qv, aI Z 144 V), (qp, aI Z 3 pr), (ql, aI Z 3 le), (qg, aI Z 3 gr)]) G hX (krV 1 rfl (As := [.int lk]) (rest := []) (ci := 7) (CC := RX6) (T := TX6) (N := 2) C G hX (c_X6_u4N Z l sh sq SL (bs.length + o.length + 1) f1 (bs ++ o ++ [(nI len).toInt8]) lk hf1 (by rw [List.length_append, List.length_append]; rfl) (by omega) hL _) (gdV ml_X0_76 im_X6_u4 se_X6_u4 ii_X6 co_X6_u4) (by decide +kernel) ⟨Nat.le_of_ble_eq_true rfl, Nat.le_of_ble_eq_true rfl⟩ rfl 0 rfl hl rfl (Nat.le_of_ble_eq_true rfl) ⟨Nat.le_of_ble_eq_true rfl, Nat.le_of_ble_eq_true rfl⟩ dX0_writeRuns_85) (fun u H locs hu G => ?_)
        obtain ⟨f2, hf2, rfl⟩ := hu
        have G : wd Z A s ([(h, .inr (1, [.int P, .int (nI n), .ref qv, .ref qp, .ref ql, .ref qg])), (qv, aI Z 144 V), (qp, aI Z 3 pr), (ql, aI Z 3 le), (qg, aI Z 3 gr), (sh, .inr (7, [.ref sq, .int (nI (bs.length + o.length + 1 + 4))])), (sq, aB Z SL f2)]) H locs := G.perm (perm_ix [2, 3, 4, 5, 6, 0, 1] rfl 7 (by decide) rfl)
        have hlen : 0 < len := Decidable.byContradiction (fun z => c_74 ((nI_le0 (by omega)).mpr z))
        exact kr_v C G (hp f2 _ (by rw [rnB, ← hs, rnE, if_pos hlen, ← List.append_assoc, ← List.append_assoc]; exact hf2) (by rw [rnB, ← hs, rnE, if_pos hlen]; simp only [List.length_append, List.length_singleton, u4b_len, ← Nat.add_assoc])) (Nat.le_of_ble_eq_true rfl) (Nat.le_of_ble_eq_true rfl) dX0_writeRuns_88
    · exact absurd (nI_le (by omega) (by omega)) c_14
  | succ k ih =>
    intro i o len lk f hi hs hf H locs ls G hl
    obtain ⟨-, -, -, hr4, hr5⟩ := rn_sw i V c0
    have hr6 := (sw_mono V c0 (i := i) (n - i)).2.1
    rw [show i + (n - i) = n by omega] at hr6
    rw [← hs] at hr4 hr5
    dsimp only at hr4 hr5
    refine lv_iload hx hb dX0_writeRuns_8 (lv_at hl 0 rfl) ?_
    refine lv_aload_n hx hb dX0_writeRuns_10 rfl (lv_at hl 3 rfl) ?_
    refine k_get (ci := 1) (CC := RX0) (T := TX0) (N := 6) (v := .int (nI n)) C G 0 rfl rfl in_1 1 (by decide) fl_X0_28 rfl rfl dX0_writeRuns_11 ?_
    refine lv_icmp_ge (tgt := 73) hx hb dX0_writeRuns_14 (by decide) (fun c_14 => ?_) (fun c_14 => ?_)
    · exact absurd c_14 (nI_ge (by omega) (by omega))
    · refine lv_aload_n hx hb dX0_writeRuns_17 rfl (lv_at hl 3 rfl) ?_
      refine lv_iload_n hx hb dX0_writeRuns_18 rfl (lv_at hl 5 rfl) ?_
      refine lv_iload hx hb dX0_writeRuns_19 (lv_at hl 0 rfl) ?_
      have hX : List.Perm ([(h, .inr (1, [.int P, .int (nI n), .ref qv, .ref qp, .ref ql, .ref qg])), (qv, aI Z 144 V), (qp, aI Z 3 pr), (ql, aI Z 3 le), (qg, aI Z 3 gr), (sh, .inr (7, [.ref sq, .int (nI (bs.length + o.length))])), (sq, aB Z SL f)]) ([(h, .inr (1, [.int P, .int (nI n), .ref qv, .ref qp, .ref ql, .ref qg])), (qv, aI Z 144 V), (qp, aI Z 3 pr), (ql, aI Z 3 le), (qg, aI Z 3 gr)] ++ ([(sh, .inr (7, [.ref sq, .int (nI (bs.length + o.length))])), (sq, aB Z SL f)])) := (perm_ix [0, 1, 2, 3, 4, 5, 6] rfl 7 (by decide) rfl)
      refine kc_i (Wc := [(h, .inr (1, [.int P, .int (nI n), .ref qv, .ref qp, .ref ql, .ref qg])), (qv, aI Z 144 V), (qp, aI Z 3 pr), (ql, aI Z 3 le), (qg, aI Z 3 gr)]) (Wr := [(sh, .inr (7, [.ref sq, .int (nI (bs.length + o.length))])), (sq, aB Z SL f)]) G hX (krV 2 rfl (As := [.int (nI c0), .int (nI i)]) (rest := []) (ci := 1) (CC := RX0) (T := TX0) (N := 6) C G hX (c_X0_valueAt Z l h qv qp ql qg c0 (i) P (nI n) V pr le gr hc (by omega) _) (gdV ml_X0_41 im_X0_valueAt se_X0_valueAt ii_X0 co_X0_valueAt) (by decide +kernel) ⟨Nat.le_of_ble_eq_true rfl, Nat.le_of_ble_eq_true rfl⟩ rfl 0 rfl hl rfl (Nat.le_of_ble_eq_true rfl) ⟨Nat.le_of_ble_eq_true rfl, Nat.le_of_ble_eq_true rfl⟩ dX0_writeRuns_21) (fun r_21 u H locs hu G => ?_)
      obtain ⟨r_21_e, rfl⟩ := hu
      subst r_21_e
      have G : wd Z A s ([(h, .inr (1, [.int P, .int (nI n), .ref qv, .ref qp, .ref ql, .ref qg])), (qv, aI Z 144 V), (qp, aI Z 3 pr), (ql, aI Z 3 le), (qg, aI Z 3 gr), (sh, .inr (7, [.ref sq, .int (nI (bs.length + o.length))])), (sq, aB Z SL f)]) H locs := G
      refine lv_istore (lv' := [(6, .int (V (48 * c0 + i))), (5, .int (nI i)), (4, .int lk), (3, .int (nI len)), (0, .ref h), (1, .ref sh), (2, .int (nI c0))]) hx hb dX0_writeRuns_24 hl (by decide) rfl (fun ls hl => ?_)
      refine lv_iload hx hb dX0_writeRuns_26 (lv_at hl 0 rfl) ?_
      refine lv_ldc (v := (-2147483648)) hx hb hown (hts _ kn_X0_48) dX0_writeRuns_28 ?_
      refine lv_icmp_ne (tgt := 36) hx hb dX0_writeRuns_30 (by decide) (fun c_30 => ?_) (fun c_30 => ?_)
      · refine lv_iload_n hx hb dX0_writeRuns_36 rfl (lv_at hl 3 rfl) ?_
        refine lv_if_le (tgt := 60) hx hb dX0_writeRuns_37 (by decide) (fun c_37 => ?_) (fun c_37 => ?_)
        · refine lv_iload hx hb dX0_writeRuns_60 (lv_at hl 0 rfl) ?_
          refine lv_istore (lv' := [(4, .int (V (48 * c0 + i))), (6, .int (V (48 * c0 + i))), (5, .int (nI i)), (3, .int (nI len)), (0, .ref h), (1, .ref sh), (2, .int (nI c0))]) hx hb dX0_writeRuns_62 hl (by decide) rfl (fun ls hl => ?_)
          refine lv_iinc (v := nI (len + 1)) (lv' := [(3, .int (nI (len + 1))), (4, .int (V (48 * c0 + i))), (6, .int (V (48 * c0 + i))), (5, .int (nI i)), (0, .ref h), (1, .ref sh), (2, .int (nI c0))]) hx hb dX0_writeRuns_64 hl (k := 3) rfl (nI_1 _) (by decide) rfl (fun ls hl => ?_)
          refine lv_iinc (v := nI (i + 1)) (lv' := [(5, .int (nI (i + 1))), (3, .int (nI (len + 1))), (4, .int (V (48 * c0 + i))), (6, .int (V (48 * c0 + i))), (0, .ref h), (1, .ref sh), (2, .int (nI c0))]) hx hb dX0_writeRuns_67 hl (k := 3) rfl (nI_1 _) (by decide) rfl (fun ls hl => ?_)
          refine lv_goto (tgt := 8) hx hb dX0_writeRuns_70 (by decide) ?_
          exact ih (i + 1) o (len + 1) (V (48 * c0 + i)) f (by omega) (by rw [col_s, rnF_s, ← hs, rnS, if_neg c_30, if_neg (fun z => (nI_le0 (by omega)).mp c_37 z.1)]) hf _ _ _ G (lv_sub hl [0, 2, 1, 4, 5, 6] rfl)
        · refine lv_iload hx hb dX0_writeRuns_40 (lv_at hl 0 rfl) ?_
          refine lv_iload hx hb dX0_writeRuns_42 (lv_at hl 2 rfl) ?_
          refine lv_icmp_eq (tgt := 60) hx hb dX0_writeRuns_44 (by decide) (fun c_44 => ?_) (fun c_44 => ?_)
          · refine lv_iload hx hb dX0_writeRuns_60 (lv_at hl 0 rfl) ?_
            refine lv_istore (lv' := [(4, .int (V (48 * c0 + i))), (6, .int (V (48 * c0 + i))), (5, .int (nI i)), (3, .int (nI len)), (0, .ref h), (1, .ref sh), (2, .int (nI c0))]) hx hb dX0_writeRuns_62 hl (by decide) rfl (fun ls hl => ?_)
            refine lv_iinc (v := nI (len + 1)) (lv' := [(3, .int (nI (len + 1))), (4, .int (V (48 * c0 + i))), (6, .int (V (48 * c0 + i))), (5, .int (nI i)), (0, .ref h), (1, .ref sh), (2, .int (nI c0))]) hx hb dX0_writeRuns_64 hl (k := 3) rfl (nI_1 _) (by decide) rfl (fun ls hl => ?_)
            refine lv_iinc (v := nI (i + 1)) (lv' := [(5, .int (nI (i + 1))), (3, .int (nI (len + 1))), (4, .int (V (48 * c0 + i))), (6, .int (V (48 * c0 + i))), (0, .ref h), (1, .ref sh), (2, .int (nI c0))]) hx hb dX0_writeRuns_67 hl (k := 3) rfl (nI_1 _) (by decide) rfl (fun ls hl => ?_)
            refine lv_goto (tgt := 8) hx hb dX0_writeRuns_70 (by decide) ?_
            exact ih (i + 1) o (len + 1) (V (48 * c0 + i)) f (by omega) (by rw [col_s, rnF_s, ← hs, rnS, if_neg c_30, if_neg (fun z => z.2 c_44)]) hf _ _ _ G (lv_sub hl [0, 2, 1, 4, 5, 6] rfl)
          · have hlen : 0 < len := Decidable.byContradiction (fun z => c_37 ((nI_le0 (by omega)).mpr z))
            rw [if_pos hlen] at hr5
            refine lv_aload_n hx hb dX0_writeRuns_47 rfl (lv_at hl 5 rfl) ?_
            refine lv_iload_n hx hb dX0_writeRuns_48 rfl (lv_at hl 3 rfl) ?_
            have hX : List.Perm ([(h, .inr (1, [.int P, .int (nI n), .ref qv, .ref qp, .ref ql, .ref qg])), (qv, aI Z 144 V), (qp, aI Z 3 pr), (ql, aI Z 3 le), (qg, aI Z 3 gr), (sh, .inr (7, [.ref sq, .int (nI (bs.length + o.length))])), (sq, aB Z SL f)]) ([(sh, .inr (7, [.ref sq, .int (nI (bs.length + o.length))])), (sq, aB Z SL f)] ++ ([(h, .inr (1, [.int P, .int (nI n), .ref qv, .ref qp, .ref ql, .ref qg])), (qv, aI Z 144 V), (qp, aI Z 3 pr), (ql, aI Z 3 le), (qg, aI Z 3 gr)])) := (perm_ix [5, 6, 0, 1, 2, 3, 4] rfl 7 (by decide) rfl)
            refine kc_v (Wc := [(sh, .inr (7, [.ref sq, .int (nI (bs.length + o.length))])), (sq, aB Z SL f)]) (Wr := [(h, .inr (1, [.int P, .int (nI n), .ref qv, .ref qp, .ref ql, .ref qg])), (qv, aI Z 144 V), (qp, aI Z 3 pr), (ql, aI Z 3 le), (qg, aI Z 3 gr)]) G hX (krV 1 rfl (As := [.int (nI len)]) (rest := []) (ci := 7) (CC := RX6) (T := TX6) (N := 2) C G hX (c_X6_u1N Z l sh sq SL (bs.length + o.length) f (bs ++ o) (nI len) hf (by rw [List.length_append]) (by omega) hL _) (gdV ml_X0_58 im_X6_u1 se_X6_u1 ii_X6 co_X6_u1) (by decide +kernel) ⟨Nat.le_of_ble_eq_true rfl, Nat.le_of_ble_eq_true rfl⟩ rfl 0 rfl hl rfl (Nat.le_of_ble_eq_true rfl) ⟨Nat.le_of_ble_eq_true rfl, Nat.le_of_ble_eq_true rfl⟩ dX0_writeRuns_49) (fun u H locs hu G => ?_)
            obtain ⟨f1, hf1, rfl⟩ := hu
            have G : wd Z A s ([(h, .inr (1, [.int P, .int (nI n), .ref qv, .ref qp, .ref ql, .ref qg])), (qv, aI Z 144 V), (qp, aI Z 3 pr), (ql, aI Z 3 le), (qg, aI Z 3 gr), (sh, .inr (7, [.ref sq, .int (nI (bs.length + o.length + 1))])), (sq, aB Z SL f1)]) H locs := G.perm (perm_ix [2, 3, 4, 5, 6, 0, 1] rfl 7 (by decide) rfl)
            refine lv_aload_n hx hb dX0_writeRuns_52 rfl (lv_at hl 5 rfl) ?_
            refine lv_iload hx hb dX0_writeRuns_53 (lv_at hl 2 rfl) ?_
            have hX : List.Perm ([(h, .inr (1, [.int P, .int (nI n), .ref qv, .ref qp, .ref ql, .ref qg])), (qv, aI Z 144 V), (qp, aI Z 3 pr), (ql, aI Z 3 le), (qg, aI Z 3 gr), (sh, .inr (7, [.ref sq, .int (nI (bs.length + o.length + 1))])), (sq, aB Z SL f1)]) ([(sh, .inr (7, [.ref sq, .int (nI (bs.length + o.length + 1))])), (sq, aB Z SL f1)] ++ ([(h, .inr (1, [.int P, .int (nI n), .ref qv, .ref qp, .ref ql, .ref qg])), (qv, aI Z 144 V), (qp, aI Z 3 pr), (ql, aI Z 3 le), (qg, aI Z 3 gr)])) := (perm_ix [5, 6, 0, 1, 2, 3, 4] rfl 7 (by decide) rfl)
            refine kc_v (Wc := [(sh, .inr (7, [.ref sq, .int (nI (bs.length + o.length + 1))])), (sq, aB Z SL f1)]) (Wr := [(h, .inr (1, [.int P, .int (nI n), .ref qv, .ref qp, .ref ql, .ref qg])), (qv, aI Z 144 V), (qp, aI Z 3 pr), (ql, aI Z 3 le), (qg, aI Z 3 gr)]) G hX (krV 1 rfl (As := [.int lk]) (rest := []) (ci := 7) (CC := RX6) (T := TX6) (N := 2) C G hX (c_X6_u4N Z l sh sq SL (bs.length + o.length + 1) f1 (bs ++ o ++ [(nI len).toInt8]) lk hf1 (by rw [List.length_append, List.length_append]; rfl) (by omega) hL _) (gdV ml_X0_76 im_X6_u4 se_X6_u4 ii_X6 co_X6_u4) (by decide +kernel) ⟨Nat.le_of_ble_eq_true rfl, Nat.le_of_ble_eq_true rfl⟩ rfl 0 rfl hl rfl (Nat.le_of_ble_eq_true rfl) ⟨Nat.le_of_ble_eq_true rfl, Nat.le_of_ble_eq_true rfl⟩ dX0_writeRuns_55) (fun u H locs hu G => ?_)
            obtain ⟨f2, hf2, rfl⟩ := hu
            have G : wd Z A s ([(h, .inr (1, [.int P, .int (nI n), .ref qv, .ref qp, .ref ql, .ref qg])), (qv, aI Z 144 V), (qp, aI Z 3 pr), (ql, aI Z 3 le), (qg, aI Z 3 gr), (sh, .inr (7, [.ref sq, .int (nI (bs.length + o.length + 1 + 4))])), (sq, aB Z SL f2)]) H locs := G.perm (perm_ix [2, 3, 4, 5, 6, 0, 1] rfl 7 (by decide) rfl)
            refine lv_iconst (v := 0) hx hb dX0_writeRuns_58 (by decide) ?_
            refine lv_istore_n (lv' := [(3, .int 0), (6, .int (V (48 * c0 + i))), (5, .int (nI i)), (4, .int lk), (0, .ref h), (1, .ref sh), (2, .int (nI c0))]) hx hb dX0_writeRuns_59 rfl hl (by decide) rfl (fun ls hl => ?_)
            refine lv_iload hx hb dX0_writeRuns_60 (lv_at hl 1 rfl) ?_
            refine lv_istore (lv' := [(4, .int (V (48 * c0 + i))), (3, .int 0), (6, .int (V (48 * c0 + i))), (5, .int (nI i)), (0, .ref h), (1, .ref sh), (2, .int (nI c0))]) hx hb dX0_writeRuns_62 hl (by decide) rfl (fun ls hl => ?_)
            refine lv_iinc (v := 1) (lv' := [(3, .int 1), (4, .int (V (48 * c0 + i))), (6, .int (V (48 * c0 + i))), (5, .int (nI i)), (0, .ref h), (1, .ref sh), (2, .int (nI c0))]) hx hb dX0_writeRuns_64 hl (k := 1) rfl (by decide) (by decide) rfl (fun ls hl => ?_)
            refine lv_iinc (v := nI (i + 1)) (lv' := [(5, .int (nI (i + 1))), (3, .int 1), (4, .int (V (48 * c0 + i))), (6, .int (V (48 * c0 + i))), (0, .ref h), (1, .ref sh), (2, .int (nI c0))]) hx hb dX0_writeRuns_67 hl (k := 3) rfl (nI_1 _) (by decide) rfl (fun ls hl => ?_)
            refine lv_goto (tgt := 8) hx hb dX0_writeRuns_70 (by decide) ?_
            exact ih (i + 1) (o ++ [(nI len).toInt8] ++ u4b lk) 1 (V (48 * c0 + i)) f2 (by omega) (by rw [col_s, rnF_s, ← hs, rnS, if_neg c_30, if_pos ⟨hlen, c_44⟩]) (by rw [← List.append_assoc, ← List.append_assoc]; exact hf2) _ _ _ (by simp only [List.length_append, List.length_singleton, u4b_len, ← Nat.add_assoc]; exact G) (lv_sub hl [0, 2, 1, 4, 5, 6] rfl)
      · refine lv_goto (tgt := 67) hx hb dX0_writeRuns_33 (by decide) ?_
        refine lv_iinc (v := nI (i + 1)) (lv' := [(5, .int (nI (i + 1))), (6, .int (V (48 * c0 + i))), (4, .int lk), (3, .int (nI len)), (0, .ref h), (1, .ref sh), (2, .int (nI c0))]) hx hb dX0_writeRuns_67 hl (k := 1) rfl (nI_1 _) (by decide) rfl (fun ls hl => ?_)
        refine lv_goto (tgt := 8) hx hb dX0_writeRuns_70 (by decide) ?_
        exact ih (i + 1) o len lk f (by omega) (by rw [col_s, rnF_s, ← hs, rnS, if_pos c_30]) hf _ _ _ G (lv_sub hl [0, 2, 3, 4, 5, 6] rfl)
set_option maxRecDepth 100000 in
set_option maxHeartbeats 4000000 in
theorem c_X0_writeRuns (Z : zT) (l : Launch) (h qv qp ql qg c0 n sh sq SL : Nat) (P : Int32) (V pr le gr f : Nat → Int32) (bs : List Int8) (hc : c0 < 3) (hn : n ≤ 48) (hf : by_at f bs) (hk : bs.length + (swF (col V c0 n)).2.1 ≤ SL) (hL : SL < 2 ^ 31) : Kv Z l yX0_writeRuns cX0_writeRuns 7 none ({ frames := 1, cells := 0, slots := 0, locals := 40 }) [.ref h, .ref sh, .int (nI c0)] (btW Z h qv qp ql qg P (nI n) V pr le gr ++ skW Z sh sq SL f (nI bs.length)) (fun u => ∃ f', by_at f' (bs ++ rnB (col V c0 n)) ∧ u = btW Z h qv qp ql qg P (nI n) V pr le gr ++ skW Z sh sq SL f' (nI (bs.length + (rnB (col V c0 n)).length))) := by
  intro sz
  refine Met.ofK (cc := cX0_writeRuns) (maxL := 7) (ret := none) (by decide) (Nat.le_of_ble_eq_true rfl) ?_
  intro p e s m below meth c ls C G hl
  generalize va_A _ sz = A at G ⊢
  have hx := C.1
  have hb := C.2.1
  have hown := C.2.2.2.2.2.1
  have hts := C.2.2.2.2.2.2.1
  refine lv_iconst (v := 0) hx hb dX0_writeRuns_0 (by decide) ?_
  refine lv_istore_n (lv' := [(3, .int 0), (0, .ref h), (1, .ref sh), (2, .int (nI c0))]) hx hb dX0_writeRuns_1 rfl hl (by decide) rfl (fun ls hl => ?_)
  refine lv_iconst (v := 0) hx hb dX0_writeRuns_2 (by decide) ?_
  refine lv_istore (lv' := [(4, .int 0), (3, .int 0), (0, .ref h), (1, .ref sh), (2, .int (nI c0))]) hx hb dX0_writeRuns_3 hl (by decide) rfl (fun ls hl => ?_)
  refine lv_iconst (v := 0) hx hb dX0_writeRuns_5 (by decide) ?_
  refine lv_istore (lv' := [(5, .int 0), (4, .int 0), (3, .int 0), (0, .ref h), (1, .ref sh), (2, .int (nI c0))]) hx hb dX0_writeRuns_6 hl (by decide) rfl (fun ls hl => ?_)
  exact lp_X0_writeRuns C hc hn hk hL (fun f N hf hN => ⟨f, hf, by rw [hN]⟩) n 0 [] 0 0 f (by omega) rfl (by simpa using hf) _ _ _ G (lv_sub hl [0, 1, 2, 3, 4, 5] rfl)
set_option maxRecDepth 100000 in
set_option maxHeartbeats 4000000 in
theorem lp_X0_writeOneByOne {p : Program} {l : Launch} {e : Env} {s : State} {m : MethodId} {args : Array Value} {below : List Frame} {meth : Method} {c : Code} {Z : zT} {A : Nat → Prop} {h qv qp ql qg c0 n : Nat} {P : Int32} {V pr le gr : Nat → Int32} {sh sq SL : Nat} {bs : List Int8} {wy : Nat} {post : va_W → Prop} (C : cx p s m args meth c cX0_writeOneByOne 7 none RX0 "writeOneByOne") (hc : c0 < 3) (hn : n ≤ 48) (hw : wy < 3) (hk : bs.length + (obB wy (col V c0 n)).length + 5 ≤ SL) (hL : SL < 2 ^ 31) (hp : ∀ (f : Nat → Int32) (N : Nat), by_at f (bs ++ obB wy (col V c0 n)) → N = bs.length + (obB wy (col V c0 n)).length → post (btW Z h qv qp ql qg P (nI n) V pr le gr ++ skW Z sh sq SL f (nI N))) : ∀ (k i : Nat) (o : List Int8) (ah : Int32) (f : Nat → Int32), i + k = n → (o, ah) = obF wy (col V c0 i) → by_at f (bs ++ o) → ∀ (H : Heap) (locs : List Loc) (ls : Array Slot), wd Z A s (btW Z h qv qp ql qg P (nI n) V pr le gr ++ skW Z sh sq SL f (nI (bs.length + o.length))) H locs → lv_has ls 7 [(5, .int (nI i)), (4, .int ah), (0, .ref h), (1, .ref sh), (2, .int (nI c0)), (3, .int (nI wy))] → W p l e ({ frames := 1, cells := 0, slots := 0, locals := 40 }) s m args below meth c H locs 0 0 (MQ below (va_Qv post (mB Z A) A) args s 0 0 A) (F0 m 6 ls []) := by
  have hx := C.1
  have hb := C.2.1
  have hown := C.2.2.2.2.2.1
  have hts := C.2.2.2.2.2.2.1
  intro k
  induction k with
  | zero =>
    intro i o ah f hi hs hf H locs ls G hl
    have hr5 : o.length ≤ (obB wy (col V c0 n)).length := by
      have h1 := (ob_sw wy i V c0).2
      rw [← hs] at h1
      dsimp only at h1
      have h2 := sw_mono V c0 (i := i) (n - i)
      rw [show i + (n - i) = n by omega] at h2
      rw [obB, (ob_sw wy n V c0).2, h1]
      split <;> omega
    have e0 : i = n := by omega
    rw [e0] at hs
    refine lv_iload hx hb dX0_writeOneByOne_6 (lv_at hl 0 rfl) ?_
    refine lv_aload_n hx hb dX0_writeOneByOne_8 rfl (lv_at hl 2 rfl) ?_
    refine k_get (ci := 1) (CC := RX0) (T := TX0) (N := 6) (v := .int (nI n)) C G 0 rfl rfl in_1 1 (by decide) fl_X0_28 rfl rfl dX0_writeOneByOne_9 ?_
    refine lv_icmp_ge (tgt := 66) hx hb dX0_writeOneByOne_12 (by decide) (fun c_12 => ?_) (fun c_12 => ?_)
    · exact kr_v C G (hp f _ (by rw [obB, ← hs]; exact hf) (by rw [obB, ← hs])) (Nat.le_of_ble_eq_true rfl) (Nat.le_of_ble_eq_true rfl) dX0_writeOneByOne_66
    · exact absurd (nI_le (by omega) (by omega)) c_12
  | succ k ih =>
    intro i o ah f hi hs hf H locs ls G hl
    have hr5 : o.length ≤ (obB wy (col V c0 n)).length := by
      have h1 := (ob_sw wy i V c0).2
      rw [← hs] at h1
      dsimp only at h1
      have h2 := sw_mono V c0 (i := i) (n - i)
      rw [show i + (n - i) = n by omega] at h2
      rw [obB, (ob_sw wy n V c0).2, h1]
      split <;> omega
    refine lv_iload hx hb dX0_writeOneByOne_6 (lv_at hl 0 rfl) ?_
    refine lv_aload_n hx hb dX0_writeOneByOne_8 rfl (lv_at hl 2 rfl) ?_
    refine k_get (ci := 1) (CC := RX0) (T := TX0) (N := 6) (v := .int (nI n)) C G 0 rfl rfl in_1 1 (by decide) fl_X0_28 rfl rfl dX0_writeOneByOne_9 ?_
    refine lv_icmp_ge (tgt := 66) hx hb dX0_writeOneByOne_12 (by decide) (fun c_12 => ?_) (fun c_12 => ?_)
    · exact absurd c_12 (nI_ge (by omega) (by omega))
    · refine lv_aload_n hx hb dX0_writeOneByOne_15 rfl (lv_at hl 2 rfl) ?_
      refine lv_iload_n hx hb dX0_writeOneByOne_16 rfl (lv_at hl 4 rfl) ?_
      refine lv_iload hx hb dX0_writeOneByOne_17 (lv_at hl 0 rfl) ?_
      have hX : List.Perm ([(h, .inr (1, [.int P, .int (nI n), .ref qv, .ref qp, .ref ql, .ref qg])), (qv, aI Z 144 V), (qp, aI Z 3 pr), (ql, aI Z 3 le), (qg, aI Z 3 gr), (sh, .inr (7, [.ref sq, .int (nI (bs.length + o.length))])), (sq, aB Z SL f)]) ([(h, .inr (1, [.int P, .int (nI n), .ref qv, .ref qp, .ref ql, .ref qg])), (qv, aI Z 144 V), (qp, aI Z 3 pr), (ql, aI Z 3 le), (qg, aI Z 3 gr)] ++ ([(sh, .inr (7, [.ref sq, .int (nI (bs.length + o.length))])), (sq, aB Z SL f)])) := (perm_ix [0, 1, 2, 3, 4, 5, 6] rfl 7 (by decide) rfl)
      refine kc_i (Wc := [(h, .inr (1, [.int P, .int (nI n), .ref qv, .ref qp, .ref ql, .ref qg])), (qv, aI Z 144 V), (qp, aI Z 3 pr), (ql, aI Z 3 le), (qg, aI Z 3 gr)]) (Wr := [(sh, .inr (7, [.ref sq, .int (nI (bs.length + o.length))])), (sq, aB Z SL f)]) G hX (krV 2 rfl (As := [.int (nI c0), .int (nI i)]) (rest := []) (ci := 1) (CC := RX0) (T := TX0) (N := 6) C G hX (c_X0_valueAt Z l h qv qp ql qg c0 (i) P (nI n) V pr le gr hc (by omega) _) (gdV ml_X0_41 im_X0_valueAt se_X0_valueAt ii_X0 co_X0_valueAt) (by decide +kernel) ⟨Nat.le_of_ble_eq_true rfl, Nat.le_of_ble_eq_true rfl⟩ rfl 0 rfl hl rfl (Nat.le_of_ble_eq_true rfl) ⟨Nat.le_of_ble_eq_true rfl, Nat.le_of_ble_eq_true rfl⟩ dX0_writeOneByOne_19) (fun r_19 u H locs hu G => ?_)
      obtain ⟨r_19_e, rfl⟩ := hu
      subst r_19_e
      have G : wd Z A s ([(h, .inr (1, [.int P, .int (nI n), .ref qv, .ref qp, .ref ql, .ref qg])), (qv, aI Z 144 V), (qp, aI Z 3 pr), (ql, aI Z 3 le), (qg, aI Z 3 gr), (sh, .inr (7, [.ref sq, .int (nI (bs.length + o.length))])), (sq, aB Z SL f)]) H locs := G
      refine lv_istore (lv' := [(6, .int (V (48 * c0 + i))), (5, .int (nI i)), (4, .int ah), (0, .ref h), (1, .ref sh), (2, .int (nI c0)), (3, .int (nI wy))]) hx hb dX0_writeOneByOne_22 hl (by decide) rfl (fun ls hl => ?_)
      refine lv_iload hx hb dX0_writeOneByOne_24 (lv_at hl 0 rfl) ?_
      refine lv_ldc (v := (-2147483648)) hx hb hown (hts _ kn_X0_48) dX0_writeOneByOne_26 ?_
      refine lv_icmp_ne (tgt := 34) hx hb dX0_writeOneByOne_28 (by decide) (fun c_28 => ?_) (fun c_28 => ?_)
      · refine lv_iload_n hx hb dX0_writeOneByOne_34 rfl (lv_at hl 6 rfl) ?_
        refine lv_if_ne (tgt := 47) hx hb dX0_writeOneByOne_35 (by decide) (fun c_35 => ?_) (fun c_35 => ?_)
        · refine lv_aload_n hx hb dX0_writeOneByOne_47 rfl (lv_at hl 4 rfl) ?_
          refine lv_iload hx hb dX0_writeOneByOne_48 (lv_at hl 0 rfl) ?_
          refine lv_iload hx hb dX0_writeOneByOne_50 (lv_at hl 2 rfl) ?_
          refine lv_isub hx hb dX0_writeOneByOne_52 ?_
          have hX : List.Perm ([(h, .inr (1, [.int P, .int (nI n), .ref qv, .ref qp, .ref ql, .ref qg])), (qv, aI Z 144 V), (qp, aI Z 3 pr), (ql, aI Z 3 le), (qg, aI Z 3 gr), (sh, .inr (7, [.ref sq, .int (nI (bs.length + o.length))])), (sq, aB Z SL f)]) ([(sh, .inr (7, [.ref sq, .int (nI (bs.length + o.length))])), (sq, aB Z SL f)] ++ ([(h, .inr (1, [.int P, .int (nI n), .ref qv, .ref qp, .ref ql, .ref qg])), (qv, aI Z 144 V), (qp, aI Z 3 pr), (ql, aI Z 3 le), (qg, aI Z 3 gr)])) := (perm_ix [5, 6, 0, 1, 2, 3, 4] rfl 7 (by decide) rfl)
          refine kc_v (Wc := [(sh, .inr (7, [.ref sq, .int (nI (bs.length + o.length))])), (sq, aB Z SL f)]) (Wr := [(h, .inr (1, [.int P, .int (nI n), .ref qv, .ref qp, .ref ql, .ref qg])), (qv, aI Z 144 V), (qp, aI Z 3 pr), (ql, aI Z 3 le), (qg, aI Z 3 gr)]) G hX (krV 1 rfl (As := [.int ((V (48 * c0 + i)) - ah)]) (rest := []) (ci := 7) (CC := RX6) (T := TX6) (N := 2) C G hX (c_X6_varintN Z l sh sq SL (bs.length + o.length) f (bs ++ o) (V (48 * c0 + i) - ah) hf (by rw [List.length_append]) (by omega) hL _) (gdV ml_X0_90 im_X6_varint se_X6_varint ii_X6 co_X6_varint) (by decide +kernel) ⟨Nat.le_of_ble_eq_true rfl, Nat.le_of_ble_eq_true rfl⟩ rfl 0 rfl hl rfl (Nat.le_of_ble_eq_true rfl) ⟨Nat.le_of_ble_eq_true rfl, Nat.le_of_ble_eq_true rfl⟩ dX0_writeOneByOne_53) (fun u H locs hu G => ?_)
          obtain ⟨f2, hf2, rfl⟩ := hu
          have G : wd Z A s ([(h, .inr (1, [.int P, .int (nI n), .ref qv, .ref qp, .ref ql, .ref qg])), (qv, aI Z 144 V), (qp, aI Z 3 pr), (ql, aI Z 3 le), (qg, aI Z 3 gr), (sh, .inr (7, [.ref sq, .int (nI (bs.length + o.length + (vbs (V (48 * c0 + i) - ah)).length))])), (sq, aB Z SL f2)]) H locs := G.perm (perm_ix [2, 3, 4, 5, 6, 0, 1] rfl 7 (by decide) rfl)
          refine lv_iload hx hb dX0_writeOneByOne_56 (lv_at hl 0 rfl) ?_
          refine lv_istore (lv' := [(4, .int (V (48 * c0 + i))), (6, .int (V (48 * c0 + i))), (5, .int (nI i)), (0, .ref h), (1, .ref sh), (2, .int (nI c0)), (3, .int (nI wy))]) hx hb dX0_writeOneByOne_58 hl (by decide) rfl (fun ls hl => ?_)
          refine lv_iinc (v := nI (i + 1)) (lv' := [(5, .int (nI (i + 1))), (4, .int (V (48 * c0 + i))), (6, .int (V (48 * c0 + i))), (0, .ref h), (1, .ref sh), (2, .int (nI c0)), (3, .int (nI wy))]) hx hb dX0_writeOneByOne_60 hl (k := 2) rfl (nI_1 _) (by decide) rfl (fun ls hl => ?_)
          refine lv_goto (tgt := 6) hx hb dX0_writeOneByOne_63 (by decide) ?_
          exact ih (i + 1) (o ++ vbs (V (48 * c0 + i) - ah)) (V (48 * c0 + i)) f2 (by omega) (by rw [col_s, obF_s, ← hs, obS, if_neg c_28, if_neg (fun z => c_35 ((n_pos (by omega)).mpr z))]) (by rw [← List.append_assoc]; exact hf2) _ _ _ (by simp only [List.length_append, u4b_len, ← Nat.add_assoc]; exact G) (lv_sub hl [0, 1, 3, 4, 5, 6] rfl)
        · refine lv_aload_n hx hb dX0_writeOneByOne_38 rfl (lv_at hl 4 rfl) ?_
          refine lv_iload hx hb dX0_writeOneByOne_39 (lv_at hl 0 rfl) ?_
          have hX : List.Perm ([(h, .inr (1, [.int P, .int (nI n), .ref qv, .ref qp, .ref ql, .ref qg])), (qv, aI Z 144 V), (qp, aI Z 3 pr), (ql, aI Z 3 le), (qg, aI Z 3 gr), (sh, .inr (7, [.ref sq, .int (nI (bs.length + o.length))])), (sq, aB Z SL f)]) ([(sh, .inr (7, [.ref sq, .int (nI (bs.length + o.length))])), (sq, aB Z SL f)] ++ ([(h, .inr (1, [.int P, .int (nI n), .ref qv, .ref qp, .ref ql, .ref qg])), (qv, aI Z 144 V), (qp, aI Z 3 pr), (ql, aI Z 3 le), (qg, aI Z 3 gr)])) := (perm_ix [5, 6, 0, 1, 2, 3, 4] rfl 7 (by decide) rfl)
          refine kc_v (Wc := [(sh, .inr (7, [.ref sq, .int (nI (bs.length + o.length))])), (sq, aB Z SL f)]) (Wr := [(h, .inr (1, [.int P, .int (nI n), .ref qv, .ref qp, .ref ql, .ref qg])), (qv, aI Z 144 V), (qp, aI Z 3 pr), (ql, aI Z 3 le), (qg, aI Z 3 gr)]) G hX (krV 1 rfl (As := [.int (V (48 * c0 + i))]) (rest := []) (ci := 7) (CC := RX6) (T := TX6) (N := 2) C G hX (c_X6_u4N Z l sh sq SL (bs.length + o.length) f (bs ++ o) (V (48 * c0 + i)) hf (by rw [List.length_append]) (by omega) hL _) (gdV ml_X0_76 im_X6_u4 se_X6_u4 ii_X6 co_X6_u4) (by decide +kernel) ⟨Nat.le_of_ble_eq_true rfl, Nat.le_of_ble_eq_true rfl⟩ rfl 0 rfl hl rfl (Nat.le_of_ble_eq_true rfl) ⟨Nat.le_of_ble_eq_true rfl, Nat.le_of_ble_eq_true rfl⟩ dX0_writeOneByOne_41) (fun u H locs hu G => ?_)
          obtain ⟨f2, hf2, rfl⟩ := hu
          have G : wd Z A s ([(h, .inr (1, [.int P, .int (nI n), .ref qv, .ref qp, .ref ql, .ref qg])), (qv, aI Z 144 V), (qp, aI Z 3 pr), (ql, aI Z 3 le), (qg, aI Z 3 gr), (sh, .inr (7, [.ref sq, .int (nI (bs.length + o.length + 4))])), (sq, aB Z SL f2)]) H locs := G.perm (perm_ix [2, 3, 4, 5, 6, 0, 1] rfl 7 (by decide) rfl)
          refine lv_goto (tgt := 56) hx hb dX0_writeOneByOne_44 (by decide) ?_
          refine lv_iload hx hb dX0_writeOneByOne_56 (lv_at hl 0 rfl) ?_
          refine lv_istore (lv' := [(4, .int (V (48 * c0 + i))), (6, .int (V (48 * c0 + i))), (5, .int (nI i)), (0, .ref h), (1, .ref sh), (2, .int (nI c0)), (3, .int (nI wy))]) hx hb dX0_writeOneByOne_58 hl (by decide) rfl (fun ls hl => ?_)
          refine lv_iinc (v := nI (i + 1)) (lv' := [(5, .int (nI (i + 1))), (4, .int (V (48 * c0 + i))), (6, .int (V (48 * c0 + i))), (0, .ref h), (1, .ref sh), (2, .int (nI c0)), (3, .int (nI wy))]) hx hb dX0_writeOneByOne_60 hl (k := 2) rfl (nI_1 _) (by decide) rfl (fun ls hl => ?_)
          refine lv_goto (tgt := 6) hx hb dX0_writeOneByOne_63 (by decide) ?_
          exact ih (i + 1) (o ++ u4b (V (48 * c0 + i))) (V (48 * c0 + i)) f2 (by omega) (by rw [col_s, obF_s, ← hs, obS, if_neg c_28, if_pos ((n_pos (by omega)).mp c_35)]) (by rw [← List.append_assoc]; exact hf2) _ _ _ (by simp only [List.length_append, u4b_len, ← Nat.add_assoc]; exact G) (lv_sub hl [0, 1, 3, 4, 5, 6] rfl)
      · refine lv_goto (tgt := 60) hx hb dX0_writeOneByOne_31 (by decide) ?_
        refine lv_iinc (v := nI (i + 1)) (lv' := [(5, .int (nI (i + 1))), (6, .int (V (48 * c0 + i))), (4, .int ah), (0, .ref h), (1, .ref sh), (2, .int (nI c0)), (3, .int (nI wy))]) hx hb dX0_writeOneByOne_60 hl (k := 1) rfl (nI_1 _) (by decide) rfl (fun ls hl => ?_)
        refine lv_goto (tgt := 6) hx hb dX0_writeOneByOne_63 (by decide) ?_
        exact ih (i + 1) o ah f (by omega) (by rw [col_s, obF_s, ← hs, obS, if_pos c_28]) hf _ _ _ G (lv_sub hl [0, 2, 3, 4, 5, 6] rfl)
set_option maxRecDepth 100000 in
set_option maxHeartbeats 4000000 in
theorem c_X0_writeOneByOne (Z : zT) (l : Launch) (h qv qp ql qg c0 n sh sq SL : Nat) (wy : Nat) (hw : wy < 3) (P : Int32) (V pr le gr f : Nat → Int32) (bs : List Int8) (hc : c0 < 3) (hn : n ≤ 48) (hf : by_at f bs) (hk : bs.length + (obB wy (col V c0 n)).length + 5 ≤ SL) (hL : SL < 2 ^ 31) : Kv Z l yX0_writeOneByOne cX0_writeOneByOne 7 none ({ frames := 1, cells := 0, slots := 0, locals := 40 }) [.ref h, .ref sh, .int (nI c0), .int (nI wy)] (btW Z h qv qp ql qg P (nI n) V pr le gr ++ skW Z sh sq SL f (nI bs.length)) (fun u => ∃ f', by_at f' (bs ++ obB wy (col V c0 n)) ∧ u = btW Z h qv qp ql qg P (nI n) V pr le gr ++ skW Z sh sq SL f' (nI (bs.length + (obB wy (col V c0 n)).length))) := by
  intro sz
  refine Met.ofK (cc := cX0_writeOneByOne) (maxL := 7) (ret := none) (by decide) (Nat.le_of_ble_eq_true rfl) ?_
  intro p e s m below meth c ls C G hl
  generalize va_A _ sz = A at G ⊢
  have hx := C.1
  have hb := C.2.1
  have hown := C.2.2.2.2.2.1
  have hts := C.2.2.2.2.2.2.1
  refine lv_iconst (v := 0) hx hb dX0_writeOneByOne_0 (by decide) ?_
  refine lv_istore (lv' := [(4, .int 0), (0, .ref h), (1, .ref sh), (2, .int (nI c0)), (3, .int (nI wy))]) hx hb dX0_writeOneByOne_1 hl (by decide) rfl (fun ls hl => ?_)
  refine lv_iconst (v := 0) hx hb dX0_writeOneByOne_3 (by decide) ?_
  refine lv_istore (lv' := [(5, .int 0), (4, .int 0), (0, .ref h), (1, .ref sh), (2, .int (nI c0)), (3, .int (nI wy))]) hx hb dX0_writeOneByOne_4 hl (by decide) rfl (fun ls hl => ?_)
  exact lp_X0_writeOneByOne C hc hn hw hk hL (fun f N hf hN => ⟨f, hf, by rw [hN]⟩) n 0 [] 0 f (by omega) rfl (by simpa using hf) _ _ _ G (lv_sub hl [0, 1, 2, 3, 4, 5] rfl)
