/-! MODEL (X11): place, latest, check, u, ends, whole, isBelow, bytesOf, varint. -/
set_option maxRecDepth 100000 in
set_option maxHeartbeats 4000000 in
theorem lp_mplace {p : Program} {l : Launch} {e : Env} {R : Room} {s : State} {m : MethodId} {args : Array Value} {below : List Frame} {meth : Method} {c : Code} {Z : zT} {A : Nat → Prop} {h : Nat} {ad : Nat → Nat} {iv : ivT} {av : avT} {ob : List obT} {x y : Int32} {post : Int32 → va_W → Prop} (C : cx p s m args meth c cX11_place 4 (some .int) RX11 "place") (ho : mo_ok iv av ob) (hp : post (plR (mFi ob x y)) (mdW Z h ad iv av)) : ∀ (n : Nat) (k : Nat), k + n = ob.length → (∀ (j : Nat) (o : obT), j < k → ob[j]? = some o → ¬ (o.1 = x ∧ o.2.1 = y)) → ∀ (H : Heap) (locs : List Loc) (ls : Array Slot), wd Z A s (mdW Z h ad iv av) H locs → lv_has ls 4 [(3, .int (nI k)), (0, .ref h), (1, .int x), (2, .int y)] → W p l e R s m args below meth c H locs 0 0 (MQ below (va_Qi post (mB Z A) A) args s 0 0 A) (F0 m 2 ls []) := by
  have hx := C.1
  have hb := C.2.1
  have hown := C.2.2.2.2.2.1
  have hts := C.2.2.2.2.2.2.1
  intro n
  induction n with
  | zero =>
    intro k hkn hno H locs ls G hl
    have hob := ho.2.1
    refine lv_iload_n hx hb dX11_place_2 rfl (lv_at hl 0 rfl) ?_
    refine lv_aload_n hx hb dX11_place_3 rfl (lv_at hl 1 rfl) ?_
    refine k_mgi (v := nI ob.length) C G 4 (by decide) mr_4 ho.1 fl_X11_150 rfl dX11_place_4 ?_
    refine lv_icmp_ge (tgt := 38) hx hb dX11_place_7 (by decide) (fun c_7 => ?_) (fun c_7 => ?_)
    · have n_7 := nb_le (a := ob.length) (b := k) c_7 (by omega) (by omega)
      refine lv_iconst (v := (-1)) hx hb dX11_place_38 (by decide) ?_
      exact kr_i C G (by rw [mFi_none (fun j o h2 => hno j o (by have := (List.getElem?_eq_some_iff.mp h2).1; omega) h2)] at hp; exact hp) (Nat.le_of_ble_eq_true rfl) (Nat.le_of_ble_eq_true rfl) dX11_place_39
    · exact absurd (nb_nle (a := ob.length) (b := k) c_7 (by omega) (by omega)) (by omega)
  | succ n ih =>
    intro k hkn hno H locs ls G hl
    have hob := ho.2.1
    obtain ⟨q, hk⟩ : ∃ q, ob[k]? = some q := ⟨_, List.getElem?_eq_getElem (show k < ob.length by omega)⟩
    refine lv_iload_n hx hb dX11_place_2 rfl (lv_at hl 0 rfl) ?_
    refine lv_aload_n hx hb dX11_place_3 rfl (lv_at hl 1 rfl) ?_
    refine k_mgi (v := nI ob.length) C G 4 (by decide) mr_4 ho.1 fl_X11_150 rfl dX11_place_4 ?_
    refine lv_icmp_ge (tgt := 38) hx hb dX11_place_7 (by decide) (fun c_7 => ?_) (fun c_7 => ?_)
    · exact absurd (nb_le (a := ob.length) (b := k) c_7 (by omega) (by omega)) (by omega)
    · have n_7 := nb_nle (a := ob.length) (b := k) c_7 (by omega) (by omega)
      refine lv_aload_n hx hb dX11_place_10 rfl (lv_at hl 1 rfl) ?_
      refine k_mga C G 0 (by decide) mr_0 fl_X11_7 rfl dX11_place_11 ?_
      refine lv_iload_n hx hb dX11_place_14 rfl (lv_at hl 0 rfl) ?_
      refine k_mil (v := q.1) (i := k) C G 0 (k := 0) (n := 100) mp_0 (by decide) (by omega) ((ho.2.2.2.1 k q hk).1) dX11_place_15 ?_
      refine lv_iload_n hx hb dX11_place_16 rfl (lv_at hl 2 rfl) ?_
      refine lv_icmp_ne (tgt := 32) hx hb dX11_place_17 (by decide) (fun c_17 => ?_) (fun c_17 => ?_)
      · refine lv_iinc (v := nI (k + 1)) (lv' := [(3, .int (nI (k + 1))), (0, .ref h), (1, .int x), (2, .int y)]) hx hb dX11_place_32 hl (k := 0) rfl (nI_1 _) (by decide) rfl (fun ls hl => ?_)
        refine lv_goto (tgt := 2) hx hb dX11_place_35 (by decide) ?_
        exact ih (k + 1) (by omega) (fun j o h1 h2 => by
          by_cases e : j = k
          · subst e
            rw [hk] at h2; cases h2; exact fun z => c_17 z.1
          · exact hno j o (by omega) h2) _ _ _ G (lv_sub hl [0, 1, 2, 3] rfl)
      · refine lv_aload_n hx hb dX11_place_20 rfl (lv_at hl 1 rfl) ?_
        refine k_mga C G 1 (by decide) mr_1 fl_X11_13 rfl dX11_place_21 ?_
        refine lv_iload_n hx hb dX11_place_24 rfl (lv_at hl 0 rfl) ?_
        refine k_mil (v := q.2.1) (i := k) C G 1 (k := 1) (n := 100) mp_1 (by decide) (by omega) ((ho.2.2.2.1 k q hk).2.1) dX11_place_25 ?_
        refine lv_iload_n hx hb dX11_place_26 rfl (lv_at hl 3 rfl) ?_
        refine lv_icmp_ne (tgt := 32) hx hb dX11_place_27 (by decide) (fun c_27 => ?_) (fun c_27 => ?_)
        · refine lv_iinc (v := nI (k + 1)) (lv' := [(3, .int (nI (k + 1))), (0, .ref h), (1, .int x), (2, .int y)]) hx hb dX11_place_32 hl (k := 0) rfl (nI_1 _) (by decide) rfl (fun ls hl => ?_)
          refine lv_goto (tgt := 2) hx hb dX11_place_35 (by decide) ?_
          exact ih (k + 1) (by omega) (fun j o h1 h2 => by
            by_cases e : j = k
            · subst e
              rw [hk] at h2; cases h2; exact fun z => c_27 z.2
            · exact hno j o (by omega) h2) _ _ _ G (lv_sub hl [0, 1, 2, 3] rfl)
        · refine lv_iload_n hx hb dX11_place_30 rfl (lv_at hl 0 rfl) ?_
          exact kr_i C G (by rw [mFi_some hk ⟨c_17, c_27⟩ hno] at hp; exact hp) (Nat.le_of_ble_eq_true rfl) (Nat.le_of_ble_eq_true rfl) dX11_place_31
set_option maxRecDepth 100000 in
set_option maxHeartbeats 4000000 in
theorem c_X11_place (Z : zT) (l : Launch) (h : Nat) (ad : Nat → Nat) (iv : ivT) (av : avT) (ob : List obT) (x y : Int32) (ho : mo_ok iv av ob) : Ki Z l yX11_place cX11_place 4 (some .int) ({ frames := 0, cells := 0, slots := 0, locals := 0 }) [.ref h, .int x, .int y] (mdW Z h ad iv av) (fun r u => r = plR (mFi ob x y) ∧ u = mdW Z h ad iv av) := by
  intro sz
  refine Met.ofK (cc := cX11_place) (maxL := 4) (ret := (some .int)) (by decide) (Nat.le_of_ble_eq_true rfl) ?_
  intro p e s m below meth c ls C G hl
  generalize va_A _ sz = A at G ⊢
  have hx := C.1
  have hb := C.2.1
  have hown := C.2.2.2.2.2.1
  have hts := C.2.2.2.2.2.2.1
  refine lv_iconst (v := 0) hx hb dX11_place_0 (by decide) ?_
  refine k_topi (y := nI 0) (by rfl) ?_
  refine lv_istore_n (lv' := [(3, .int (nI 0)), (0, .ref h), (1, .int x), (2, .int y)]) hx hb dX11_place_1 rfl hl (by decide) rfl (fun ls hl => ?_)
  exact lp_mplace C ho ⟨rfl, rfl⟩ ob.length 0 (by omega) (fun j o h1 _ => absurd h1 (by omega)) _ _ _ G (lv_sub hl [0, 1, 2, 3] rfl)
set_option maxRecDepth 100000 in
set_option maxHeartbeats 4000000 in
theorem lp_mlatest {p : Program} {l : Launch} {e : Env} {R : Room} {s : State} {m : MethodId} {args : Array Value} {below : List Frame} {meth : Method} {c : Code} {Z : zT} {A : Nat → Prop} {h : Nat} {ad : Nat → Nat} {iv : ivT} {av : avT} {ob : List obT} {post : Int32 → va_W → Prop} (C : cx p s m args meth c cX11_latest 3 (some .int) RX11 "latest") (ho : mo_ok iv av ob) (hp : post (mLt ob) (mdW Z h ad iv av)) : ∀ (n : Nat) (k : Nat) (v : Int32), k + n = ob.length → v = (ob.take k).foldl (fun v o => if o.1 = 1 ∧ v < o.2.1 then o.2.1 else v) (-1) → ∀ (H : Heap) (locs : List Loc) (ls : Array Slot), wd Z A s (mdW Z h ad iv av) H locs → lv_has ls 3 [(2, .int (nI k)), (1, .int v), (0, .ref h)] → W p l e R s m args below meth c H locs 0 0 (MQ below (va_Qi post (mB Z A) A) args s 0 0 A) (F0 m 4 ls []) := by
  have hx := C.1
  have hb := C.2.1
  have hown := C.2.2.2.2.2.1
  have hts := C.2.2.2.2.2.2.1
  intro n
  induction n with
  | zero =>
    intro k v hkn hv H locs ls G hl
    have hob := ho.2.1
    refine lv_iload_n hx hb dX11_latest_4 rfl (lv_at hl 0 rfl) ?_
    refine lv_aload_n hx hb dX11_latest_5 rfl (lv_at hl 2 rfl) ?_
    refine k_mgi (v := nI ob.length) C G 4 (by decide) mr_4 ho.1 fl_X11_150 rfl dX11_latest_6 ?_
    refine lv_icmp_ge (tgt := 45) hx hb dX11_latest_9 (by decide) (fun c_9 => ?_) (fun c_9 => ?_)
    · have n_9 := nb_le (a := ob.length) (b := k) c_9 (by omega) (by omega)
      refine lv_iload_n hx hb dX11_latest_45 rfl (lv_at hl 1 rfl) ?_
      rw [List.take_of_length_le (by omega)] at hv
      exact kr_i C G (by rw [hv]; exact hp) (Nat.le_of_ble_eq_true rfl) (Nat.le_of_ble_eq_true rfl) dX11_latest_46
    · exact absurd (nb_nle (a := ob.length) (b := k) c_9 (by omega) (by omega)) (by omega)
  | succ n ih =>
    intro k v hkn hv H locs ls G hl
    have hob := ho.2.1
    obtain ⟨q, hk⟩ : ∃ q, ob[k]? = some q := ⟨_, List.getElem?_eq_getElem (show k < ob.length by omega)⟩
    refine lv_iload_n hx hb dX11_latest_4 rfl (lv_at hl 0 rfl) ?_
    refine lv_aload_n hx hb dX11_latest_5 rfl (lv_at hl 2 rfl) ?_
    refine k_mgi (v := nI ob.length) C G 4 (by decide) mr_4 ho.1 fl_X11_150 rfl dX11_latest_6 ?_
    refine lv_icmp_ge (tgt := 45) hx hb dX11_latest_9 (by decide) (fun c_9 => ?_) (fun c_9 => ?_)
    · exact absurd (nb_le (a := ob.length) (b := k) c_9 (by omega) (by omega)) (by omega)
    · have n_9 := nb_nle (a := ob.length) (b := k) c_9 (by omega) (by omega)
      refine lv_aload_n hx hb dX11_latest_12 rfl (lv_at hl 2 rfl) ?_
      refine k_mga C G 0 (by decide) mr_0 fl_X11_7 rfl dX11_latest_13 ?_
      refine lv_iload_n hx hb dX11_latest_16 rfl (lv_at hl 0 rfl) ?_
      refine k_mil (v := q.1) (i := k) C G 0 (k := 0) (n := 100) mp_0 (by decide) (by omega) ((ho.2.2.2.1 k q hk).1) dX11_latest_17 ?_
      refine lv_iconst (v := 1) hx hb dX11_latest_18 (by decide) ?_
      refine lv_icmp_ne (tgt := 39) hx hb dX11_latest_19 (by decide) (fun c_19 => ?_) (fun c_19 => ?_)
      · refine lv_iinc (v := nI (k + 1)) (lv' := [(2, .int (nI (k + 1))), (1, .int v), (0, .ref h)]) hx hb dX11_latest_39 hl (k := 0) rfl (nI_1 _) (by decide) rfl (fun ls hl => ?_)
        refine lv_goto (tgt := 4) hx hb dX11_latest_42 (by decide) ?_
        exact ih (k + 1) _ (by omega) (by rw [take_s hk, List.foldl_append, ← hv]; exact (if_neg (fun z => c_19 z.1)).symm) _ _ _ G (lv_sub hl [0, 1, 2] rfl)
      · refine lv_aload_n hx hb dX11_latest_22 rfl (lv_at hl 2 rfl) ?_
        refine k_mga C G 1 (by decide) mr_1 fl_X11_13 rfl dX11_latest_23 ?_
        refine lv_iload_n hx hb dX11_latest_26 rfl (lv_at hl 0 rfl) ?_
        refine k_mil (v := q.2.1) (i := k) C G 1 (k := 1) (n := 100) mp_1 (by decide) (by omega) ((ho.2.2.2.1 k q hk).2.1) dX11_latest_27 ?_
        refine lv_iload_n hx hb dX11_latest_28 rfl (lv_at hl 1 rfl) ?_
        refine lv_icmp_le (tgt := 39) hx hb dX11_latest_29 (by decide) (fun c_29 => ?_) (fun c_29 => ?_)
        · refine lv_iinc (v := nI (k + 1)) (lv' := [(2, .int (nI (k + 1))), (1, .int v), (0, .ref h)]) hx hb dX11_latest_39 hl (k := 0) rfl (nI_1 _) (by decide) rfl (fun ls hl => ?_)
          refine lv_goto (tgt := 4) hx hb dX11_latest_42 (by decide) ?_
          exact ih (k + 1) _ (by omega) (by rw [take_s hk, List.foldl_append, ← hv]; exact (if_neg (fun z => absurd z.2 (Int32.not_lt.mpr c_29))).symm) _ _ _ G (lv_sub hl [0, 1, 2] rfl)
        · refine lv_aload_n hx hb dX11_latest_32 rfl (lv_at hl 2 rfl) ?_
          refine k_mga C G 1 (by decide) mr_1 fl_X11_13 rfl dX11_latest_33 ?_
          refine lv_iload_n hx hb dX11_latest_36 rfl (lv_at hl 0 rfl) ?_
          refine k_mil (v := q.2.1) (i := k) C G 1 (k := 1) (n := 100) mp_1 (by decide) (by omega) ((ho.2.2.2.1 k q hk).2.1) dX11_latest_37 ?_
          refine lv_istore_n (lv' := [(1, .int q.2.1), (2, .int (nI k)), (0, .ref h)]) hx hb dX11_latest_38 rfl hl (by decide) rfl (fun ls hl => ?_)
          refine lv_iinc (v := nI (k + 1)) (lv' := [(2, .int (nI (k + 1))), (1, .int q.2.1), (0, .ref h)]) hx hb dX11_latest_39 hl (k := 1) rfl (nI_1 _) (by decide) rfl (fun ls hl => ?_)
          refine lv_goto (tgt := 4) hx hb dX11_latest_42 (by decide) ?_
          exact ih (k + 1) _ (by omega) (by rw [take_s hk, List.foldl_append, ← hv]; exact (if_pos ⟨c_19, Int32.not_le.mp c_29⟩).symm) _ _ _ G (lv_sub hl [0, 1, 2] rfl)
set_option maxRecDepth 100000 in
set_option maxHeartbeats 4000000 in
theorem c_X11_latest (Z : zT) (l : Launch) (h : Nat) (ad : Nat → Nat) (iv : ivT) (av : avT) (ob : List obT) (ho : mo_ok iv av ob) : Ki Z l yX11_latest cX11_latest 3 (some .int) ({ frames := 0, cells := 0, slots := 0, locals := 0 }) [.ref h] (mdW Z h ad iv av) (fun r u => r = mLt ob ∧ u = mdW Z h ad iv av) := by
  intro sz
  refine Met.ofK (cc := cX11_latest) (maxL := 3) (ret := (some .int)) (by decide) (Nat.le_of_ble_eq_true rfl) ?_
  intro p e s m below meth c ls C G hl
  generalize va_A _ sz = A at G ⊢
  have hx := C.1
  have hb := C.2.1
  have hown := C.2.2.2.2.2.1
  have hts := C.2.2.2.2.2.2.1
  refine lv_iconst (v := (-1)) hx hb dX11_latest_0 (by decide) ?_
  refine lv_istore_n (lv' := [(1, .int (-1)), (0, .ref h)]) hx hb dX11_latest_1 rfl hl (by decide) rfl (fun ls hl => ?_)
  refine lv_iconst (v := 0) hx hb dX11_latest_2 (by decide) ?_
  refine k_topi (y := nI 0) (by rfl) ?_
  refine lv_istore_n (lv' := [(2, .int (nI 0)), (1, .int (-1)), (0, .ref h)]) hx hb dX11_latest_3 rfl hl (by decide) rfl (fun ls hl => ?_)
  exact lp_mlatest C ho ⟨rfl, rfl⟩ ob.length 0 (-1) (by omega) rfl _ _ _ G (lv_sub hl [0, 1, 2] rfl)
set_option maxRecDepth 100000 in
set_option maxHeartbeats 4000000 in
theorem lp_mbits {p : Program} {l : Launch} {e : Env} {R : Room} {s : State} {m : MethodId} {args : Array Value} {below : List Frame} {meth : Method} {c : Code} {Z : zT} {A : Nat → Prop} {Q : State → Prop} {h : Nat} {ad : Nat → Nat} {iv : ivT} {av : avT} {ka k b : Nat} {a0 cE : Int32} (C : cx p s m args meth c cX11_check 7 (some .int) RX11 "check") (kk : ∀ (H : Heap) (locs : List Loc) (ls : Array Slot), wd Z A s (mdW Z h ad iv av) H locs → lv_has ls 7 [(6, .int (nI 8)), (4, .int cE), (5, .int (nI k)), (0, .ref h), (1, .ref (ad ka)), (2, .int a0), (3, .int (nI b))] → W p l e R s m args below meth c H locs 0 0 Q (F0 m 65 ls [])) : ∀ (n j : Nat) (c0 : Int32), j + n = 8 → cE = crN n c0 → ∀ (H : Heap) (locs : List Loc) (ls : Array Slot), wd Z A s (mdW Z h ad iv av) H locs → lv_has ls 7 [(6, .int (nI j)), (4, .int c0), (5, .int (nI k)), (0, .ref h), (1, .ref (ad ka)), (2, .int a0), (3, .int (nI b))] → W p l e R s m args below meth c H locs 0 0 Q (F0 m 28 ls []) := by
  have hx := C.1
  have hb := C.2.1
  have hown := C.2.2.2.2.2.1
  have hts := C.2.2.2.2.2.2.1
  intro n
  induction n with
  | zero =>
    intro j c0 hj hr H locs ls G hl
    have hr2 : cE = c0 := hr
    subst hr2
    refine lv_iload hx hb dX11_check_28 (lv_at hl 0 rfl) ?_
    refine lv_bipush (v := 8) hx hb dX11_check_30 (by decide) ?_
    refine lv_icmp_ge (tgt := 65) hx hb dX11_check_32 (by decide) (fun c_32 => ?_) (fun c_32 => ?_)
    · have n_32 := nb_le (a := 8) (b := j) c_32 (by omega) (by omega)
      have hj8 : j = 8 := by omega
      subst hj8
      exact kk _ _ _ G (lv_sub hl [0, 1, 2, 3, 4, 5, 6] rfl)
    · exact absurd (nb_nle (a := 8) (b := j) c_32 (by omega) (by omega)) (by omega)
  | succ n ih =>
    intro j c0 hj hr H locs ls G hl
    refine lv_iload hx hb dX11_check_28 (lv_at hl 0 rfl) ?_
    refine lv_bipush (v := 8) hx hb dX11_check_30 (by decide) ?_
    refine lv_icmp_ge (tgt := 65) hx hb dX11_check_32 (by decide) (fun c_32 => ?_) (fun c_32 => ?_)
    · exact absurd (nb_le (a := 8) (b := j) c_32 (by omega) (by omega)) (by omega)
    · have n_32 := nb_nle (a := 8) (b := j) c_32 (by omega) (by omega)
      refine lv_iload hx hb dX11_check_35 (lv_at hl 1 rfl) ?_
      refine lv_iconst (v := 1) hx hb dX11_check_37 (by decide) ?_
      refine lv_iand hx hb dX11_check_38 ?_
      refine lv_iconst (v := 1) hx hb dX11_check_39 (by decide) ?_
      refine lv_icmp_ne (tgt := 53) hx hb dX11_check_40 (by decide) (fun c_40 => ?_) (fun c_40 => ?_)
      · refine lv_iload hx hb dX11_check_53 (lv_at hl 1 rfl) ?_
        refine lv_iconst (v := 1) hx hb dX11_check_55 (by decide) ?_
        refine lv_iushr (v := ush c0 1) hx hb dX11_check_56 rfl ?_
        refine lv_istore (lv' := [(4, .int (ush c0 1)), (6, .int (nI j)), (5, .int (nI k)), (0, .ref h), (1, .ref (ad ka)), (2, .int a0), (3, .int (nI b))]) hx hb dX11_check_57 hl (by decide) rfl (fun ls hl => ?_)
        refine lv_iinc (v := nI (j + 1)) (lv' := [(6, .int (nI (j + 1))), (4, .int (ush c0 1)), (5, .int (nI k)), (0, .ref h), (1, .ref (ad ka)), (2, .int a0), (3, .int (nI b))]) hx hb dX11_check_59 hl (k := 1) rfl (nI_1 _) (by decide) rfl (fun ls hl => ?_)
        refine lv_goto (tgt := 28) hx hb dX11_check_62 (by decide) ?_
        exact ih (j + 1) _ (by omega) (by rw [hr]; show crN n (cr1 c0) = _; rw [cr1, if_neg c_40]) _ _ _ G (lv_sub hl [0, 1, 2, 3, 4, 5, 6] rfl)
      · refine lv_iload hx hb dX11_check_43 (lv_at hl 1 rfl) ?_
        refine lv_iconst (v := 1) hx hb dX11_check_45 (by decide) ?_
        refine lv_iushr (v := ush c0 1) hx hb dX11_check_46 rfl ?_
        refine lv_ldc (v := (-306674912)) hx hb hown (hts _ kn_X11_156) dX11_check_47 ?_
        refine lv_ixor hx hb dX11_check_49 ?_
        refine lv_goto (tgt := 57) hx hb dX11_check_50 (by decide) ?_
        refine lv_istore (lv' := [(4, .int ((ush c0 1) ^^^ (-306674912))), (6, .int (nI j)), (5, .int (nI k)), (0, .ref h), (1, .ref (ad ka)), (2, .int a0), (3, .int (nI b))]) hx hb dX11_check_57 hl (by decide) rfl (fun ls hl => ?_)
        refine lv_iinc (v := nI (j + 1)) (lv' := [(6, .int (nI (j + 1))), (4, .int ((ush c0 1) ^^^ (-306674912))), (5, .int (nI k)), (0, .ref h), (1, .ref (ad ka)), (2, .int a0), (3, .int (nI b))]) hx hb dX11_check_59 hl (k := 1) rfl (nI_1 _) (by decide) rfl (fun ls hl => ?_)
        refine lv_goto (tgt := 28) hx hb dX11_check_62 (by decide) ?_
        exact ih (j + 1) _ (by omega) (by rw [hr]; show crN n (cr1 c0) = _; rw [cr1, if_pos c_40]) _ _ _ G (lv_sub hl [0, 1, 2, 3, 4, 5, 6] rfl)
set_option maxRecDepth 100000 in
set_option maxHeartbeats 4000000 in
theorem lp_mcheck {p : Program} {l : Launch} {e : Env} {R : Room} {s : State} {m : MethodId} {args : Array Value} {below : List Frame} {meth : Method} {c : Code} {Z : zT} {A : Nat → Prop} {h : Nat} {ad : Nat → Nat} {iv : ivT} {av : avT} {ka b pa na : Nat} {a0 cE : Int32} {post : Int32 → va_W → Prop} (C : cx p s m args meth c cX11_check 7 (some .int) RX11 "check") (hpa : mdL[pa]? = some (ka, 0, na)) (hna : na < 2 ^ 31) (hb : b ≤ na) (hp : post (cE ^^^ (-1)) (mdW Z h ad iv av)) : ∀ (n : Nat) (k : Nat) (c0 : Int32), k + n = b → cE = crM (av ka) c0 k n → ∀ (H : Heap) (locs : List Loc) (ls : Array Slot), wd Z A s (mdW Z h ad iv av) H locs → lv_has ls 7 [(5, .int (nI k)), (4, .int c0), (0, .ref h), (1, .ref (ad ka)), (2, .int a0), (3, .int (nI b))] → W p l e R s m args below meth c H locs 0 0 (MQ below (va_Qi post (mB Z A) A) args s 0 0 A) (F0 m 6 ls []) := by
  have hx := C.1
  have hb := C.2.1
  have hown := C.2.2.2.2.2.1
  have hts := C.2.2.2.2.2.2.1
  intro n
  induction n with
  | zero =>
    intro k c0 hkn hrE H locs ls G hl
    refine lv_iload hx hb dX11_check_6 (lv_at hl 0 rfl) ?_
    refine lv_iload_n hx hb dX11_check_8 rfl (lv_at hl 5 rfl) ?_
    refine lv_icmp_ge (tgt := 71) hx hb dX11_check_9 (by decide) (fun c_9 => ?_) (fun c_9 => ?_)
    · have n_9 := nb_le (a := b) (b := k) c_9 (by omega) (by omega)
      refine lv_iload hx hb dX11_check_71 (lv_at hl 1 rfl) ?_
      refine lv_iconst (v := (-1)) hx hb dX11_check_73 (by decide) ?_
      refine lv_ixor hx hb dX11_check_74 ?_
      have hr2 : cE = c0 := hrE
      subst hr2
      exact kr_i C G hp (Nat.le_of_ble_eq_true rfl) (Nat.le_of_ble_eq_true rfl) dX11_check_75
    · exact absurd (nb_nle (a := b) (b := k) c_9 (by omega) (by omega)) (by omega)
  | succ n ih =>
    intro k c0 hkn hrE H locs ls G hl
    refine lv_iload hx hb dX11_check_6 (lv_at hl 0 rfl) ?_
    refine lv_iload_n hx hb dX11_check_8 rfl (lv_at hl 5 rfl) ?_
    refine lv_icmp_ge (tgt := 71) hx hb dX11_check_9 (by decide) (fun c_9 => ?_) (fun c_9 => ?_)
    · exact absurd (nb_le (a := b) (b := k) c_9 (by omega) (by omega)) (by omega)
    · have n_9 := nb_nle (a := b) (b := k) c_9 (by omega) (by omega)
      refine lv_iload hx hb dX11_check_12 (lv_at hl 1 rfl) ?_
      refine lv_aload_n hx hb dX11_check_14 rfl (lv_at hl 3 rfl) ?_
      refine lv_iload hx hb dX11_check_15 (lv_at hl 0 rfl) ?_
      refine k_mbl (v := av ka k) (i := k) C G pa (k := ka) (n := na) hpa hna (by omega) rfl dX11_check_17 ?_
      refine lv_sipush (v := 255) hx hb dX11_check_18 (by decide) ?_
      refine lv_iand hx hb dX11_check_21 ?_
      refine lv_ixor hx hb dX11_check_22 ?_
      refine lv_istore (lv' := [(4, .int (c0 ^^^ ((av ka k) &&& 255))), (5, .int (nI k)), (0, .ref h), (1, .ref (ad ka)), (2, .int a0), (3, .int (nI b))]) hx hb dX11_check_23 hl (by decide) rfl (fun ls hl => ?_)
      refine lv_iconst (v := 0) hx hb dX11_check_25 (by decide) ?_
      refine k_topi (y := nI 0) (by rfl) ?_
      refine lv_istore (lv' := [(6, .int (nI 0)), (4, .int (c0 ^^^ ((av ka k) &&& 255))), (5, .int (nI k)), (0, .ref h), (1, .ref (ad ka)), (2, .int a0), (3, .int (nI b))]) hx hb dX11_check_26 hl (by decide) rfl (fun ls hl => ?_)
      refine lp_mbits C (fun H locs ls G hl => ?_) 8 0 _ (by omega) rfl _ _ _ G (lv_sub hl [0, 1, 2, 3, 4, 5, 6] rfl)
      refine lv_iinc (v := nI (k + 1)) (lv' := [(5, .int (nI (k + 1))), (6, .int (nI 8)), (4, .int (crN 8 (c0 ^^^ (av ka k &&& 255)))), (0, .ref h), (1, .ref (ad ka)), (2, .int a0), (3, .int (nI b))]) hx hb dX11_check_65 hl (k := 2) rfl (nI_1 _) (by decide) rfl (fun ls hl => ?_)
      refine lv_goto (tgt := 6) hx hb dX11_check_68 (by decide) ?_
      exact ih (k + 1) _ (by omega) hrE _ _ _ G (lv_sub hl [0, 2, 3, 4, 5, 6] rfl)
set_option maxRecDepth 100000 in
set_option maxHeartbeats 4000000 in
theorem c_X11_check (Z : zT) (l : Launch) (h : Nat) (ad : Nat → Nat) (iv : ivT) (av : avT) (ka a b pa na : Nat) (hpa : mdL[pa]? = some (ka, 0, na)) (hna : na < 2 ^ 31) (hab : a ≤ b) (hbn : b ≤ na) : Ki Z l yX11_check cX11_check 7 (some .int) ({ frames := 0, cells := 0, slots := 0, locals := 0 }) [.ref h, .ref (ad ka), .int (nI a), .int (nI b)] (mdW Z h ad iv av) (fun r u => r = crM (av ka) (-1) a (b - a) ^^^ (-1) ∧ u = mdW Z h ad iv av) := by
  intro sz
  refine Met.ofK (cc := cX11_check) (maxL := 7) (ret := (some .int)) (by decide) (Nat.le_of_ble_eq_true rfl) ?_
  intro p e s m below meth c ls C G hl
  generalize va_A _ sz = A at G ⊢
  have hx := C.1
  have hb := C.2.1
  have hown := C.2.2.2.2.2.1
  have hts := C.2.2.2.2.2.2.1
  refine lv_iconst (v := (-1)) hx hb dX11_check_0 (by decide) ?_
  refine lv_istore (lv' := [(4, .int (-1)), (0, .ref h), (1, .ref (ad ka)), (2, .int (nI a)), (3, .int (nI b))]) hx hb dX11_check_1 hl (by decide) rfl (fun ls hl => ?_)
  refine lv_iload_n hx hb dX11_check_3 rfl (lv_at hl 3 rfl) ?_
  refine lv_istore (lv' := [(5, .int (nI a)), (4, .int (-1)), (0, .ref h), (1, .ref (ad ka)), (2, .int (nI a)), (3, .int (nI b))]) hx hb dX11_check_4 hl (by decide) rfl (fun ls hl => ?_)
  exact lp_mcheck C hpa hna hbn ⟨rfl, rfl⟩ (b - a) a (-1) (by omega) rfl _ _ _ G (lv_sub hl [0, 1, 2, 3, 4, 5] rfl)
