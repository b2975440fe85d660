/-! MODULE Blob (X1), second part. -/
set_option maxRecDepth 100000 in
set_option maxHeartbeats 4000000 in
theorem lp_X1_isSoundCheckpoint {p : Program} {l : Launch} {e : Env} {s : State} {m : MethodId} {args : Array Value} {below : List Frame} {meth : Method} {c : Code} {Z : zT} {A : Nat → Prop} {b q L : Nat} {num ex so : Int32} {bt : Option Nat} {wt : Int32} {f : Nat → Int32} {post : Int32 → va_W → Prop} (C : cx p s m args meth c cX1_isSoundCheckpoint 4 (some .boolean) RX1 "isSoundCheckpoint") (hL : L < 2 ^ 30) (hfr : L = 6 + 5 * ub (f 5) + 4) (hp0 : (∃ k, k < ub (f 5) ∧ ¬ ckC f k) → post 0 (bbW Z b q L num ex so bt wt f)) (hp1 : (∀ k, k < ub (f 5) → ckC f k) → post 1 (bbW Z b q L num ex so bt wt f)) : ∀ (n k : Nat), k + n = ub (f 5) → (∀ i, i < k → ckC f i) → ∀ (H : Heap) (locs : List Loc) (ls : Array Slot), wd Z A s (bbW Z b q L num ex so bt wt f) H locs → lv_has ls 4 [(2, .int (nI k)), (1, .int (cNa f k)), (0, .ref b)] → W p l e ({ frames := 2, cells := 0, slots := 0, locals := 60 }) s m args below meth c H locs 0 0 (MQ below (va_Qi post (mB Z A) A) args s 0 0 A) (F0 m 16 ls []) := by
  have hx := C.1
  have hb := C.2.1
  have hown := C.2.2.2.2.2.1
  have hts := C.2.2.2.2.2.2.1
  intro n
  induction n with
  | zero =>
    intro k hk hi H locs ls G hl
    have hub := ub_lt (f 5)
    refine lv_iload_n hx hb dX1_isSoundCheckpoint_16 rfl (lv_at hl 0 rfl) ?_
    refine lv_aload_n hx hb dX1_isSoundCheckpoint_17 rfl (lv_at hl 2 rfl) ?_
    have hX : List.Perm ([(b, .inr (2, [.int num, .ref q, .int ex, .int so, va_rf bt, .int wt])), (q, aB Z L f)]) ([(b, .inr (2, [.int num, .ref q, .int ex, .int so, va_rf bt, .int wt])), (q, aB Z L f)] ++ ([])) := (perm_ix [0, 1] rfl 2 (by decide) rfl)
    refine kc_i (Wc := [(b, .inr (2, [.int num, .ref q, .int ex, .int so, va_rf bt, .int wt])), (q, aB Z L f)]) (Wr := []) G hX (krV 0 rfl (As := []) (rest := [.int (nI k)]) (ci := 2) (CC := RX1) (T := TX1) (N := 6) C G hX (c_X1_told Z l b q L num ex so bt wt f hL (by omega) _) (gdV ml_X1_27 im_X1_told se_X1_told ii_X1 co_X1_told) (by decide +kernel) ⟨Nat.le_of_ble_eq_true rfl, Nat.le_of_ble_eq_true rfl⟩ rfl 0 rfl hl rfl (Nat.le_of_ble_eq_true rfl) ⟨Nat.le_refl _, Nat.le_refl _⟩ dX1_isSoundCheckpoint_18) (fun r_18 u H locs hu G => ?_)
    obtain ⟨r_18_e, rfl⟩ := hu
    subst r_18_e
    have G : wd Z A s ([(b, .inr (2, [.int num, .ref q, .int ex, .int so, va_rf bt, .int wt])), (q, aB Z L f)]) H locs := G
    refine lv_icmp_ge (tgt := 67) hx hb dX1_isSoundCheckpoint_21 (by decide) (fun c_21 => ?_) (fun c_21 => ?_)
    · refine lv_iconst (v := 1) hx hb dX1_isSoundCheckpoint_67 (by decide) ?_
      exact kr_z C G (by decide) (hp1 (fun i hi2 => hi i (by omega))) (Nat.le_of_ble_eq_true rfl) (Nat.le_of_ble_eq_true rfl) dX1_isSoundCheckpoint_68
    · exact absurd (nI_le (by omega) (by omega)) c_21
  | succ n ih =>
    intro k hk hi H locs ls G hl
    have hub := ub_lt (f 5)
    refine lv_iload_n hx hb dX1_isSoundCheckpoint_16 rfl (lv_at hl 0 rfl) ?_
    refine lv_aload_n hx hb dX1_isSoundCheckpoint_17 rfl (lv_at hl 2 rfl) ?_
    have hX : List.Perm ([(b, .inr (2, [.int num, .ref q, .int ex, .int so, va_rf bt, .int wt])), (q, aB Z L f)]) ([(b, .inr (2, [.int num, .ref q, .int ex, .int so, va_rf bt, .int wt])), (q, aB Z L f)] ++ ([])) := (perm_ix [0, 1] rfl 2 (by decide) rfl)
    refine kc_i (Wc := [(b, .inr (2, [.int num, .ref q, .int ex, .int so, va_rf bt, .int wt])), (q, aB Z L f)]) (Wr := []) G hX (krV 0 rfl (As := []) (rest := [.int (nI k)]) (ci := 2) (CC := RX1) (T := TX1) (N := 6) C G hX (c_X1_told Z l b q L num ex so bt wt f hL (by omega) _) (gdV ml_X1_27 im_X1_told se_X1_told ii_X1 co_X1_told) (by decide +kernel) ⟨Nat.le_of_ble_eq_true rfl, Nat.le_of_ble_eq_true rfl⟩ rfl 0 rfl hl rfl (Nat.le_of_ble_eq_true rfl) ⟨Nat.le_refl _, Nat.le_refl _⟩ dX1_isSoundCheckpoint_18) (fun r_18 u H locs hu G => ?_)
    obtain ⟨r_18_e, rfl⟩ := hu
    subst r_18_e
    have G : wd Z A s ([(b, .inr (2, [.int num, .ref q, .int ex, .int so, va_rf bt, .int wt])), (q, aB Z L f)]) H locs := G
    refine lv_icmp_ge (tgt := 67) hx hb dX1_isSoundCheckpoint_21 (by decide) (fun c_21 => ?_) (fun c_21 => ?_)
    · exact absurd c_21 (nI_ge (by omega) (by omega))
    · refine lv_bipush (v := 6) hx hb dX1_isSoundCheckpoint_24 (by decide) ?_
      refine lv_iconst (v := 5) hx hb dX1_isSoundCheckpoint_26 (by decide) ?_
      refine lv_iload_n hx hb dX1_isSoundCheckpoint_27 rfl (lv_at hl 0 rfl) ?_
      refine lv_imul hx hb dX1_isSoundCheckpoint_28 ?_
      refine lv_iadd hx hb dX1_isSoundCheckpoint_29 ?_
      refine k_topi (y := nI (6 + 5 * k)) (by rw [show (5 : Int32) = nI 5 from rfl, pk_mul, show (6 : Int32) = nI 6 from rfl, nI_add]) ?_
      refine lv_istore_n (lv' := [(3, .int (nI (6 + 5 * k))), (2, .int (nI k)), (1, .int (cNa f k)), (0, .ref b)]) hx hb dX1_isSoundCheckpoint_30 rfl hl (by decide) rfl (fun ls hl => ?_)
      refine lv_aload_n hx hb dX1_isSoundCheckpoint_31 rfl (lv_at hl 3 rfl) ?_
      refine lv_iload_n hx hb dX1_isSoundCheckpoint_32 rfl (lv_at hl 0 rfl) ?_
      have hX : List.Perm ([(b, .inr (2, [.int num, .ref q, .int ex, .int so, va_rf bt, .int wt])), (q, aB Z L f)]) ([(b, .inr (2, [.int num, .ref q, .int ex, .int so, va_rf bt, .int wt])), (q, aB Z L f)] ++ ([])) := (perm_ix [0, 1] rfl 2 (by decide) rfl)
      refine kc_i (Wc := [(b, .inr (2, [.int num, .ref q, .int ex, .int so, va_rf bt, .int wt])), (q, aB Z L f)]) (Wr := []) G hX (krV 1 rfl (As := [.int (nI (6 + 5 * k))]) (rest := []) (ci := 2) (CC := RX1) (T := TX1) (N := 6) C G hX (c_X1_u4At Z l b q L num ex so bt wt f (6 + 5 * k) hL (by omega) _) (gdV ml_X1_31 im_X1_u4At se_X1_u4At ii_X1 co_X1_u4At) (by decide +kernel) ⟨Nat.le_of_ble_eq_true rfl, Nat.le_of_ble_eq_true rfl⟩ rfl 0 rfl hl rfl (Nat.le_of_ble_eq_true rfl) ⟨Nat.le_refl _, Nat.le_refl _⟩ dX1_isSoundCheckpoint_33) (fun r_33 u H locs hu G => ?_)
      obtain ⟨r_33_e, rfl⟩ := hu
      subst r_33_e
      have G : wd Z A s ([(b, .inr (2, [.int num, .ref q, .int ex, .int so, va_rf bt, .int wt])), (q, aB Z L f)]) H locs := G
      refine lv_iload_n hx hb dX1_isSoundCheckpoint_36 rfl (lv_at hl 2 rfl) ?_
      refine lv_icmp_le (tgt := 53) hx hb dX1_isSoundCheckpoint_37 (by decide) (fun c_37 => ?_) (fun c_37 => ?_)
      · refine lv_iconst (v := 0) hx hb dX1_isSoundCheckpoint_53 (by decide) ?_
        exact kr_z C G (by decide) (hp0 ⟨k, by omega, fun z => absurd c_37 (Int32.not_le.mpr z.1)⟩) (Nat.le_of_ble_eq_true rfl) (Nat.le_of_ble_eq_true rfl) dX1_isSoundCheckpoint_54
      · refine lv_aload_n hx hb dX1_isSoundCheckpoint_40 rfl (lv_at hl 3 rfl) ?_
        refine lv_iload_n hx hb dX1_isSoundCheckpoint_41 rfl (lv_at hl 0 rfl) ?_
        refine lv_iconst (v := 4) hx hb dX1_isSoundCheckpoint_42 (by decide) ?_
        refine lv_iadd hx hb dX1_isSoundCheckpoint_43 ?_
        refine k_topi (y := nI (6 + 5 * k + 4)) (by exact nI_add _ 4) ?_
        have hX : List.Perm ([(b, .inr (2, [.int num, .ref q, .int ex, .int so, va_rf bt, .int wt])), (q, aB Z L f)]) ([(b, .inr (2, [.int num, .ref q, .int ex, .int so, va_rf bt, .int wt])), (q, aB Z L f)] ++ ([])) := (perm_ix [0, 1] rfl 2 (by decide) rfl)
        refine kc_i (Wc := [(b, .inr (2, [.int num, .ref q, .int ex, .int so, va_rf bt, .int wt])), (q, aB Z L f)]) (Wr := []) G hX (krV 1 rfl (As := [.int (nI (6 + 5 * k + 4))]) (rest := []) (ci := 2) (CC := RX1) (T := TX1) (N := 6) C G hX (c_X1_octetAtI Z l b q L num ex so bt wt f (6 + 5 * k + 4) hL (by omega) _) (gdV ml_X1_19 im_X1_octetAt se_X1_octetAt ii_X1 co_X1_octetAt) (by decide +kernel) ⟨Nat.le_of_ble_eq_true rfl, Nat.le_of_ble_eq_true rfl⟩ rfl 0 rfl hl rfl (Nat.le_of_ble_eq_true rfl) ⟨Nat.le_refl _, Nat.le_refl _⟩ dX1_isSoundCheckpoint_44) (fun r_44 u H locs hu G => ?_)
        obtain ⟨r_44_e, rfl⟩ := hu
        subst r_44_e
        have G : wd Z A s ([(b, .inr (2, [.int num, .ref q, .int ex, .int so, va_rf bt, .int wt])), (q, aB Z L f)]) H locs := G
        have hX : List.Perm ([(b, .inr (2, [.int num, .ref q, .int ex, .int so, va_rf bt, .int wt])), (q, aB Z L f)]) ([] ++ ([(b, .inr (2, [.int num, .ref q, .int ex, .int so, va_rf bt, .int wt])), (q, aB Z L f)])) := (perm_ix [0, 1] rfl 2 (by decide) rfl)
        refine kc_i (Wc := []) (Wr := [(b, .inr (2, [.int num, .ref q, .int ex, .int so, va_rf bt, .int wt])), (q, aB Z L f)]) G hX (krSN 1 rfl (As := [.int (nI (cP f k))]) (rest := []) (host := "LakeTable") C G hX (c_X10_isPartition Z l (nI (cP f k)) _) (gdP co_X10_isPartition) (by decide) sm_X10_isPartition ii_X10 (by decide +kernel) ⟨Nat.le_of_ble_eq_true rfl, Nat.le_of_ble_eq_true rfl⟩ hl rfl (Nat.le_of_ble_eq_true rfl) ⟨Nat.le_of_ble_eq_true rfl, Nat.le_of_ble_eq_true rfl⟩ dX1_isSoundCheckpoint_47) (fun r_47 u H locs hu G => ?_)
        obtain ⟨hpt, rfl⟩ := hu
        have G : wd Z A s ([(b, .inr (2, [.int num, .ref q, .int ex, .int so, va_rf bt, .int wt])), (q, aB Z L f)]) H locs := G
        refine lv_if_ne (tgt := 55) hx hb dX1_isSoundCheckpoint_50 (by decide) (fun c_50 => ?_) (fun c_50 => ?_)
        · refine lv_aload_n hx hb dX1_isSoundCheckpoint_55 rfl (lv_at hl 3 rfl) ?_
          refine lv_iload_n hx hb dX1_isSoundCheckpoint_56 rfl (lv_at hl 0 rfl) ?_
          have hX : List.Perm ([(b, .inr (2, [.int num, .ref q, .int ex, .int so, va_rf bt, .int wt])), (q, aB Z L f)]) ([(b, .inr (2, [.int num, .ref q, .int ex, .int so, va_rf bt, .int wt])), (q, aB Z L f)] ++ ([])) := (perm_ix [0, 1] rfl 2 (by decide) rfl)
          refine kc_i (Wc := [(b, .inr (2, [.int num, .ref q, .int ex, .int so, va_rf bt, .int wt])), (q, aB Z L f)]) (Wr := []) G hX (krV 1 rfl (As := [.int (nI (6 + 5 * k))]) (rest := []) (ci := 2) (CC := RX1) (T := TX1) (N := 6) C G hX (c_X1_u4At Z l b q L num ex so bt wt f (6 + 5 * k) hL (by omega) _) (gdV ml_X1_31 im_X1_u4At se_X1_u4At ii_X1 co_X1_u4At) (by decide +kernel) ⟨Nat.le_of_ble_eq_true rfl, Nat.le_of_ble_eq_true rfl⟩ rfl 0 rfl hl rfl (Nat.le_of_ble_eq_true rfl) ⟨Nat.le_refl _, Nat.le_refl _⟩ dX1_isSoundCheckpoint_57) (fun r_57 u H locs hu G => ?_)
          obtain ⟨r_57_e, rfl⟩ := hu
          subst r_57_e
          have G : wd Z A s ([(b, .inr (2, [.int num, .ref q, .int ex, .int so, va_rf bt, .int wt])), (q, aB Z L f)]) H locs := G
          refine lv_istore_n (lv' := [(1, .int (cN f k)), (3, .int (nI (6 + 5 * k))), (2, .int (nI k)), (0, .ref b)]) hx hb dX1_isSoundCheckpoint_60 rfl hl (by decide) rfl (fun ls hl => ?_)
          refine lv_iinc (v := nI (k + 1)) (lv' := [(2, .int (nI (k + 1))), (1, .int (cN f k)), (3, .int (nI (6 + 5 * k))), (0, .ref b)]) hx hb dX1_isSoundCheckpoint_61 hl (k := 2) rfl (nI_1 _) (by decide) rfl (fun ls hl => ?_)
          refine lv_goto (tgt := 16) hx hb dX1_isSoundCheckpoint_64 (by decide) ?_
          have hC : ckC f k := ⟨Int32.not_le.mp c_37, (isP_nI (cP_lt f k)).mp (Decidable.byContradiction (fun z => by rw [hpt, if_neg z] at c_50; exact c_50 rfl))⟩
          exact ih (k + 1) (by omega) (lt_s hi hC) _ _ _ G (lv_sub hl [0, 1, 3] rfl)
        · refine lv_iconst (v := 0) hx hb dX1_isSoundCheckpoint_53 (by decide) ?_
          exact kr_z C G (by decide) (hp0 ⟨k, by omega, fun z => by rw [hpt, if_pos ((isP_nI (cP_lt f k)).mpr z.2)] at c_50; exact absurd c_50 (by decide)⟩) (Nat.le_of_ble_eq_true rfl) (Nat.le_of_ble_eq_true rfl) dX1_isSoundCheckpoint_54
set_option maxRecDepth 100000 in
set_option maxHeartbeats 4000000 in
theorem c_X1_isSoundCheckpoint (Z : zT) (l : Launch) (b q L : Nat) (num ex so : Int32) (bt : Option Nat) (wt : Int32) (f : Nat → Int32) (hL : L < 2 ^ 30) (h6 : 6 ≤ L) : Ki Z l yX1_isSoundCheckpoint cX1_isSoundCheckpoint 4 (some .boolean) ({ frames := 2, cells := 0, slots := 0, locals := 60 }) [.ref b] (bbW Z b q L num ex so bt wt f) (fun r u => (¬ (frm f L 5 67 num ∧ ∀ k, k < ub (f 5) → ckC f k) ∧ r = 0 ∧ u = bbW Z b q L num ex so bt wt f) ∨ ((frm f L 5 67 num ∧ ∀ k, k < ub (f 5) → ckC f k) ∧ r = 1 ∧ u = bbW Z b q L num ex so bt wt f)) := by
  intro sz
  refine Met.ofK (cc := cX1_isSoundCheckpoint) (maxL := 4) (ret := (some .boolean)) (by decide) (Nat.le_of_ble_eq_true rfl) ?_
  intro p e s m below meth c ls C G hl
  generalize va_A _ sz = A at G ⊢
  have hx := C.1
  have hb := C.2.1
  have hown := C.2.2.2.2.2.1
  have hts := C.2.2.2.2.2.2.1
  refine lv_aload_n hx hb dX1_isSoundCheckpoint_0 rfl (lv_at hl 0 rfl) ?_
  refine lv_bipush (v := 67) hx hb dX1_isSoundCheckpoint_1 (by decide) ?_
  refine lv_iconst (v := 5) hx hb dX1_isSoundCheckpoint_3 (by decide) ?_
  have hX : List.Perm ([(b, .inr (2, [.int num, .ref q, .int ex, .int so, va_rf bt, .int wt])), (q, aB Z L f)]) ([(b, .inr (2, [.int num, .ref q, .int ex, .int so, va_rf bt, .int wt])), (q, aB Z L f)] ++ ([])) := (perm_ix [0, 1] rfl 2 (by decide) rfl)
  refine kc_i (Wc := [(b, .inr (2, [.int num, .ref q, .int ex, .int so, va_rf bt, .int wt])), (q, aB Z L f)]) (Wr := []) G hX (krV 2 rfl (As := [.int 67, .int 5]) (rest := []) (ci := 2) (CC := RX1) (T := TX1) (N := 6) C G hX (c_X1_isFramed Z l b q L num ex so bt wt f 67 5 (by have := ub_lt (f 5); omega) hL h6 _) (gdV ml_X1_40 im_X1_isFramed se_X1_isFramed ii_X1 co_X1_isFramed) (by decide +kernel) ⟨Nat.le_of_ble_eq_true rfl, Nat.le_of_ble_eq_true rfl⟩ rfl 0 rfl hl rfl (Nat.le_of_ble_eq_true rfl) ⟨Nat.le_of_ble_eq_true rfl, Nat.le_of_ble_eq_true rfl⟩ dX1_isSoundCheckpoint_4) (fun r_4 u H locs hu G => ?_)
  refine lv_if_ne (tgt := 12) hx hb dX1_isSoundCheckpoint_7 (by decide) (fun c_7 => ?_) (fun c_7 => ?_)
  · refine lv_iconst (v := (-1)) hx hb dX1_isSoundCheckpoint_12 (by decide) ?_
    refine lv_istore_n (lv' := [(1, .int (-1)), (0, .ref b)]) hx hb dX1_isSoundCheckpoint_13 rfl hl (by decide) rfl (fun ls hl => ?_)
    refine lv_iconst (v := 0) hx hb dX1_isSoundCheckpoint_14 (by decide) ?_
    refine lv_istore_n (lv' := [(2, .int 0), (1, .int (-1)), (0, .ref b)]) hx hb dX1_isSoundCheckpoint_15 rfl hl (by decide) rfl (fun ls hl => ?_)
    rcases hu with ⟨hn, hr, rfl⟩ | ⟨hfr, hr, rfl⟩
    · exact absurd hr c_7
    · exact lp_X1_isSoundCheckpoint C hL hfr.1 (fun z => Or.inl ⟨fun y => by obtain ⟨k, a, b⟩ := z; exact b (y.2 k a), rfl, rfl⟩) (fun z => Or.inr ⟨⟨hfr, z⟩, rfl, rfl⟩) (ub (f 5)) 0 (by omega) lt_0 _ _ _ G (lv_sub hl [0, 1, 2] rfl)
  · refine lv_iconst (v := 0) hx hb dX1_isSoundCheckpoint_10 (by decide) ?_
    rcases hu with ⟨hn, hr, rfl⟩ | ⟨hfr, hr, rfl⟩
    · exact kr_z C G (by decide) (Or.inl ⟨fun z => hn z.1, rfl, rfl⟩) (Nat.le_of_ble_eq_true rfl) (Nat.le_of_ble_eq_true rfl) dX1_isSoundCheckpoint_11
    · rw [hr] at c_7; exact absurd c_7 (by decide)
set_option maxRecDepth 100000 in
set_option maxHeartbeats 4000000 in
theorem lp_X1_hasActionOn {p : Program} {l : Launch} {e : Env} {s : State} {m : MethodId} {args : Array Value} {below : List Frame} {meth : Method} {c : Code} {Z : zT} {A : Nat → Prop} {b q L : Nat} {num ex so : Int32} {bt : Option Nat} {wt : Int32} {f : Nat → Int32} {pt : Int32} {post : Int32 → va_W → Prop} (C : cx p s m args meth c cX1_hasActionOn 3 (some .boolean) RX1 "hasActionOn") (hL : L < 2 ^ 30) (hfr : L = 6 + 6 * ub (f 5) + 4) (hp0 : (∀ k, k < ub (f 5) → ¬ nI (aP f k) = pt) → post 0 (bbW Z b q L num ex so bt wt f)) (hp1 : (∃ k, k < ub (f 5) ∧ nI (aP f k) = pt) → post 1 (bbW Z b q L num ex so bt wt f)) : ∀ (n k : Nat), k + n = ub (f 5) → (∀ i, i < k → ¬ nI (aP f i) = pt) → ∀ (H : Heap) (locs : List Loc) (ls : Array Slot), wd Z A s (bbW Z b q L num ex so bt wt f) H locs → lv_has ls 3 [(2, .int (nI k)), (0, .ref b), (1, .int pt)] → W p l e ({ frames := 1, cells := 0, slots := 0, locals := 30 }) s m args below meth c H locs 0 0 (MQ below (va_Qi post (mB Z A) A) args s 0 0 A) (F0 m 2 ls []) := by
  have hx := C.1
  have hb := C.2.1
  have hown := C.2.2.2.2.2.1
  have hts := C.2.2.2.2.2.2.1
  intro n
  induction n with
  | zero =>
    intro k hk hi H locs ls G hl
    have hub := ub_lt (f 5)
    refine lv_iload_n hx hb dX1_hasActionOn_2 rfl (lv_at hl 0 rfl) ?_
    refine lv_aload_n hx hb dX1_hasActionOn_3 rfl (lv_at hl 1 rfl) ?_
    have hX : List.Perm ([(b, .inr (2, [.int num, .ref q, .int ex, .int so, va_rf bt, .int wt])), (q, aB Z L f)]) ([(b, .inr (2, [.int num, .ref q, .int ex, .int so, va_rf bt, .int wt])), (q, aB Z L f)] ++ ([])) := (perm_ix [0, 1] rfl 2 (by decide) rfl)
    refine kc_i (Wc := [(b, .inr (2, [.int num, .ref q, .int ex, .int so, va_rf bt, .int wt])), (q, aB Z L f)]) (Wr := []) G hX (krV 0 rfl (As := []) (rest := [.int (nI k)]) (ci := 2) (CC := RX1) (T := TX1) (N := 6) C G hX (c_X1_told Z l b q L num ex so bt wt f hL (by omega) _) (gdV ml_X1_27 im_X1_told se_X1_told ii_X1 co_X1_told) (by decide +kernel) ⟨Nat.le_of_ble_eq_true rfl, Nat.le_of_ble_eq_true rfl⟩ rfl 0 rfl hl rfl (Nat.le_of_ble_eq_true rfl) ⟨Nat.le_refl _, Nat.le_refl _⟩ dX1_hasActionOn_4) (fun r_4 u H locs hu G => ?_)
    obtain ⟨r_4_e, rfl⟩ := hu
    subst r_4_e
    have G : wd Z A s ([(b, .inr (2, [.int num, .ref q, .int ex, .int so, va_rf bt, .int wt])), (q, aB Z L f)]) H locs := G
    refine lv_icmp_ge (tgt := 35) hx hb dX1_hasActionOn_7 (by decide) (fun c_7 => ?_) (fun c_7 => ?_)
    · refine lv_iconst (v := 0) hx hb dX1_hasActionOn_35 (by decide) ?_
      exact kr_z C G (by decide) (hp0 (fun i hi2 => hi i (by omega))) (Nat.le_of_ble_eq_true rfl) (Nat.le_of_ble_eq_true rfl) dX1_hasActionOn_36
    · exact absurd (nI_le (by omega) (by omega)) c_7
  | succ n ih =>
    intro k hk hi H locs ls G hl
    have hub := ub_lt (f 5)
    refine lv_iload_n hx hb dX1_hasActionOn_2 rfl (lv_at hl 0 rfl) ?_
    refine lv_aload_n hx hb dX1_hasActionOn_3 rfl (lv_at hl 1 rfl) ?_
    have hX : List.Perm ([(b, .inr (2, [.int num, .ref q, .int ex, .int so, va_rf bt, .int wt])), (q, aB Z L f)]) ([(b, .inr (2, [.int num, .ref q, .int ex, .int so, va_rf bt, .int wt])), (q, aB Z L f)] ++ ([])) := (perm_ix [0, 1] rfl 2 (by decide) rfl)
    refine kc_i (Wc := [(b, .inr (2, [.int num, .ref q, .int ex, .int so, va_rf bt, .int wt])), (q, aB Z L f)]) (Wr := []) G hX (krV 0 rfl (As := []) (rest := [.int (nI k)]) (ci := 2) (CC := RX1) (T := TX1) (N := 6) C G hX (c_X1_told Z l b q L num ex so bt wt f hL (by omega) _) (gdV ml_X1_27 im_X1_told se_X1_told ii_X1 co_X1_told) (by decide +kernel) ⟨Nat.le_of_ble_eq_true rfl, Nat.le_of_ble_eq_true rfl⟩ rfl 0 rfl hl rfl (Nat.le_of_ble_eq_true rfl) ⟨Nat.le_refl _, Nat.le_refl _⟩ dX1_hasActionOn_4) (fun r_4 u H locs hu G => ?_)
    obtain ⟨r_4_e, rfl⟩ := hu
    subst r_4_e
    have G : wd Z A s ([(b, .inr (2, [.int num, .ref q, .int ex, .int so, va_rf bt, .int wt])), (q, aB Z L f)]) H locs := G
    refine lv_icmp_ge (tgt := 35) hx hb dX1_hasActionOn_7 (by decide) (fun c_7 => ?_) (fun c_7 => ?_)
    · exact absurd c_7 (nI_ge (by omega) (by omega))
    · refine lv_aload_n hx hb dX1_hasActionOn_10 rfl (lv_at hl 1 rfl) ?_
      refine lv_bipush (v := 6) hx hb dX1_hasActionOn_11 (by decide) ?_
      refine lv_bipush (v := 6) hx hb dX1_hasActionOn_13 (by decide) ?_
      refine lv_iload_n hx hb dX1_hasActionOn_15 rfl (lv_at hl 0 rfl) ?_
      refine lv_imul hx hb dX1_hasActionOn_16 ?_
      refine lv_iadd hx hb dX1_hasActionOn_17 ?_
      refine lv_iconst (v := 5) hx hb dX1_hasActionOn_18 (by decide) ?_
      refine lv_iadd hx hb dX1_hasActionOn_19 ?_
      refine k_topi (y := nI (6 + 6 * k + 5)) (by rw [show (6 : Int32) = nI 6 from rfl, pk_mul, nI_add]; exact nI_add _ 5) ?_
      have hX : List.Perm ([(b, .inr (2, [.int num, .ref q, .int ex, .int so, va_rf bt, .int wt])), (q, aB Z L f)]) ([(b, .inr (2, [.int num, .ref q, .int ex, .int so, va_rf bt, .int wt])), (q, aB Z L f)] ++ ([])) := (perm_ix [0, 1] rfl 2 (by decide) rfl)
      refine kc_i (Wc := [(b, .inr (2, [.int num, .ref q, .int ex, .int so, va_rf bt, .int wt])), (q, aB Z L f)]) (Wr := []) G hX (krV 1 rfl (As := [.int (nI (6 + 6 * k + 5))]) (rest := []) (ci := 2) (CC := RX1) (T := TX1) (N := 6) C G hX (c_X1_octetAtI Z l b q L num ex so bt wt f (6 + 6 * k + 5) hL (by omega) _) (gdV ml_X1_19 im_X1_octetAt se_X1_octetAt ii_X1 co_X1_octetAt) (by decide +kernel) ⟨Nat.le_of_ble_eq_true rfl, Nat.le_of_ble_eq_true rfl⟩ rfl 0 rfl hl rfl (Nat.le_of_ble_eq_true rfl) ⟨Nat.le_refl _, Nat.le_refl _⟩ dX1_hasActionOn_20) (fun r_20 u H locs hu G => ?_)
      obtain ⟨r_20_e, rfl⟩ := hu
      subst r_20_e
      have G : wd Z A s ([(b, .inr (2, [.int num, .ref q, .int ex, .int so, va_rf bt, .int wt])), (q, aB Z L f)]) H locs := G
      refine lv_iload_n hx hb dX1_hasActionOn_23 rfl (lv_at hl 2 rfl) ?_
      refine lv_icmp_ne (tgt := 29) hx hb dX1_hasActionOn_24 (by decide) (fun c_24 => ?_) (fun c_24 => ?_)
      · refine lv_iinc (v := nI (k + 1)) (lv' := [(2, .int (nI (k + 1))), (0, .ref b), (1, .int pt)]) hx hb dX1_hasActionOn_29 hl (k := 0) rfl (nI_1 _) (by decide) rfl (fun ls hl => ?_)
        refine lv_goto (tgt := 2) hx hb dX1_hasActionOn_32 (by decide) ?_
        exact ih (k + 1) (by omega) (lt_s hi c_24) _ _ _ G (lv_sub hl [0, 1, 2] rfl)
      · refine lv_iconst (v := 1) hx hb dX1_hasActionOn_27 (by decide) ?_
        exact kr_z C G (by decide) (hp1 ⟨k, by omega, c_24⟩) (Nat.le_of_ble_eq_true rfl) (Nat.le_of_ble_eq_true rfl) dX1_hasActionOn_28
set_option maxRecDepth 100000 in
set_option maxHeartbeats 4000000 in
theorem c_X1_hasActionOn (Z : zT) (l : Launch) (b q L : Nat) (num ex so : Int32) (bt : Option Nat) (wt : Int32) (f : Nat → Int32) (pt : Int32) (hL : L < 2 ^ 30) (hfr : L = 6 + 6 * ub (f 5) + 4) : Ki Z l yX1_hasActionOn cX1_hasActionOn 3 (some .boolean) ({ frames := 1, cells := 0, slots := 0, locals := 30 }) [.ref b, .int pt] (bbW Z b q L num ex so bt wt f) (fun r u => ((∀ k, k < ub (f 5) → ¬ nI (aP f k) = pt) ∧ r = 0 ∧ u = bbW Z b q L num ex so bt wt f) ∨ ((∃ k, k < ub (f 5) ∧ nI (aP f k) = pt) ∧ r = 1 ∧ u = bbW Z b q L num ex so bt wt f)) := by
  intro sz
  refine Met.ofK (cc := cX1_hasActionOn) (maxL := 3) (ret := (some .boolean)) (by decide) (Nat.le_of_ble_eq_true rfl) ?_
  intro p e s m below meth c ls C G hl
  generalize va_A _ sz = A at G ⊢
  have hx := C.1
  have hb := C.2.1
  have hown := C.2.2.2.2.2.1
  have hts := C.2.2.2.2.2.2.1
  refine lv_iconst (v := 0) hx hb dX1_hasActionOn_0 (by decide) ?_
  refine lv_istore_n (lv' := [(2, .int 0), (0, .ref b), (1, .int pt)]) hx hb dX1_hasActionOn_1 rfl hl (by decide) rfl (fun ls hl => ?_)
  exact lp_X1_hasActionOn C hL hfr (fun z => Or.inl ⟨z, rfl, rfl⟩) (fun z => Or.inr ⟨z, rfl, rfl⟩) (ub (f 5)) 0 (by omega) lt_0 _ _ _ G (lv_sub hl [0, 1, 2] rfl)
theorem apF_none {f : Nat → Int32} {F : flT} {k t : Nat} (h : apF f F (k + 1) = none) (ht : k < t) : apF f F t = none := by
  obtain ⟨d, rfl⟩ : ∃ d, t = k + 1 + d := ⟨t - (k + 1), by omega⟩
  induction d with
  | zero => exact h
  | succ d ih =>
    show (apF f F (k + 1 + d)).bind _ = none
    rw [ih (by omega)]; rfl
set_option maxRecDepth 100000 in
set_option maxHeartbeats 4000000 in
theorem lp_X1_applyTo {p : Program} {l : Launch} {e : Env} {s : State} {m : MethodId} {args : Array Value} {below : List Frame} {meth : Method} {c : Code} {Z : zT} {A : Nat → Prop} {b q L : Nat} {num ex so : Int32} {bt : Option Nat} {wt : Int32} {f : Nat → Int32} {h qn qp : Nat} {FA : flT} {post : Int32 → va_W → Prop} (C : cx p s m args meth c cX1_applyTo 4 (some .boolean) RX1 "applyTo") (hL : L < 2 ^ 30) (hfr : L = 6 + 6 * ub (f 5) + 4) (hp0 : apF f FA (ub (f 5)) = none → ∀ (m2 : Nat) (N Pt : Nat → Int32), m2 ≤ 200 → post 0 (bbW Z b q L num ex so bt wt f ++ flW Z h qn qp m2 N Pt)) (hp1 : ∀ (F : flT) (N Pt : Nat → Int32), apF f FA (ub (f 5)) = some F → F.length ≤ 200 → fl_at N Pt F → fl_so F → post 1 (bbW Z b q L num ex so bt wt f ++ flW Z h qn qp F.length N Pt)) : ∀ (n k : Nat) (F : flT) (N Pt : Nat → Int32), k + n = ub (f 5) → apF f FA k = some F → F.length ≤ 200 → fl_at N Pt F → fl_so F → ∀ (H : Heap) (locs : List Loc) (ls : Array Slot), wd Z A s (bbW Z b q L num ex so bt wt f ++ flW Z h qn qp F.length N Pt) H locs → lv_has ls 4 [(2, .int (nI k)), (0, .ref b), (1, .ref h)] → W p l e ({ frames := 3, cells := 0, slots := 0, locals := 90 }) s m args below meth c H locs 0 0 (MQ below (va_Qi post (mB Z A) A) args s 0 0 A) (F0 m 2 ls []) := by
  have hx := C.1
  have hb := C.2.1
  have hown := C.2.2.2.2.2.1
  have hts := C.2.2.2.2.2.2.1
  intro n
  induction n with
  | zero =>
    intro k F N Pt hk hap hm hfl hso H locs ls G hl
    have hub := ub_lt (f 5)
    have hak : aK f k < 256 := ub_lt _
    refine lv_iload_n hx hb dX1_applyTo_2 rfl (lv_at hl 0 rfl) ?_
    refine lv_aload_n hx hb dX1_applyTo_3 rfl (lv_at hl 1 rfl) ?_
    have hX : List.Perm ([(b, .inr (2, [.int num, .ref q, .int ex, .int so, va_rf bt, .int wt])), (q, aB Z L f), (h, .inr (4, [.ref qn, .ref qp, .int (nI F.length)])), (qn, aI Z 200 N), (qp, aI Z 200 Pt)]) ([(b, .inr (2, [.int num, .ref q, .int ex, .int so, va_rf bt, .int wt])), (q, aB Z L f)] ++ ([(h, .inr (4, [.ref qn, .ref qp, .int (nI F.length)])), (qn, aI Z 200 N), (qp, aI Z 200 Pt)])) := (perm_ix [0, 1, 2, 3, 4] rfl 5 (by decide) rfl)
    refine kc_i (Wc := [(b, .inr (2, [.int num, .ref q, .int ex, .int so, va_rf bt, .int wt])), (q, aB Z L f)]) (Wr := [(h, .inr (4, [.ref qn, .ref qp, .int (nI F.length)])), (qn, aI Z 200 N), (qp, aI Z 200 Pt)]) G hX (krV 0 rfl (As := []) (rest := [.int (nI k)]) (ci := 2) (CC := RX1) (T := TX1) (N := 6) C G hX (c_X1_told Z l b q L num ex so bt wt f hL (by omega) _) (gdV ml_X1_27 im_X1_told se_X1_told ii_X1 co_X1_told) (by decide +kernel) ⟨Nat.le_of_ble_eq_true rfl, Nat.le_of_ble_eq_true rfl⟩ rfl 0 rfl hl rfl (Nat.le_of_ble_eq_true rfl) ⟨Nat.le_refl _, Nat.le_refl _⟩ dX1_applyTo_4) (fun r_4 u H locs hu G => ?_)
    obtain ⟨r_4_e, rfl⟩ := hu
    subst r_4_e
    have G : wd Z A s ([(b, .inr (2, [.int num, .ref q, .int ex, .int so, va_rf bt, .int wt])), (q, aB Z L f), (h, .inr (4, [.ref qn, .ref qp, .int (nI F.length)])), (qn, aI Z 200 N), (qp, aI Z 200 Pt)]) H locs := G
    refine lv_icmp_ge (tgt := 70) hx hb dX1_applyTo_7 (by decide) (fun c_7 => ?_) (fun c_7 => ?_)
    · refine lv_iconst (v := 1) hx hb dX1_applyTo_70 (by decide) ?_
      exact kr_z C G (by decide) (hp1 F N Pt (by rw [← hap]; congr 1; omega) hm hfl hso) (Nat.le_of_ble_eq_true rfl) (Nat.le_of_ble_eq_true rfl) dX1_applyTo_71
    · exact absurd (nI_le (by omega) (by omega)) c_7
  | succ n ih =>
    intro k F N Pt hk hap hm hfl hso H locs ls G hl
    have hub := ub_lt (f 5)
    have hak : aK f k < 256 := ub_lt _
    refine lv_iload_n hx hb dX1_applyTo_2 rfl (lv_at hl 0 rfl) ?_
    refine lv_aload_n hx hb dX1_applyTo_3 rfl (lv_at hl 1 rfl) ?_
    have hX : List.Perm ([(b, .inr (2, [.int num, .ref q, .int ex, .int so, va_rf bt, .int wt])), (q, aB Z L f), (h, .inr (4, [.ref qn, .ref qp, .int (nI F.length)])), (qn, aI Z 200 N), (qp, aI Z 200 Pt)]) ([(b, .inr (2, [.int num, .ref q, .int ex, .int so, va_rf bt, .int wt])), (q, aB Z L f)] ++ ([(h, .inr (4, [.ref qn, .ref qp, .int (nI F.length)])), (qn, aI Z 200 N), (qp, aI Z 200 Pt)])) := (perm_ix [0, 1, 2, 3, 4] rfl 5 (by decide) rfl)
    refine kc_i (Wc := [(b, .inr (2, [.int num, .ref q, .int ex, .int so, va_rf bt, .int wt])), (q, aB Z L f)]) (Wr := [(h, .inr (4, [.ref qn, .ref qp, .int (nI F.length)])), (qn, aI Z 200 N), (qp, aI Z 200 Pt)]) G hX (krV 0 rfl (As := []) (rest := [.int (nI k)]) (ci := 2) (CC := RX1) (T := TX1) (N := 6) C G hX (c_X1_told Z l b q L num ex so bt wt f hL (by omega) _) (gdV ml_X1_27 im_X1_told se_X1_told ii_X1 co_X1_told) (by decide +kernel) ⟨Nat.le_of_ble_eq_true rfl, Nat.le_of_ble_eq_true rfl⟩ rfl 0 rfl hl rfl (Nat.le_of_ble_eq_true rfl) ⟨Nat.le_refl _, Nat.le_refl _⟩ dX1_applyTo_4) (fun r_4 u H locs hu G => ?_)
    obtain ⟨r_4_e, rfl⟩ := hu
    subst r_4_e
    have G : wd Z A s ([(b, .inr (2, [.int num, .ref q, .int ex, .int so, va_rf bt, .int wt])), (q, aB Z L f), (h, .inr (4, [.ref qn, .ref qp, .int (nI F.length)])), (qn, aI Z 200 N), (qp, aI Z 200 Pt)]) H locs := G
    refine lv_icmp_ge (tgt := 70) hx hb dX1_applyTo_7 (by decide) (fun c_7 => ?_) (fun c_7 => ?_)
    · exact absurd c_7 (nI_ge (by omega) (by omega))
    · refine lv_bipush (v := 6) hx hb dX1_applyTo_10 (by decide) ?_
      refine lv_bipush (v := 6) hx hb dX1_applyTo_12 (by decide) ?_
      refine lv_iload_n hx hb dX1_applyTo_14 rfl (lv_at hl 0 rfl) ?_
      refine lv_imul hx hb dX1_applyTo_15 ?_
      refine lv_iadd hx hb dX1_applyTo_16 ?_
      refine k_topi (y := nI (6 + 6 * k)) (by rw [show (6 : Int32) = nI 6 from rfl, pk_mul, nI_add]) ?_
      refine lv_istore_n (lv' := [(3, .int (nI (6 + 6 * k))), (2, .int (nI k)), (0, .ref b), (1, .ref h)]) hx hb dX1_applyTo_17 rfl hl (by decide) rfl (fun ls hl => ?_)
      refine lv_aload_n hx hb dX1_applyTo_18 rfl (lv_at hl 2 rfl) ?_
      refine lv_iload_n hx hb dX1_applyTo_19 rfl (lv_at hl 0 rfl) ?_
      have hX : List.Perm ([(b, .inr (2, [.int num, .ref q, .int ex, .int so, va_rf bt, .int wt])), (q, aB Z L f), (h, .inr (4, [.ref qn, .ref qp, .int (nI F.length)])), (qn, aI Z 200 N), (qp, aI Z 200 Pt)]) ([(b, .inr (2, [.int num, .ref q, .int ex, .int so, va_rf bt, .int wt])), (q, aB Z L f)] ++ ([(h, .inr (4, [.ref qn, .ref qp, .int (nI F.length)])), (qn, aI Z 200 N), (qp, aI Z 200 Pt)])) := (perm_ix [0, 1, 2, 3, 4] rfl 5 (by decide) rfl)
      refine kc_i (Wc := [(b, .inr (2, [.int num, .ref q, .int ex, .int so, va_rf bt, .int wt])), (q, aB Z L f)]) (Wr := [(h, .inr (4, [.ref qn, .ref qp, .int (nI F.length)])), (qn, aI Z 200 N), (qp, aI Z 200 Pt)]) G hX (krV 1 rfl (As := [.int (nI (6 + 6 * k))]) (rest := []) (ci := 2) (CC := RX1) (T := TX1) (N := 6) C G hX (c_X1_octetAtI Z l b q L num ex so bt wt f (6 + 6 * k) hL (by omega) _) (gdV ml_X1_19 im_X1_octetAt se_X1_octetAt ii_X1 co_X1_octetAt) (by decide +kernel) ⟨Nat.le_of_ble_eq_true rfl, Nat.le_of_ble_eq_true rfl⟩ rfl 0 rfl hl rfl (Nat.le_of_ble_eq_true rfl) ⟨Nat.le_refl _, Nat.le_refl _⟩ dX1_applyTo_20) (fun r_20 u H locs hu G => ?_)
      obtain ⟨r_20_e, rfl⟩ := hu
      subst r_20_e
      have G : wd Z A s ([(b, .inr (2, [.int num, .ref q, .int ex, .int so, va_rf bt, .int wt])), (q, aB Z L f), (h, .inr (4, [.ref qn, .ref qp, .int (nI F.length)])), (qn, aI Z 200 N), (qp, aI Z 200 Pt)]) H locs := G
      refine lv_iconst (v := 2) hx hb dX1_applyTo_23 (by decide) ?_
      refine lv_icmp_ne (tgt := 41) hx hb dX1_applyTo_24 (by decide) (fun c_24 => ?_) (fun c_24 => ?_)
      · have hk2 : ¬ aK f k = 2 := fun z => c_24 (show nI (aK f k) = 2 from by rw [z]; rfl)
        refine lv_aload_n hx hb dX1_applyTo_41 rfl (lv_at hl 3 rfl) ?_
        refine lv_aload_n hx hb dX1_applyTo_42 rfl (lv_at hl 2 rfl) ?_
        refine lv_iload_n hx hb dX1_applyTo_43 rfl (lv_at hl 0 rfl) ?_
        refine lv_iconst (v := 1) hx hb dX1_applyTo_44 (by decide) ?_
        refine lv_iadd hx hb dX1_applyTo_45 ?_
        refine k_topi (y := nI (6 + 6 * k + 1)) (by exact nI_1 _) ?_
        have hX : List.Perm ([(b, .inr (2, [.int num, .ref q, .int ex, .int so, va_rf bt, .int wt])), (q, aB Z L f), (h, .inr (4, [.ref qn, .ref qp, .int (nI F.length)])), (qn, aI Z 200 N), (qp, aI Z 200 Pt)]) ([(b, .inr (2, [.int num, .ref q, .int ex, .int so, va_rf bt, .int wt])), (q, aB Z L f)] ++ ([(h, .inr (4, [.ref qn, .ref qp, .int (nI F.length)])), (qn, aI Z 200 N), (qp, aI Z 200 Pt)])) := (perm_ix [0, 1, 2, 3, 4] rfl 5 (by decide) rfl)
        refine kc_i (Wc := [(b, .inr (2, [.int num, .ref q, .int ex, .int so, va_rf bt, .int wt])), (q, aB Z L f)]) (Wr := [(h, .inr (4, [.ref qn, .ref qp, .int (nI F.length)])), (qn, aI Z 200 N), (qp, aI Z 200 Pt)]) G hX (krV 1 rfl (As := [.int (nI (6 + 6 * k + 1))]) (rest := [.ref h]) (ci := 2) (CC := RX1) (T := TX1) (N := 6) C G hX (c_X1_u4At Z l b q L num ex so bt wt f (6 + 6 * k + 1) hL (by omega) _) (gdV ml_X1_31 im_X1_u4At se_X1_u4At ii_X1 co_X1_u4At) (by decide +kernel) ⟨Nat.le_of_ble_eq_true rfl, Nat.le_of_ble_eq_true rfl⟩ rfl 0 rfl hl rfl (Nat.le_of_ble_eq_true rfl) ⟨Nat.le_refl _, Nat.le_refl _⟩ dX1_applyTo_46) (fun r_46 u H locs hu G => ?_)
        obtain ⟨r_46_e, rfl⟩ := hu
        subst r_46_e
        have G : wd Z A s ([(b, .inr (2, [.int num, .ref q, .int ex, .int so, va_rf bt, .int wt])), (q, aB Z L f), (h, .inr (4, [.ref qn, .ref qp, .int (nI F.length)])), (qn, aI Z 200 N), (qp, aI Z 200 Pt)]) H locs := G
        refine lv_aload_n hx hb dX1_applyTo_49 rfl (lv_at hl 2 rfl) ?_
        refine lv_iload_n hx hb dX1_applyTo_50 rfl (lv_at hl 0 rfl) ?_
        refine lv_iconst (v := 5) hx hb dX1_applyTo_51 (by decide) ?_
        refine lv_iadd hx hb dX1_applyTo_52 ?_
        refine k_topi (y := nI (6 + 6 * k + 5)) (by exact nI_add _ 5) ?_
        have hX : List.Perm ([(b, .inr (2, [.int num, .ref q, .int ex, .int so, va_rf bt, .int wt])), (q, aB Z L f), (h, .inr (4, [.ref qn, .ref qp, .int (nI F.length)])), (qn, aI Z 200 N), (qp, aI Z 200 Pt)]) ([(b, .inr (2, [.int num, .ref q, .int ex, .int so, va_rf bt, .int wt])), (q, aB Z L f)] ++ ([(h, .inr (4, [.ref qn, .ref qp, .int (nI F.length)])), (qn, aI Z 200 N), (qp, aI Z 200 Pt)])) := (perm_ix [0, 1, 2, 3, 4] rfl 5 (by decide) rfl)
        refine kc_i (Wc := [(b, .inr (2, [.int num, .ref q, .int ex, .int so, va_rf bt, .int wt])), (q, aB Z L f)]) (Wr := [(h, .inr (4, [.ref qn, .ref qp, .int (nI F.length)])), (qn, aI Z 200 N), (qp, aI Z 200 Pt)]) G hX (krV 1 rfl (As := [.int (nI (6 + 6 * k + 5))]) (rest := [.int (aN f k), .ref h]) (ci := 2) (CC := RX1) (T := TX1) (N := 6) C G hX (c_X1_octetAtI Z l b q L num ex so bt wt f (6 + 6 * k + 5) hL (by omega) _) (gdV ml_X1_19 im_X1_octetAt se_X1_octetAt ii_X1 co_X1_octetAt) (by decide +kernel) ⟨Nat.le_of_ble_eq_true rfl, Nat.le_of_ble_eq_true rfl⟩ rfl 0 rfl hl rfl (Nat.le_of_ble_eq_true rfl) ⟨Nat.le_refl _, Nat.le_refl _⟩ dX1_applyTo_53) (fun r_53 u H locs hu G => ?_)
        obtain ⟨r_53_e, rfl⟩ := hu
        subst r_53_e
        have G : wd Z A s ([(b, .inr (2, [.int num, .ref q, .int ex, .int so, va_rf bt, .int wt])), (q, aB Z L f), (h, .inr (4, [.ref qn, .ref qp, .int (nI F.length)])), (qn, aI Z 200 N), (qp, aI Z 200 Pt)]) H locs := G
        have hX : List.Perm ([(b, .inr (2, [.int num, .ref q, .int ex, .int so, va_rf bt, .int wt])), (q, aB Z L f), (h, .inr (4, [.ref qn, .ref qp, .int (nI F.length)])), (qn, aI Z 200 N), (qp, aI Z 200 Pt)]) ([(h, .inr (4, [.ref qn, .ref qp, .int (nI F.length)])), (qn, aI Z 200 N), (qp, aI Z 200 Pt)] ++ ([(b, .inr (2, [.int num, .ref q, .int ex, .int so, va_rf bt, .int wt])), (q, aB Z L f)])) := (perm_ix [2, 3, 4, 0, 1] rfl 5 (by decide) rfl)
        refine kc_i (Wc := [(h, .inr (4, [.ref qn, .ref qp, .int (nI F.length)])), (qn, aI Z 200 N), (qp, aI Z 200 Pt)]) (Wr := [(b, .inr (2, [.int num, .ref q, .int ex, .int so, va_rf bt, .int wt])), (q, aB Z L f)]) G hX (krV 2 rfl (As := [.int (aN f k), .int (nI (aP f k))]) (rest := []) (ci := 4) (CC := RX3) (T := TX3) (N := 3) C G hX (c_X3_add Z l h qn qp (aN f k) (nI (aP f k)) N Pt F hm hfl hso _) (gdV ml_X1_54 im_X3_add se_X3_add ii_X3 co_X3_add) (by decide +kernel) ⟨Nat.le_of_ble_eq_true rfl, Nat.le_of_ble_eq_true rfl⟩ rfl 0 rfl hl rfl (Nat.le_of_ble_eq_true rfl) ⟨Nat.le_refl _, Nat.le_refl _⟩ dX1_applyTo_56) (fun r_56 u H locs hu G => ?_)
        obtain ⟨F2, N2, P2, hA, hfl2, hso2, hm2, rfl⟩ : ∃ F2 N2 P2, ((r_56 = 0 ∧ apA f k F = none) ∨ (¬ r_56 = 0 ∧ apA f k F = some F2)) ∧ fl_at N2 P2 F2 ∧ fl_so F2 ∧ F2.length ≤ 200 ∧ u = flW Z h qn qp F2.length N2 P2 := by
          rcases hu with ⟨hy, hr, rfl⟩ | ⟨hn, h2, hr, rfl⟩ | ⟨hn, h2, hr, N2, P2, h9, rfl⟩
          · exact ⟨F, N, Pt, Or.inr ⟨by rw [hr]; decide, by rw [apA, if_neg hk2, if_pos (fl_hB_iff.mpr hy)]⟩, hfl, hso, hm, rfl⟩
          · exact ⟨F, N, Pt, Or.inl ⟨hr, by rw [apA, if_neg hk2, if_neg (fun z => hn (fl_hB_iff.mp z)), if_pos h2]⟩, hfl, hso, hm, rfl⟩
          · exact ⟨fl_ins F (aN f k) (nI (aP f k)), N2, P2, Or.inr ⟨by rw [hr]; decide, by rw [apA, if_neg hk2, if_neg (fun z => hn (fl_hB_iff.mp z)), if_neg (by omega)]⟩, h9, fl_so_ins hso hn, by rw [fl_ins_len]; omega, by rw [fl_ins_len]⟩
        have G : wd Z A s ([(b, .inr (2, [.int num, .ref q, .int ex, .int so, va_rf bt, .int wt])), (q, aB Z L f), (h, .inr (4, [.ref qn, .ref qp, .int (nI F2.length)])), (qn, aI Z 200 N2), (qp, aI Z 200 P2)]) H locs := G.perm (perm_ix [3, 4, 0, 1, 2] rfl 5 (by decide) rfl)
        refine lv_if_ne (tgt := 64) hx hb dX1_applyTo_59 (by decide) (fun c_59 => ?_) (fun c_59 => ?_)
        · refine lv_iinc (v := nI (k + 1)) (lv' := [(2, .int (nI (k + 1))), (3, .int (nI (6 + 6 * k))), (0, .ref b), (1, .ref h)]) hx hb dX1_applyTo_64 hl (k := 1) rfl (nI_1 _) (by decide) rfl (fun ls hl => ?_)
          refine lv_goto (tgt := 2) hx hb dX1_applyTo_67 (by decide) ?_
          exact ih (k + 1) F2 N2 P2 (by omega) (by rw [apF, hap]; exact (hA.resolve_left (fun z => c_59 z.1)).2) hm2 hfl2 hso2 _ _ _ G (lv_sub hl [0, 2, 3] rfl)
        · refine lv_iconst (v := 0) hx hb dX1_applyTo_62 (by decide) ?_
          exact kr_z C G (by decide) (hp0 (apF_none (k := k) (by rw [apF, hap]; exact (hA.resolve_right (fun z => z.1 c_59)).2) (by omega)) F2.length N2 P2 hm2) (Nat.le_of_ble_eq_true rfl) (Nat.le_of_ble_eq_true rfl) dX1_applyTo_63
      · have hk2 : aK f k = 2 := (nI_eq (b := 2) (by omega) (by omega)).mp c_24
        refine lv_aload_n hx hb dX1_applyTo_27 rfl (lv_at hl 3 rfl) ?_
        refine lv_aload_n hx hb dX1_applyTo_28 rfl (lv_at hl 2 rfl) ?_
        refine lv_iload_n hx hb dX1_applyTo_29 rfl (lv_at hl 0 rfl) ?_
        refine lv_iconst (v := 1) hx hb dX1_applyTo_30 (by decide) ?_
        refine lv_iadd hx hb dX1_applyTo_31 ?_
        refine k_topi (y := nI (6 + 6 * k + 1)) (by exact nI_1 _) ?_
        have hX : List.Perm ([(b, .inr (2, [.int num, .ref q, .int ex, .int so, va_rf bt, .int wt])), (q, aB Z L f), (h, .inr (4, [.ref qn, .ref qp, .int (nI F.length)])), (qn, aI Z 200 N), (qp, aI Z 200 Pt)]) ([(b, .inr (2, [.int num, .ref q, .int ex, .int so, va_rf bt, .int wt])), (q, aB Z L f)] ++ ([(h, .inr (4, [.ref qn, .ref qp, .int (nI F.length)])), (qn, aI Z 200 N), (qp, aI Z 200 Pt)])) := (perm_ix [0, 1, 2, 3, 4] rfl 5 (by decide) rfl)
        refine kc_i (Wc := [(b, .inr (2, [.int num, .ref q, .int ex, .int so, va_rf bt, .int wt])), (q, aB Z L f)]) (Wr := [(h, .inr (4, [.ref qn, .ref qp, .int (nI F.length)])), (qn, aI Z 200 N), (qp, aI Z 200 Pt)]) G hX (krV 1 rfl (As := [.int (nI (6 + 6 * k + 1))]) (rest := [.ref h]) (ci := 2) (CC := RX1) (T := TX1) (N := 6) C G hX (c_X1_u4At Z l b q L num ex so bt wt f (6 + 6 * k + 1) hL (by omega) _) (gdV ml_X1_31 im_X1_u4At se_X1_u4At ii_X1 co_X1_u4At) (by decide +kernel) ⟨Nat.le_of_ble_eq_true rfl, Nat.le_of_ble_eq_true rfl⟩ rfl 0 rfl hl rfl (Nat.le_of_ble_eq_true rfl) ⟨Nat.le_refl _, Nat.le_refl _⟩ dX1_applyTo_32) (fun r_32 u H locs hu G => ?_)
        obtain ⟨r_32_e, rfl⟩ := hu
        subst r_32_e
        have G : wd Z A s ([(b, .inr (2, [.int num, .ref q, .int ex, .int so, va_rf bt, .int wt])), (q, aB Z L f), (h, .inr (4, [.ref qn, .ref qp, .int (nI F.length)])), (qn, aI Z 200 N), (qp, aI Z 200 Pt)]) H locs := G
        have hX : List.Perm ([(b, .inr (2, [.int num, .ref q, .int ex, .int so, va_rf bt, .int wt])), (q, aB Z L f), (h, .inr (4, [.ref qn, .ref qp, .int (nI F.length)])), (qn, aI Z 200 N), (qp, aI Z 200 Pt)]) ([(h, .inr (4, [.ref qn, .ref qp, .int (nI F.length)])), (qn, aI Z 200 N), (qp, aI Z 200 Pt)] ++ ([(b, .inr (2, [.int num, .ref q, .int ex, .int so, va_rf bt, .int wt])), (q, aB Z L f)])) := (perm_ix [2, 3, 4, 0, 1] rfl 5 (by decide) rfl)
        refine kc_v (Wc := [(h, .inr (4, [.ref qn, .ref qp, .int (nI F.length)])), (qn, aI Z 200 N), (qp, aI Z 200 Pt)]) (Wr := [(b, .inr (2, [.int num, .ref q, .int ex, .int so, va_rf bt, .int wt])), (q, aB Z L f)]) G hX (krV 1 rfl (As := [.int (aN f k)]) (rest := []) (ci := 4) (CC := RX3) (T := TX3) (N := 3) C G hX (c_X3_remove Z l h qn qp (aN f k) N Pt F hm hfl hso _) (gdV ml_X1_48 im_X3_remove se_X3_remove ii_X3 co_X3_remove) (by decide +kernel) ⟨Nat.le_of_ble_eq_true rfl, Nat.le_of_ble_eq_true rfl⟩ rfl 0 rfl hl rfl (Nat.le_of_ble_eq_true rfl) ⟨Nat.le_refl _, Nat.le_refl _⟩ dX1_applyTo_35) (fun u H locs hu G => ?_)
        obtain ⟨F2, N2, P2, hA, hfl2, hso2, hm2, rfl⟩ : ∃ F2 N2 P2, apA f k F = some F2 ∧ fl_at N2 P2 F2 ∧ fl_so F2 ∧ F2.length ≤ 200 ∧ u = flW Z h qn qp F2.length N2 P2 := by
          rcases hu with ⟨hn, rfl⟩ | ⟨hy, N2, P2, h9, rfl⟩
          · exact ⟨F, N, Pt, by rw [apA, if_pos hk2, if_neg (fun z => hn (fl_hB_iff.mp z))], hfl, hso, hm, rfl⟩
          · refine ⟨fl_del F (aN f k), N2, P2, by rw [apA, if_pos hk2, if_pos (fl_hB_iff.mpr hy)], h9, fl_so_del hso, ?_, ?_⟩
            · have := fl_del_len hy.1; omega
            · rw [← fl_del_len hy.1, Nat.add_sub_cancel]
        have G : wd Z A s ([(b, .inr (2, [.int num, .ref q, .int ex, .int so, va_rf bt, .int wt])), (q, aB Z L f), (h, .inr (4, [.ref qn, .ref qp, .int (nI F2.length)])), (qn, aI Z 200 N2), (qp, aI Z 200 P2)]) H locs := G.perm (perm_ix [3, 4, 0, 1, 2] rfl 5 (by decide) rfl)
        refine lv_goto (tgt := 64) hx hb dX1_applyTo_38 (by decide) ?_
        refine lv_iinc (v := nI (k + 1)) (lv' := [(2, .int (nI (k + 1))), (3, .int (nI (6 + 6 * k))), (0, .ref b), (1, .ref h)]) hx hb dX1_applyTo_64 hl (k := 1) rfl (nI_1 _) (by decide) rfl (fun ls hl => ?_)
        refine lv_goto (tgt := 2) hx hb dX1_applyTo_67 (by decide) ?_
        exact ih (k + 1) F2 N2 P2 (by omega) (by rw [apF, hap]; exact hA) hm2 hfl2 hso2 _ _ _ G (lv_sub hl [0, 2, 3] rfl)
set_option maxRecDepth 100000 in
set_option maxHeartbeats 4000000 in
theorem c_X1_applyTo (Z : zT) (l : Launch) (b q L : Nat) (num ex so : Int32) (bt : Option Nat) (wt : Int32) (f : Nat → Int32) (h qn qp : Nat) (F : flT) (N Pt : Nat → Int32) (hL : L < 2 ^ 30) (hfr : L = 6 + 6 * ub (f 5) + 4) (hm : F.length ≤ 200) (hfl : fl_at N Pt F) (hso : fl_so F) : Ki Z l yX1_applyTo cX1_applyTo 4 (some .boolean) ({ frames := 3, cells := 0, slots := 0, locals := 90 }) [.ref b, .ref h] (bbW Z b q L num ex so bt wt f ++ flW Z h qn qp F.length N Pt) (fun r u => (r = 0 ∧ apF f F (ub (f 5)) = none ∧ ∃ m2 N2 P2, m2 ≤ 200 ∧ u = bbW Z b q L num ex so bt wt f ++ flW Z h qn qp m2 N2 P2) ∨ (r = 1 ∧ ∃ F2 N2 P2, apF f F (ub (f 5)) = some F2 ∧ F2.length ≤ 200 ∧ fl_at N2 P2 F2 ∧ fl_so F2 ∧ u = bbW Z b q L num ex so bt wt f ++ flW Z h qn qp F2.length N2 P2)) := by
  intro sz
  refine Met.ofK (cc := cX1_applyTo) (maxL := 4) (ret := (some .boolean)) (by decide) (Nat.le_of_ble_eq_true rfl) ?_
  intro p e s m below meth c ls C G hl
  generalize va_A _ sz = A at G ⊢
  have hx := C.1
  have hb := C.2.1
  have hown := C.2.2.2.2.2.1
  have hts := C.2.2.2.2.2.2.1
  refine lv_iconst (v := 0) hx hb dX1_applyTo_0 (by decide) ?_
  refine lv_istore_n (lv' := [(2, .int 0), (0, .ref b), (1, .ref h)]) hx hb dX1_applyTo_1 rfl hl (by decide) rfl (fun ls hl => ?_)
  exact lp_X1_applyTo C hL hfr (fun z m2 N Pt h9 => Or.inl ⟨rfl, z, m2, N, Pt, h9, rfl⟩) (fun F2 N2 P2 z h9 ha hb2 => Or.inr ⟨rfl, F2, N2, P2, z, h9, ha, hb2, rfl⟩) (ub (f 5)) 0 F N Pt (by omega) rfl hm hfl hso _ _ _ G (lv_sub hl [0, 1, 2] rfl)
set_option maxRecDepth 100000 in
set_option maxHeartbeats 4000000 in
theorem lp_X1_listTo {p : Program} {l : Launch} {e : Env} {s : State} {m : MethodId} {args : Array Value} {below : List Frame} {meth : Method} {c : Code} {Z : zT} {A : Nat → Prop} {b q L : Nat} {num ex so : Int32} {bt : Option Nat} {wt : Int32} {f : Nat → Int32} {h qn qp : Nat} {FA : flT} {post : va_W → Prop} (C : cx p s m args meth c cX1_listTo 4 none RX1 "listTo") (hL : L < 2 ^ 30) (hfr : L = 6 + 5 * ub (f 5) + 4) (hp : ∀ (F : flT) (N Pt : Nat → Int32), F = liF f FA (ub (f 5)) → F.length ≤ 200 → fl_at N Pt F → fl_so F → post (bbW Z b q L num ex so bt wt f ++ flW Z h qn qp F.length N Pt)) : ∀ (n k : Nat) (F : flT) (N Pt : Nat → Int32), k + n = ub (f 5) → F = liF f FA k → F.length ≤ 200 → fl_at N Pt F → fl_so F → ∀ (H : Heap) (locs : List Loc) (ls : Array Slot), wd Z A s (bbW Z b q L num ex so bt wt f ++ flW Z h qn qp F.length N Pt) H locs → lv_has ls 4 [(2, .int (nI k)), (0, .ref b), (1, .ref h)] → W p l e ({ frames := 3, cells := 0, slots := 0, locals := 90 }) s m args below meth c H locs 0 0 (MQ below (va_Qv post (mB Z A) A) args s 0 0 A) (F0 m 2 ls []) := by
  have hx := C.1
  have hb := C.2.1
  have hown := C.2.2.2.2.2.1
  have hts := C.2.2.2.2.2.2.1
  intro n
  induction n with
  | zero =>
    intro k F N Pt hk hap hm hfl hso H locs ls G hl
    have hub := ub_lt (f 5)
    refine lv_iload_n hx hb dX1_listTo_2 rfl (lv_at hl 0 rfl) ?_
    refine lv_aload_n hx hb dX1_listTo_3 rfl (lv_at hl 1 rfl) ?_
    have hX : List.Perm ([(b, .inr (2, [.int num, .ref q, .int ex, .int so, va_rf bt, .int wt])), (q, aB Z L f), (h, .inr (4, [.ref qn, .ref qp, .int (nI F.length)])), (qn, aI Z 200 N), (qp, aI Z 200 Pt)]) ([(b, .inr (2, [.int num, .ref q, .int ex, .int so, va_rf bt, .int wt])), (q, aB Z L f)] ++ ([(h, .inr (4, [.ref qn, .ref qp, .int (nI F.length)])), (qn, aI Z 200 N), (qp, aI Z 200 Pt)])) := (perm_ix [0, 1, 2, 3, 4] rfl 5 (by decide) rfl)
    refine kc_i (Wc := [(b, .inr (2, [.int num, .ref q, .int ex, .int so, va_rf bt, .int wt])), (q, aB Z L f)]) (Wr := [(h, .inr (4, [.ref qn, .ref qp, .int (nI F.length)])), (qn, aI Z 200 N), (qp, aI Z 200 Pt)]) G hX (krV 0 rfl (As := []) (rest := [.int (nI k)]) (ci := 2) (CC := RX1) (T := TX1) (N := 6) C G hX (c_X1_told Z l b q L num ex so bt wt f hL (by omega) _) (gdV ml_X1_27 im_X1_told se_X1_told ii_X1 co_X1_told) (by decide +kernel) ⟨Nat.le_of_ble_eq_true rfl, Nat.le_of_ble_eq_true rfl⟩ rfl 0 rfl hl rfl (Nat.le_of_ble_eq_true rfl) ⟨Nat.le_refl _, Nat.le_refl _⟩ dX1_listTo_4) (fun r_4 u H locs hu G => ?_)
    obtain ⟨r_4_e, rfl⟩ := hu
    subst r_4_e
    have G : wd Z A s ([(b, .inr (2, [.int num, .ref q, .int ex, .int so, va_rf bt, .int wt])), (q, aB Z L f), (h, .inr (4, [.ref qn, .ref qp, .int (nI F.length)])), (qn, aI Z 200 N), (qp, aI Z 200 Pt)]) H locs := G
    refine lv_icmp_ge (tgt := 40) hx hb dX1_listTo_7 (by decide) (fun c_7 => ?_) (fun c_7 => ?_)
    · exact kr_v C G (hp F N Pt (by rw [hap, show k = ub (f 5) by omega]) hm hfl hso) (Nat.le_of_ble_eq_true rfl) (Nat.le_of_ble_eq_true rfl) dX1_listTo_40
    · exact absurd (nI_le (by omega) (by omega)) c_7
  | succ n ih =>
    intro k F N Pt hk hap hm hfl hso H locs ls G hl
    have hub := ub_lt (f 5)
    refine lv_iload_n hx hb dX1_listTo_2 rfl (lv_at hl 0 rfl) ?_
    refine lv_aload_n hx hb dX1_listTo_3 rfl (lv_at hl 1 rfl) ?_
    have hX : List.Perm ([(b, .inr (2, [.int num, .ref q, .int ex, .int so, va_rf bt, .int wt])), (q, aB Z L f), (h, .inr (4, [.ref qn, .ref qp, .int (nI F.length)])), (qn, aI Z 200 N), (qp, aI Z 200 Pt)]) ([(b, .inr (2, [.int num, .ref q, .int ex, .int so, va_rf bt, .int wt])), (q, aB Z L f)] ++ ([(h, .inr (4, [.ref qn, .ref qp, .int (nI F.length)])), (qn, aI Z 200 N), (qp, aI Z 200 Pt)])) := (perm_ix [0, 1, 2, 3, 4] rfl 5 (by decide) rfl)
    refine kc_i (Wc := [(b, .inr (2, [.int num, .ref q, .int ex, .int so, va_rf bt, .int wt])), (q, aB Z L f)]) (Wr := [(h, .inr (4, [.ref qn, .ref qp, .int (nI F.length)])), (qn, aI Z 200 N), (qp, aI Z 200 Pt)]) G hX (krV 0 rfl (As := []) (rest := [.int (nI k)]) (ci := 2) (CC := RX1) (T := TX1) (N := 6) C G hX (c_X1_told Z l b q L num ex so bt wt f hL (by omega) _) (gdV ml_X1_27 im_X1_told se_X1_told ii_X1 co_X1_told) (by decide +kernel) ⟨Nat.le_of_ble_eq_true rfl, Nat.le_of_ble_eq_true rfl⟩ rfl 0 rfl hl rfl (Nat.le_of_ble_eq_true rfl) ⟨Nat.le_refl _, Nat.le_refl _⟩ dX1_listTo_4) (fun r_4 u H locs hu G => ?_)
    obtain ⟨r_4_e, rfl⟩ := hu
    subst r_4_e
    have G : wd Z A s ([(b, .inr (2, [.int num, .ref q, .int ex, .int so, va_rf bt, .int wt])), (q, aB Z L f), (h, .inr (4, [.ref qn, .ref qp, .int (nI F.length)])), (qn, aI Z 200 N), (qp, aI Z 200 Pt)]) H locs := G
    refine lv_icmp_ge (tgt := 40) hx hb dX1_listTo_7 (by decide) (fun c_7 => ?_) (fun c_7 => ?_)
    · exact absurd c_7 (nI_ge (by omega) (by omega))
    · refine lv_bipush (v := 6) hx hb dX1_listTo_10 (by decide) ?_
      refine lv_iconst (v := 5) hx hb dX1_listTo_12 (by decide) ?_
      refine lv_iload_n hx hb dX1_listTo_13 rfl (lv_at hl 0 rfl) ?_
      refine lv_imul hx hb dX1_listTo_14 ?_
      refine lv_iadd hx hb dX1_listTo_15 ?_
      refine k_topi (y := nI (6 + 5 * k)) (by rw [show (5 : Int32) = nI 5 from rfl, pk_mul, show (6 : Int32) = nI 6 from rfl, nI_add]) ?_
      refine lv_istore_n (lv' := [(3, .int (nI (6 + 5 * k))), (2, .int (nI k)), (0, .ref b), (1, .ref h)]) hx hb dX1_listTo_16 rfl hl (by decide) rfl (fun ls hl => ?_)
      refine lv_aload_n hx hb dX1_listTo_17 rfl (lv_at hl 3 rfl) ?_
      refine lv_aload_n hx hb dX1_listTo_18 rfl (lv_at hl 2 rfl) ?_
      refine lv_iload_n hx hb dX1_listTo_19 rfl (lv_at hl 0 rfl) ?_
      have hX : List.Perm ([(b, .inr (2, [.int num, .ref q, .int ex, .int so, va_rf bt, .int wt])), (q, aB Z L f), (h, .inr (4, [.ref qn, .ref qp, .int (nI F.length)])), (qn, aI Z 200 N), (qp, aI Z 200 Pt)]) ([(b, .inr (2, [.int num, .ref q, .int ex, .int so, va_rf bt, .int wt])), (q, aB Z L f)] ++ ([(h, .inr (4, [.ref qn, .ref qp, .int (nI F.length)])), (qn, aI Z 200 N), (qp, aI Z 200 Pt)])) := (perm_ix [0, 1, 2, 3, 4] rfl 5 (by decide) rfl)
      refine kc_i (Wc := [(b, .inr (2, [.int num, .ref q, .int ex, .int so, va_rf bt, .int wt])), (q, aB Z L f)]) (Wr := [(h, .inr (4, [.ref qn, .ref qp, .int (nI F.length)])), (qn, aI Z 200 N), (qp, aI Z 200 Pt)]) G hX (krV 1 rfl (As := [.int (nI (6 + 5 * k))]) (rest := [.ref h]) (ci := 2) (CC := RX1) (T := TX1) (N := 6) C G hX (c_X1_u4At Z l b q L num ex so bt wt f (6 + 5 * k) hL (by omega) _) (gdV ml_X1_31 im_X1_u4At se_X1_u4At ii_X1 co_X1_u4At) (by decide +kernel) ⟨Nat.le_of_ble_eq_true rfl, Nat.le_of_ble_eq_true rfl⟩ rfl 0 rfl hl rfl (Nat.le_of_ble_eq_true rfl) ⟨Nat.le_refl _, Nat.le_refl _⟩ dX1_listTo_20) (fun r_20 u H locs hu G => ?_)
      obtain ⟨r_20_e, rfl⟩ := hu
      subst r_20_e
      have G : wd Z A s ([(b, .inr (2, [.int num, .ref q, .int ex, .int so, va_rf bt, .int wt])), (q, aB Z L f), (h, .inr (4, [.ref qn, .ref qp, .int (nI F.length)])), (qn, aI Z 200 N), (qp, aI Z 200 Pt)]) H locs := G
      refine lv_aload_n hx hb dX1_listTo_23 rfl (lv_at hl 2 rfl) ?_
      refine lv_iload_n hx hb dX1_listTo_24 rfl (lv_at hl 0 rfl) ?_
      refine lv_iconst (v := 4) hx hb dX1_listTo_25 (by decide) ?_
      refine lv_iadd hx hb dX1_listTo_26 ?_
      refine k_topi (y := nI (6 + 5 * k + 4)) (by exact nI_add _ 4) ?_
      have hX : List.Perm ([(b, .inr (2, [.int num, .ref q, .int ex, .int so, va_rf bt, .int wt])), (q, aB Z L f), (h, .inr (4, [.ref qn, .ref qp, .int (nI F.length)])), (qn, aI Z 200 N), (qp, aI Z 200 Pt)]) ([(b, .inr (2, [.int num, .ref q, .int ex, .int so, va_rf bt, .int wt])), (q, aB Z L f)] ++ ([(h, .inr (4, [.ref qn, .ref qp, .int (nI F.length)])), (qn, aI Z 200 N), (qp, aI Z 200 Pt)])) := (perm_ix [0, 1, 2, 3, 4] rfl 5 (by decide) rfl)
      refine kc_i (Wc := [(b, .inr (2, [.int num, .ref q, .int ex, .int so, va_rf bt, .int wt])), (q, aB Z L f)]) (Wr := [(h, .inr (4, [.ref qn, .ref qp, .int (nI F.length)])), (qn, aI Z 200 N), (qp, aI Z 200 Pt)]) G hX (krV 1 rfl (As := [.int (nI (6 + 5 * k + 4))]) (rest := [.int (cN f k), .ref h]) (ci := 2) (CC := RX1) (T := TX1) (N := 6) C G hX (c_X1_octetAtI Z l b q L num ex so bt wt f (6 + 5 * k + 4) hL (by omega) _) (gdV ml_X1_19 im_X1_octetAt se_X1_octetAt ii_X1 co_X1_octetAt) (by decide +kernel) ⟨Nat.le_of_ble_eq_true rfl, Nat.le_of_ble_eq_true rfl⟩ rfl 0 rfl hl rfl (Nat.le_of_ble_eq_true rfl) ⟨Nat.le_refl _, Nat.le_refl _⟩ dX1_listTo_27) (fun r_27 u H locs hu G => ?_)
      obtain ⟨r_27_e, rfl⟩ := hu
      subst r_27_e
      have G : wd Z A s ([(b, .inr (2, [.int num, .ref q, .int ex, .int so, va_rf bt, .int wt])), (q, aB Z L f), (h, .inr (4, [.ref qn, .ref qp, .int (nI F.length)])), (qn, aI Z 200 N), (qp, aI Z 200 Pt)]) H locs := G
      have hX : List.Perm ([(b, .inr (2, [.int num, .ref q, .int ex, .int so, va_rf bt, .int wt])), (q, aB Z L f), (h, .inr (4, [.ref qn, .ref qp, .int (nI F.length)])), (qn, aI Z 200 N), (qp, aI Z 200 Pt)]) ([(h, .inr (4, [.ref qn, .ref qp, .int (nI F.length)])), (qn, aI Z 200 N), (qp, aI Z 200 Pt)] ++ ([(b, .inr (2, [.int num, .ref q, .int ex, .int so, va_rf bt, .int wt])), (q, aB Z L f)])) := (perm_ix [2, 3, 4, 0, 1] rfl 5 (by decide) rfl)
      refine kc_i (Wc := [(h, .inr (4, [.ref qn, .ref qp, .int (nI F.length)])), (qn, aI Z 200 N), (qp, aI Z 200 Pt)]) (Wr := [(b, .inr (2, [.int num, .ref q, .int ex, .int so, va_rf bt, .int wt])), (q, aB Z L f)]) G hX (krV 2 rfl (As := [.int (cN f k), .int (nI (cP f k))]) (rest := []) (ci := 4) (CC := RX3) (T := TX3) (N := 3) C G hX (c_X3_add Z l h qn qp (cN f k) (nI (cP f k)) N Pt F hm hfl hso _) (gdV ml_X1_54 im_X3_add se_X3_add ii_X3 co_X3_add) (by decide +kernel) ⟨Nat.le_of_ble_eq_true rfl, Nat.le_of_ble_eq_true rfl⟩ rfl 0 rfl hl rfl (Nat.le_of_ble_eq_true rfl) ⟨Nat.le_refl _, Nat.le_refl _⟩ dX1_listTo_30) (fun r_30 u H locs hu G => ?_)
      obtain ⟨N2, P2, hfl2, hso2, hm2, rfl⟩ : ∃ N2 P2, fl_at N2 P2 (liA f k F) ∧ fl_so (liA f k F) ∧ (liA f k F).length ≤ 200 ∧ u = flW Z h qn qp (liA f k F).length N2 P2 := by
        rcases hu with ⟨hy, hr, rfl⟩ | ⟨hn, h2, hr, rfl⟩ | ⟨hn, h2, hr, N2, P2, h9, rfl⟩
        · rw [liA, if_pos (fl_hB_iff.mpr hy)]; exact ⟨N, Pt, hfl, hso, hm, rfl⟩
        · rw [liA, if_neg (fun z => hn (fl_hB_iff.mp z)), if_pos h2]; exact ⟨N, Pt, hfl, hso, hm, rfl⟩
        · rw [liA, if_neg (fun z => hn (fl_hB_iff.mp z)), if_neg (by omega)]; exact ⟨N2, P2, h9, fl_so_ins hso hn, by rw [fl_ins_len]; omega, by rw [fl_ins_len]⟩
      have G : wd Z A s ([(b, .inr (2, [.int num, .ref q, .int ex, .int so, va_rf bt, .int wt])), (q, aB Z L f), (h, .inr (4, [.ref qn, .ref qp, .int (nI ((liA f k F).length))])), (qn, aI Z 200 N2), (qp, aI Z 200 P2)]) H locs := G.perm (perm_ix [3, 4, 0, 1, 2] rfl 5 (by decide) rfl)
      refine lv_pop hx hb dX1_listTo_33 rfl ?_
      refine lv_iinc (v := nI (k + 1)) (lv' := [(2, .int (nI (k + 1))), (3, .int (nI (6 + 5 * k))), (0, .ref b), (1, .ref h)]) hx hb dX1_listTo_34 hl (k := 1) rfl (nI_1 _) (by decide) rfl (fun ls hl => ?_)
      refine lv_goto (tgt := 2) hx hb dX1_listTo_37 (by decide) ?_
      exact ih (k + 1) _ N2 P2 (by omega) (by rw [liF, ← hap]) hm2 hfl2 hso2 _ _ _ G (lv_sub hl [0, 2, 3] rfl)
set_option maxRecDepth 100000 in
set_option maxHeartbeats 4000000 in
theorem c_X1_listTo (Z : zT) (l : Launch) (b q L : Nat) (num ex so : Int32) (bt : Option Nat) (wt : Int32) (f : Nat → Int32) (h qn qp : Nat) (F : flT) (N Pt : Nat → Int32) (hL : L < 2 ^ 30) (hfr : L = 6 + 5 * ub (f 5) + 4) (hm : F.length ≤ 200) (hfl : fl_at N Pt F) (hso : fl_so F) : Kv Z l yX1_listTo cX1_listTo 4 none ({ frames := 3, cells := 0, slots := 0, locals := 90 }) [.ref b, .ref h] (bbW Z b q L num ex so bt wt f ++ flW Z h qn qp F.length N Pt) (fun u => ∃ N2 P2, (liF f F (ub (f 5))).length ≤ 200 ∧ fl_at N2 P2 (liF f F (ub (f 5))) ∧ fl_so (liF f F (ub (f 5))) ∧ u = bbW Z b q L num ex so bt wt f ++ flW Z h qn qp (liF f F (ub (f 5))).length N2 P2) := by
  intro sz
  refine Met.ofK (cc := cX1_listTo) (maxL := 4) (ret := none) (by decide) (Nat.le_of_ble_eq_true rfl) ?_
  intro p e s m below meth c ls C G hl
  generalize va_A _ sz = A at G ⊢
  have hx := C.1
  have hb := C.2.1
  have hown := C.2.2.2.2.2.1
  have hts := C.2.2.2.2.2.2.1
  refine lv_iconst (v := 0) hx hb dX1_listTo_0 (by decide) ?_
  refine lv_istore_n (lv' := [(2, .int 0), (0, .ref b), (1, .ref h)]) hx hb dX1_listTo_1 rfl hl (by decide) rfl (fun ls hl => ?_)
  exact lp_X1_listTo C hL hfr (fun F2 N2 P2 z h9 ha hb2 => ⟨N2, P2, by rw [← z]; exact h9, by rw [← z]; exact ha, by rw [← z]; exact hb2, by rw [z]⟩) (ub (f 5)) 0 F N Pt (by omega) rfl hm hfl hso _ _ _ G (lv_sub hl [0, 1, 2] rfl)
