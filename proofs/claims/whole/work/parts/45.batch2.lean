/-! MODULE Batch (X0), second part: the shortest way. -/
set_option maxRecDepth 100000 in
set_option maxHeartbeats 4000000 in
theorem c_X0_addRowOf (Z : zT) (l : Launch) (h qv qp ql qg o ov op ol og k0 r : Nat) (P P2 n2 : Int32) (V pr le gr V2 pro leo gro : Nat → Int32) (hb0 : bt_ok V pr le gr (fun _ => k0)) (hk : k0 < 48) (hr : r < 48) : Kv Z l yX0_addRowOf cX0_addRowOf 3 none ({ frames := 2, cells := 0, slots := 0, locals := 80 }) [.ref h, .ref o, .int (nI r)] (btW Z h qv qp ql qg P (nI k0) V pr le gr ++ btW Z o ov op ol og P2 n2 V2 pro leo gro) (fun u => ∃ pr2 le2 gr2, bt_ok (upd (upd (upd V (48 * 0 + k0) (V2 (48 * 0 + r))) (48 * 1 + k0) (V2 (48 * 1 + r))) (48 * 2 + k0) (V2 (48 * 2 + r))) pr2 le2 gr2 (fun _ => k0 + 1) ∧ u = btW Z h qv qp ql qg P (nI (k0 + 1)) (upd (upd (upd V (48 * 0 + k0) (V2 (48 * 0 + r))) (48 * 1 + k0) (V2 (48 * 1 + r))) (48 * 2 + k0) (V2 (48 * 2 + r))) pr2 le2 gr2 ++ btW Z o ov op ol og P2 n2 V2 pro leo gro) := by
  intro sz
  refine Met.ofK (cc := cX0_addRowOf) (maxL := 3) (ret := none) (by decide) (Nat.le_of_ble_eq_true rfl) ?_
  intro p e s m below meth c ls C G hl
  generalize va_A _ sz = A at G ⊢
  have hx := C.1
  have hb := C.2.1
  have hown := C.2.2.2.2.2.1
  have hts := C.2.2.2.2.2.2.1
  refine lv_aload_n hx hb dX0_addRowOf_0 rfl (lv_at hl 0 rfl) ?_
  refine lv_aload_n hx hb dX0_addRowOf_1 rfl (lv_at hl 1 rfl) ?_
  refine lv_iconst (v := 0) hx hb dX0_addRowOf_2 (by decide) ?_
  refine lv_iload_n hx hb dX0_addRowOf_3 rfl (lv_at hl 2 rfl) ?_
  have hX : List.Perm ([(h, .inr (1, [.int P, .int (nI k0), .ref qv, .ref qp, .ref ql, .ref qg])), (qv, aI Z 144 V), (qp, aI Z 3 pr), (ql, aI Z 3 le), (qg, aI Z 3 gr), (o, .inr (1, [.int P2, .int n2, .ref ov, .ref op, .ref ol, .ref og])), (ov, aI Z 144 V2), (op, aI Z 3 pro), (ol, aI Z 3 leo), (og, aI Z 3 gro)]) ([(o, .inr (1, [.int P2, .int n2, .ref ov, .ref op, .ref ol, .ref og])), (ov, aI Z 144 V2), (op, aI Z 3 pro), (ol, aI Z 3 leo), (og, aI Z 3 gro)] ++ ([(h, .inr (1, [.int P, .int (nI k0), .ref qv, .ref qp, .ref ql, .ref qg])), (qv, aI Z 144 V), (qp, aI Z 3 pr), (ql, aI Z 3 le), (qg, aI Z 3 gr)])) := (perm_ix [5, 6, 7, 8, 9, 0, 1, 2, 3, 4] rfl 10 (by decide) rfl)
  refine kc_i (Wc := [(o, .inr (1, [.int P2, .int n2, .ref ov, .ref op, .ref ol, .ref og])), (ov, aI Z 144 V2), (op, aI Z 3 pro), (ol, aI Z 3 leo), (og, aI Z 3 gro)]) (Wr := [(h, .inr (1, [.int P, .int (nI k0), .ref qv, .ref qp, .ref ql, .ref qg])), (qv, aI Z 144 V), (qp, aI Z 3 pr), (ql, aI Z 3 le), (qg, aI Z 3 gr)]) G hX (krV 2 rfl (As := [.int 0, .int (nI r)]) (rest := [.ref h]) (ci := 1) (CC := RX0) (T := TX0) (N := 6) C G hX (c_X0_valueAt Z l o ov op ol og 0 r P2 n2 V2 pro leo gro (by omega) hr _) (gdV ml_X0_41 im_X0_valueAt se_X0_valueAt ii_X0 co_X0_valueAt) (by decide +kernel) ⟨Nat.le_of_ble_eq_true rfl, Nat.le_of_ble_eq_true rfl⟩ rfl 0 rfl hl rfl (Nat.le_of_ble_eq_true rfl) ⟨Nat.le_of_ble_eq_true rfl, Nat.le_of_ble_eq_true rfl⟩ dX0_addRowOf_4) (fun r_4 u H locs hu G => ?_)
  obtain ⟨r_4_e, rfl⟩ := hu
  subst r_4_e
  have G : wd Z A s ([(o, .inr (1, [.int P2, .int n2, .ref ov, .ref op, .ref ol, .ref og])), (ov, aI Z 144 V2), (op, aI Z 3 pro), (ol, aI Z 3 leo), (og, aI Z 3 gro), (h, .inr (1, [.int P, .int (nI k0), .ref qv, .ref qp, .ref ql, .ref qg])), (qv, aI Z 144 V), (qp, aI Z 3 pr), (ql, aI Z 3 le), (qg, aI Z 3 gr)]) H locs := G
  refine lv_aload_n hx hb dX0_addRowOf_7 rfl (lv_at hl 1 rfl) ?_
  refine lv_iconst (v := 1) hx hb dX0_addRowOf_8 (by decide) ?_
  refine lv_iload_n hx hb dX0_addRowOf_9 rfl (lv_at hl 2 rfl) ?_
  have hX : List.Perm ([(o, .inr (1, [.int P2, .int n2, .ref ov, .ref op, .ref ol, .ref og])), (ov, aI Z 144 V2), (op, aI Z 3 pro), (ol, aI Z 3 leo), (og, aI Z 3 gro), (h, .inr (1, [.int P, .int (nI k0), .ref qv, .ref qp, .ref ql, .ref qg])), (qv, aI Z 144 V), (qp, aI Z 3 pr), (ql, aI Z 3 le), (qg, aI Z 3 gr)]) ([(o, .inr (1, [.int P2, .int n2, .ref ov, .ref op, .ref ol, .ref og])), (ov, aI Z 144 V2), (op, aI Z 3 pro), (ol, aI Z 3 leo), (og, aI Z 3 gro)] ++ ([(h, .inr (1, [.int P, .int (nI k0), .ref qv, .ref qp, .ref ql, .ref qg])), (qv, aI Z 144 V), (qp, aI Z 3 pr), (ql, aI Z 3 le), (qg, aI Z 3 gr)])) := (perm_ix [0, 1, 2, 3, 4, 5, 6, 7, 8, 9] rfl 10 (by decide) rfl)
  refine kc_i (Wc := [(o, .inr (1, [.int P2, .int n2, .ref ov, .ref op, .ref ol, .ref og])), (ov, aI Z 144 V2), (op, aI Z 3 pro), (ol, aI Z 3 leo), (og, aI Z 3 gro)]) (Wr := [(h, .inr (1, [.int P, .int (nI k0), .ref qv, .ref qp, .ref ql, .ref qg])), (qv, aI Z 144 V), (qp, aI Z 3 pr), (ql, aI Z 3 le), (qg, aI Z 3 gr)]) G hX (krV 2 rfl (As := [.int 1, .int (nI r)]) (rest := [.int (V2 (48 * 0 + r)), .ref h]) (ci := 1) (CC := RX0) (T := TX0) (N := 6) C G hX (c_X0_valueAt Z l o ov op ol og 1 r P2 n2 V2 pro leo gro (by omega) hr _) (gdV ml_X0_41 im_X0_valueAt se_X0_valueAt ii_X0 co_X0_valueAt) (by decide +kernel) ⟨Nat.le_of_ble_eq_true rfl, Nat.le_of_ble_eq_true rfl⟩ rfl 0 rfl hl rfl (Nat.le_of_ble_eq_true rfl) ⟨Nat.le_of_ble_eq_true rfl, Nat.le_of_ble_eq_true rfl⟩ dX0_addRowOf_10) (fun r_10 u H locs hu G => ?_)
  obtain ⟨r_10_e, rfl⟩ := hu
  subst r_10_e
  have G : wd Z A s ([(o, .inr (1, [.int P2, .int n2, .ref ov, .ref op, .ref ol, .ref og])), (ov, aI Z 144 V2), (op, aI Z 3 pro), (ol, aI Z 3 leo), (og, aI Z 3 gro), (h, .inr (1, [.int P, .int (nI k0), .ref qv, .ref qp, .ref ql, .ref qg])), (qv, aI Z 144 V), (qp, aI Z 3 pr), (ql, aI Z 3 le), (qg, aI Z 3 gr)]) H locs := G
  refine lv_aload_n hx hb dX0_addRowOf_13 rfl (lv_at hl 1 rfl) ?_
  refine lv_iconst (v := 2) hx hb dX0_addRowOf_14 (by decide) ?_
  refine lv_iload_n hx hb dX0_addRowOf_15 rfl (lv_at hl 2 rfl) ?_
  have hX : List.Perm ([(o, .inr (1, [.int P2, .int n2, .ref ov, .ref op, .ref ol, .ref og])), (ov, aI Z 144 V2), (op, aI Z 3 pro), (ol, aI Z 3 leo), (og, aI Z 3 gro), (h, .inr (1, [.int P, .int (nI k0), .ref qv, .ref qp, .ref ql, .ref qg])), (qv, aI Z 144 V), (qp, aI Z 3 pr), (ql, aI Z 3 le), (qg, aI Z 3 gr)]) ([(o, .inr (1, [.int P2, .int n2, .ref ov, .ref op, .ref ol, .ref og])), (ov, aI Z 144 V2), (op, aI Z 3 pro), (ol, aI Z 3 leo), (og, aI Z 3 gro)] ++ ([(h, .inr (1, [.int P, .int (nI k0), .ref qv, .ref qp, .ref ql, .ref qg])), (qv, aI Z 144 V), (qp, aI Z 3 pr), (ql, aI Z 3 le), (qg, aI Z 3 gr)])) := (perm_ix [0, 1, 2, 3, 4, 5, 6, 7, 8, 9] rfl 10 (by decide) rfl)
  refine kc_i (Wc := [(o, .inr (1, [.int P2, .int n2, .ref ov, .ref op, .ref ol, .ref og])), (ov, aI Z 144 V2), (op, aI Z 3 pro), (ol, aI Z 3 leo), (og, aI Z 3 gro)]) (Wr := [(h, .inr (1, [.int P, .int (nI k0), .ref qv, .ref qp, .ref ql, .ref qg])), (qv, aI Z 144 V), (qp, aI Z 3 pr), (ql, aI Z 3 le), (qg, aI Z 3 gr)]) G hX (krV 2 rfl (As := [.int 2, .int (nI r)]) (rest := [.int (V2 (48 * 1 + r)), .int (V2 (48 * 0 + r)), .ref h]) (ci := 1) (CC := RX0) (T := TX0) (N := 6) C G hX (c_X0_valueAt Z l o ov op ol og 2 r P2 n2 V2 pro leo gro (by omega) hr _) (gdV ml_X0_41 im_X0_valueAt se_X0_valueAt ii_X0 co_X0_valueAt) (by decide +kernel) ⟨Nat.le_of_ble_eq_true rfl, Nat.le_of_ble_eq_true rfl⟩ rfl 0 rfl hl rfl (Nat.le_of_ble_eq_true rfl) ⟨Nat.le_of_ble_eq_true rfl, Nat.le_of_ble_eq_true rfl⟩ dX0_addRowOf_16) (fun r_16 u H locs hu G => ?_)
  obtain ⟨r_16_e, rfl⟩ := hu
  subst r_16_e
  have G : wd Z A s ([(o, .inr (1, [.int P2, .int n2, .ref ov, .ref op, .ref ol, .ref og])), (ov, aI Z 144 V2), (op, aI Z 3 pro), (ol, aI Z 3 leo), (og, aI Z 3 gro), (h, .inr (1, [.int P, .int (nI k0), .ref qv, .ref qp, .ref ql, .ref qg])), (qv, aI Z 144 V), (qp, aI Z 3 pr), (ql, aI Z 3 le), (qg, aI Z 3 gr)]) H locs := G
  have hX : List.Perm ([(o, .inr (1, [.int P2, .int n2, .ref ov, .ref op, .ref ol, .ref og])), (ov, aI Z 144 V2), (op, aI Z 3 pro), (ol, aI Z 3 leo), (og, aI Z 3 gro), (h, .inr (1, [.int P, .int (nI k0), .ref qv, .ref qp, .ref ql, .ref qg])), (qv, aI Z 144 V), (qp, aI Z 3 pr), (ql, aI Z 3 le), (qg, aI Z 3 gr)]) ([(h, .inr (1, [.int P, .int (nI k0), .ref qv, .ref qp, .ref ql, .ref qg])), (qv, aI Z 144 V), (qp, aI Z 3 pr), (ql, aI Z 3 le), (qg, aI Z 3 gr)] ++ ([(o, .inr (1, [.int P2, .int n2, .ref ov, .ref op, .ref ol, .ref og])), (ov, aI Z 144 V2), (op, aI Z 3 pro), (ol, aI Z 3 leo), (og, aI Z 3 gro)])) := (perm_ix [5, 6, 7, 8, 9, 0, 1, 2, 3, 4] rfl 10 (by decide) rfl)
  refine kc_v (Wc := [(h, .inr (1, [.int P, .int (nI k0), .ref qv, .ref qp, .ref ql, .ref qg])), (qv, aI Z 144 V), (qp, aI Z 3 pr), (ql, aI Z 3 le), (qg, aI Z 3 gr)]) (Wr := [(o, .inr (1, [.int P2, .int n2, .ref ov, .ref op, .ref ol, .ref og])), (ov, aI Z 144 V2), (op, aI Z 3 pro), (ol, aI Z 3 leo), (og, aI Z 3 gro)]) G hX (krV 3 rfl (As := [.int (V2 (48 * 0 + r)), .int (V2 (48 * 1 + r)), .int (V2 (48 * 2 + r))]) (rest := []) (ci := 1) (CC := RX0) (T := TX0) (N := 6) C G hX (c_X0_addRow Z l h qv qp ql qg k0 P (V2 (48 * 0 + r)) (V2 (48 * 1 + r)) (V2 (48 * 2 + r)) V pr le gr hb0 hk _) (gdV ml_X0_45 im_X0_addRow se_X0_addRow ii_X0 co_X0_addRow) (by decide +kernel) ⟨Nat.le_of_ble_eq_true rfl, Nat.le_of_ble_eq_true rfl⟩ rfl 0 rfl hl rfl (Nat.le_of_ble_eq_true rfl) ⟨Nat.le_of_ble_eq_true rfl, Nat.le_of_ble_eq_true rfl⟩ dX0_addRowOf_19) (fun u H locs hu G => ?_)
  obtain ⟨pr2, le2, gr2, hb2, rfl⟩ := hu
  exact kr_v C G ⟨pr2, le2, gr2, hb2, rfl⟩ (Nat.le_of_ble_eq_true rfl) (Nat.le_of_ble_eq_true rfl) dX0_addRowOf_22
set_option maxRecDepth 100000 in
set_option maxHeartbeats 4000000 in
theorem lp_X0_shortestWay {p : Program} {l : Launch} {e : Env} {s : State} {m : MethodId} {args : Array Value} {below : List Frame} {meth : Method} {c : Code} {Z : zT} {A : Nat → Prop} {h qv qp ql qg c0 n : Nat} {P : Int32} {V pr le gr : Nat → Int32} {post : Int32 → va_W → Prop} (C : cx p s m args meth c cX0_shortestWay 8 (some .int) RX0 "shortestWay") (hc : c0 < 3) (hn : n ≤ 48) (hp : ∀ x : Int32, x = nI (swW (col V c0 n)) → post x (btW Z h qv qp ql qg P (nI n) V pr le gr)) : ∀ (k i p0 r d : Nat) (a : Int32), i + k = n → (p0, r, d, a) = swF (col V c0 i) → ∀ (H : Heap) (locs : List Loc) (ls : Array Slot), wd Z A s (btW Z h qv qp ql qg P (nI n) V pr le gr) H locs → lv_has ls 8 [(6, .int (nI i)), (5, .int a), (4, .int (nI d)), (3, .int (nI r)), (2, .int (nI p0)), (0, .ref h), (1, .int (nI c0))] → W p l e ({ frames := 1, cells := 0, slots := 0, locals := 40 }) s m args below meth c H locs 0 0 (MQ below (va_Qi post (mB Z A) A) args s 0 0 A) (F0 m 13 ls []) := by
  have hx := C.1
  have hb := C.2.1
  have hown := C.2.2.2.2.2.1
  have hts := C.2.2.2.2.2.2.1
  intro k
  induction k with
  | zero =>
    intro i p0 r d a hk hs H locs ls G hl
    have hb9 := swF_le V c0 i
    rw [← hs] at hb9
    dsimp only at hb9
    have hin : i = n := by omega
    subst hin
    refine lv_iload hx hb dX0_shortestWay_13 (lv_at hl 0 rfl) ?_
    refine lv_aload_n hx hb dX0_shortestWay_15 rfl (lv_at hl 5 rfl) ?_
    refine k_get (ci := 1) (CC := RX0) (T := TX0) (N := 6) (v := .int (nI i)) C G 0 rfl rfl in_1 1 (by decide) fl_X0_28 rfl rfl dX0_shortestWay_16 ?_
    refine lv_icmp_ge (tgt := 86) hx hb dX0_shortestWay_19 (by decide) (fun c_19 => ?_) (fun c_19 => ?_)
    · refine lv_iload_n hx hb dX0_shortestWay_86 rfl (lv_at hl 3 rfl) ?_
      refine lv_iload_n hx hb dX0_shortestWay_87 rfl (lv_at hl 4 rfl) ?_
      refine lv_icmp_ge (tgt := 95) hx hb dX0_shortestWay_88 (by decide) (fun c_88 => ?_) (fun c_88 => ?_)
      · refine lv_iconst (v := 0) hx hb dX0_shortestWay_95 (by decide) ?_
        refine lv_istore (lv' := [(6, .int 0), (5, .int a), (4, .int (nI d)), (3, .int (nI r)), (2, .int (nI p0)), (0, .ref h), (1, .int (nI c0))]) hx hb dX0_shortestWay_96 hl (by decide) rfl (fun ls hl => ?_)
        refine lv_iload hx hb dX0_shortestWay_98 (lv_at hl 2 rfl) ?_
        refine lv_iload_n hx hb dX0_shortestWay_100 rfl (lv_at hl 4 rfl) ?_
        refine lv_iload_n hx hb dX0_shortestWay_101 rfl (lv_at hl 3 rfl) ?_
        refine k_mmin C hl.1 ml_X0_85 sm_J9_min_7cf53 ii_J9 co_min (Nat.le_of_ble_eq_true rfl) (Nat.le_of_ble_eq_true rfl) (Nat.le_refl _) (Nat.le_refl _) dX0_shortestWay_102 ?_
        refine k_topi (y := nI (min p0 r)) (by exact min2_nI (by omega) (by omega)) ?_
        refine lv_icmp_ge (tgt := 112) hx hb dX0_shortestWay_105 (by decide) (fun c_105 => ?_) (fun c_105 => ?_)
        · refine lv_iload hx hb dX0_shortestWay_112 (lv_at hl 0 rfl) ?_
          have hd : ¬ d < min p0 r := fun z => absurd c_105 (nI_ge z (by omega))
          have hr2 : ¬ r < p0 := fun z => absurd c_88 (nI_ge z (by omega))
          exact kr_i C G (hp _ (by rw [swW, ← hs]; dsimp only; rw [if_neg hd, if_neg hr2]; rfl)) (Nat.le_refl _) (Nat.le_refl _) dX0_shortestWay_114
        · refine lv_iconst (v := 2) hx hb dX0_shortestWay_108 (by decide) ?_
          refine lv_goto (tgt := 114) hx hb dX0_shortestWay_109 (by decide) ?_
          have hd : d < min p0 r := nI_nle_lt c_105 (by omega)
          have hr2 : ¬ r < p0 := fun z => absurd c_88 (nI_ge z (by omega))
          exact kr_i C G (hp _ (by rw [swW, ← hs]; dsimp only; rw [if_pos hd]; rfl)) (Nat.le_refl _) (Nat.le_refl _) dX0_shortestWay_114
      · refine lv_iconst (v := 1) hx hb dX0_shortestWay_91 (by decide) ?_
        refine lv_goto (tgt := 96) hx hb dX0_shortestWay_92 (by decide) ?_
        refine lv_istore (lv' := [(6, .int 1), (5, .int a), (4, .int (nI d)), (3, .int (nI r)), (2, .int (nI p0)), (0, .ref h), (1, .int (nI c0))]) hx hb dX0_shortestWay_96 hl (by decide) rfl (fun ls hl => ?_)
        refine lv_iload hx hb dX0_shortestWay_98 (lv_at hl 2 rfl) ?_
        refine lv_iload_n hx hb dX0_shortestWay_100 rfl (lv_at hl 4 rfl) ?_
        refine lv_iload_n hx hb dX0_shortestWay_101 rfl (lv_at hl 3 rfl) ?_
        refine k_mmin C hl.1 ml_X0_85 sm_J9_min_7cf53 ii_J9 co_min (Nat.le_of_ble_eq_true rfl) (Nat.le_of_ble_eq_true rfl) (Nat.le_refl _) (Nat.le_refl _) dX0_shortestWay_102 ?_
        refine k_topi (y := nI (min p0 r)) (by exact min2_nI (by omega) (by omega)) ?_
        refine lv_icmp_ge (tgt := 112) hx hb dX0_shortestWay_105 (by decide) (fun c_105 => ?_) (fun c_105 => ?_)
        · refine lv_iload hx hb dX0_shortestWay_112 (lv_at hl 0 rfl) ?_
          have hd : ¬ d < min p0 r := fun z => absurd c_105 (nI_ge z (by omega))
          have hr2 : r < p0 := nI_nle_lt c_88 (by omega)
          exact kr_i C G (hp _ (by rw [swW, ← hs]; dsimp only; rw [if_neg hd, if_pos hr2]; rfl)) (Nat.le_refl _) (Nat.le_refl _) dX0_shortestWay_114
        · refine lv_iconst (v := 2) hx hb dX0_shortestWay_108 (by decide) ?_
          refine lv_goto (tgt := 114) hx hb dX0_shortestWay_109 (by decide) ?_
          have hd : d < min p0 r := nI_nle_lt c_105 (by omega)
          have hr2 : r < p0 := nI_nle_lt c_88 (by omega)
          exact kr_i C G (hp _ (by rw [swW, ← hs]; dsimp only; rw [if_pos hd]; rfl)) (Nat.le_refl _) (Nat.le_refl _) dX0_shortestWay_114
    · exact absurd (nI_le (by omega) (by omega)) c_19
  | succ k ih =>
    intro i p0 r d a hk hs H locs ls G hl
    have hb9 := swF_le V c0 i
    rw [← hs] at hb9
    dsimp only at hb9
    refine lv_iload hx hb dX0_shortestWay_13 (lv_at hl 0 rfl) ?_
    refine lv_aload_n hx hb dX0_shortestWay_15 rfl (lv_at hl 5 rfl) ?_
    refine k_get (ci := 1) (CC := RX0) (T := TX0) (N := 6) (v := .int (nI n)) C G 0 rfl rfl in_1 1 (by decide) fl_X0_28 rfl rfl dX0_shortestWay_16 ?_
    refine lv_icmp_ge (tgt := 86) hx hb dX0_shortestWay_19 (by decide) (fun c_19 => ?_) (fun c_19 => ?_)
    · exact absurd c_19 (nI_ge (by omega) (by omega))
    · refine lv_aload_n hx hb dX0_shortestWay_22 rfl (lv_at hl 5 rfl) ?_
      refine lv_iload_n hx hb dX0_shortestWay_23 rfl (lv_at hl 6 rfl) ?_
      refine lv_iload hx hb dX0_shortestWay_24 (lv_at hl 0 rfl) ?_
      have hX : List.Perm ([(h, .inr (1, [.int P, .int (nI n), .ref qv, .ref qp, .ref ql, .ref qg])), (qv, aI Z 144 V), (qp, aI Z 3 pr), (ql, aI Z 3 le), (qg, aI Z 3 gr)]) ([(h, .inr (1, [.int P, .int (nI n), .ref qv, .ref qp, .ref ql, .ref qg])), (qv, aI Z 144 V), (qp, aI Z 3 pr), (ql, aI Z 3 le), (qg, aI Z 3 gr)] ++ ([])) := (perm_ix [0, 1, 2, 3, 4] rfl 5 (by decide) rfl)
      refine kc_i (Wc := [(h, .inr (1, [.int P, .int (nI n), .ref qv, .ref qp, .ref ql, .ref qg])), (qv, aI Z 144 V), (qp, aI Z 3 pr), (ql, aI Z 3 le), (qg, aI Z 3 gr)]) (Wr := []) G hX (krV 2 rfl (As := [.int (nI c0), .int (nI i)]) (rest := []) (ci := 1) (CC := RX0) (T := TX0) (N := 6) C G hX (c_X0_valueAt Z l h qv qp ql qg c0 i P (nI n) V pr le gr hc (by omega) _) (gdV ml_X0_41 im_X0_valueAt se_X0_valueAt ii_X0 co_X0_valueAt) (by decide +kernel) ⟨Nat.le_of_ble_eq_true rfl, Nat.le_of_ble_eq_true rfl⟩ rfl 0 rfl hl rfl (Nat.le_of_ble_eq_true rfl) ⟨Nat.le_of_ble_eq_true rfl, Nat.le_of_ble_eq_true rfl⟩ dX0_shortestWay_26) (fun r_26 u H locs hu G => ?_)
      obtain ⟨r_26_e, rfl⟩ := hu
      subst r_26_e
      have G : wd Z A s ([(h, .inr (1, [.int P, .int (nI n), .ref qv, .ref qp, .ref ql, .ref qg])), (qv, aI Z 144 V), (qp, aI Z 3 pr), (ql, aI Z 3 le), (qg, aI Z 3 gr)]) H locs := G
      refine lv_istore (lv' := [(7, .int (V (48 * c0 + i))), (6, .int (nI i)), (5, .int a), (4, .int (nI d)), (3, .int (nI r)), (2, .int (nI p0)), (0, .ref h), (1, .int (nI c0))]) hx hb dX0_shortestWay_29 hl (by decide) rfl (fun ls hl => ?_)
      refine lv_iload hx hb dX0_shortestWay_31 (lv_at hl 0 rfl) ?_
      refine lv_ldc (v := (-2147483648)) hx hb hown (hts _ kn_X0_48) dX0_shortestWay_33 ?_
      refine lv_icmp_ne (tgt := 41) hx hb dX0_shortestWay_35 (by decide) (fun c_35 => ?_) (fun c_35 => ?_)
      · refine lv_iload_n hx hb dX0_shortestWay_41 rfl (lv_at hl 4 rfl) ?_
        refine lv_iload_n hx hb dX0_shortestWay_42 rfl (lv_at hl 5 rfl) ?_
        refine lv_if_eq (tgt := 53) hx hb dX0_shortestWay_43 (by decide) (fun c_43 => ?_) (fun c_43 => ?_)
        · refine lv_iconst (v := 5) hx hb dX0_shortestWay_53 (by decide) ?_
          refine lv_goto (tgt := 58) hx hb dX0_shortestWay_54 (by decide) ?_
          refine lv_iadd hx hb dX0_shortestWay_58 ?_
          refine k_topi (y := nI (r + 5)) (by exact nI_add r 5) ?_
          refine lv_istore_n (lv' := [(3, .int (nI (r + 5))), (7, .int (V (48 * c0 + i))), (6, .int (nI i)), (5, .int a), (4, .int (nI d)), (2, .int (nI p0)), (0, .ref h), (1, .int (nI c0))]) hx hb dX0_shortestWay_59 rfl hl (by decide) rfl (fun ls hl => ?_)
          refine lv_iinc (v := nI (p0 + 4)) (lv' := [(2, .int (nI (p0 + 4))), (3, .int (nI (r + 5))), (7, .int (V (48 * c0 + i))), (6, .int (nI i)), (5, .int a), (4, .int (nI d)), (0, .ref h), (1, .int (nI c0))]) hx hb dX0_shortestWay_60 hl (k := 5) rfl (nI_add _ 4) (by decide) rfl (fun ls hl => ?_)
          refine lv_iload hx hb dX0_shortestWay_63 (lv_at hl 5 rfl) ?_
          refine lv_iload hx hb dX0_shortestWay_65 (lv_at hl 2 rfl) ?_
          refine lv_iload hx hb dX0_shortestWay_67 (lv_at hl 4 rfl) ?_
          refine lv_isub hx hb dX0_shortestWay_69 ?_
          have hX : List.Perm ([(h, .inr (1, [.int P, .int (nI n), .ref qv, .ref qp, .ref ql, .ref qg])), (qv, aI Z 144 V), (qp, aI Z 3 pr), (ql, aI Z 3 le), (qg, aI Z 3 gr)]) ([] ++ ([(h, .inr (1, [.int P, .int (nI n), .ref qv, .ref qp, .ref ql, .ref qg])), (qv, aI Z 144 V), (qp, aI Z 3 pr), (ql, aI Z 3 le), (qg, aI Z 3 gr)])) := (perm_ix [0, 1, 2, 3, 4] rfl 5 (by decide) rfl)
          refine kc_i (Wc := []) (Wr := [(h, .inr (1, [.int P, .int (nI n), .ref qv, .ref qp, .ref ql, .ref qg])), (qv, aI Z 144 V), (qp, aI Z 3 pr), (ql, aI Z 3 le), (qg, aI Z 3 gr)]) G hX (krS 1 rfl (As := [.int ((V (48 * c0 + i)) - a)]) (rest := [.int (nI d)]) C G hX (c_X6_varintBytes Z l (V (48 * c0 + i) - a) _) (gdS ml_X0_82 sm_X6_varintBytes ii_X6 co_X6_varintBytes) (by decide +kernel) ⟨Nat.le_of_ble_eq_true rfl, Nat.le_of_ble_eq_true rfl⟩ hl rfl (Nat.le_of_ble_eq_true rfl) ⟨Nat.le_of_ble_eq_true rfl, Nat.le_of_ble_eq_true rfl⟩ dX0_shortestWay_70) (fun r_70 u H locs hu G => ?_)
          obtain ⟨r_70_e, rfl⟩ := hu
          subst r_70_e
          have G : wd Z A s ([(h, .inr (1, [.int P, .int (nI n), .ref qv, .ref qp, .ref ql, .ref qg])), (qv, aI Z 144 V), (qp, aI Z 3 pr), (ql, aI Z 3 le), (qg, aI Z 3 gr)]) H locs := G
          refine lv_iadd hx hb dX0_shortestWay_73 ?_
          refine k_topi (y := nI (d + (vbs (V (48 * c0 + i) - a)).length)) (by exact nI_add _ _) ?_
          refine lv_istore (lv' := [(4, .int (nI (d + (vbs (V (48 * c0 + i) - a)).length))), (2, .int (nI (p0 + 4))), (3, .int (nI (r + 5))), (7, .int (V (48 * c0 + i))), (6, .int (nI i)), (5, .int a), (0, .ref h), (1, .int (nI c0))]) hx hb dX0_shortestWay_74 hl (by decide) rfl (fun ls hl => ?_)
          refine lv_iload hx hb dX0_shortestWay_76 (lv_at hl 3 rfl) ?_
          refine lv_istore (lv' := [(5, .int (V (48 * c0 + i))), (4, .int (nI (d + (vbs (V (48 * c0 + i) - a)).length))), (2, .int (nI (p0 + 4))), (3, .int (nI (r + 5))), (7, .int (V (48 * c0 + i))), (6, .int (nI i)), (0, .ref h), (1, .int (nI c0))]) hx hb dX0_shortestWay_78 hl (by decide) rfl (fun ls hl => ?_)
          refine lv_iinc (v := nI (i + 1)) (lv' := [(6, .int (nI (i + 1))), (5, .int (V (48 * c0 + i))), (4, .int (nI (d + (vbs (V (48 * c0 + i) - a)).length))), (2, .int (nI (p0 + 4))), (3, .int (nI (r + 5))), (7, .int (V (48 * c0 + i))), (0, .ref h), (1, .int (nI c0))]) hx hb dX0_shortestWay_80 hl (k := 5) rfl (nI_1 _) (by decide) rfl (fun ls hl => ?_)
          refine lv_goto (tgt := 13) hx hb dX0_shortestWay_83 (by decide) ?_
          exact ih (i + 1) (p0 + 4) (r + 5) (d + (vbs (V (48 * c0 + i) - a)).length) (V (48 * c0 + i)) (by omega) (by rw [col_s, swF_s, ← hs, swS, if_neg c_35]; dsimp only; rw [if_pos (Or.inl ((n_pos (by omega)).mp c_43))]) _ _ _ G (lv_sub hl [0, 1, 2, 4, 3, 6, 7] rfl)
        · refine lv_iload hx hb dX0_shortestWay_46 (lv_at hl 0 rfl) ?_
          refine lv_iload hx hb dX0_shortestWay_48 (lv_at hl 2 rfl) ?_
          refine lv_icmp_eq (tgt := 57) hx hb dX0_shortestWay_50 (by decide) (fun c_50 => ?_) (fun c_50 => ?_)
          · refine lv_iconst (v := 0) hx hb dX0_shortestWay_57 (by decide) ?_
            refine lv_iadd hx hb dX0_shortestWay_58 ?_
            refine k_topi (y := nI r) (by exact Int32.add_zero _) ?_
            refine lv_istore_n (lv' := [(3, .int (nI r)), (7, .int (V (48 * c0 + i))), (6, .int (nI i)), (5, .int a), (4, .int (nI d)), (2, .int (nI p0)), (0, .ref h), (1, .int (nI c0))]) hx hb dX0_shortestWay_59 rfl hl (by decide) rfl (fun ls hl => ?_)
            refine lv_iinc (v := nI (p0 + 4)) (lv' := [(2, .int (nI (p0 + 4))), (3, .int (nI r)), (7, .int (V (48 * c0 + i))), (6, .int (nI i)), (5, .int a), (4, .int (nI d)), (0, .ref h), (1, .int (nI c0))]) hx hb dX0_shortestWay_60 hl (k := 5) rfl (nI_add _ 4) (by decide) rfl (fun ls hl => ?_)
            refine lv_iload hx hb dX0_shortestWay_63 (lv_at hl 5 rfl) ?_
            refine lv_iload hx hb dX0_shortestWay_65 (lv_at hl 2 rfl) ?_
            refine lv_iload hx hb dX0_shortestWay_67 (lv_at hl 4 rfl) ?_
            refine lv_isub hx hb dX0_shortestWay_69 ?_
            have hX : List.Perm ([(h, .inr (1, [.int P, .int (nI n), .ref qv, .ref qp, .ref ql, .ref qg])), (qv, aI Z 144 V), (qp, aI Z 3 pr), (ql, aI Z 3 le), (qg, aI Z 3 gr)]) ([] ++ ([(h, .inr (1, [.int P, .int (nI n), .ref qv, .ref qp, .ref ql, .ref qg])), (qv, aI Z 144 V), (qp, aI Z 3 pr), (ql, aI Z 3 le), (qg, aI Z 3 gr)])) := (perm_ix [0, 1, 2, 3, 4] rfl 5 (by decide) rfl)
            refine kc_i (Wc := []) (Wr := [(h, .inr (1, [.int P, .int (nI n), .ref qv, .ref qp, .ref ql, .ref qg])), (qv, aI Z 144 V), (qp, aI Z 3 pr), (ql, aI Z 3 le), (qg, aI Z 3 gr)]) G hX (krS 1 rfl (As := [.int ((V (48 * c0 + i)) - a)]) (rest := [.int (nI d)]) C G hX (c_X6_varintBytes Z l (V (48 * c0 + i) - a) _) (gdS ml_X0_82 sm_X6_varintBytes ii_X6 co_X6_varintBytes) (by decide +kernel) ⟨Nat.le_of_ble_eq_true rfl, Nat.le_of_ble_eq_true rfl⟩ hl rfl (Nat.le_of_ble_eq_true rfl) ⟨Nat.le_of_ble_eq_true rfl, Nat.le_of_ble_eq_true rfl⟩ dX0_shortestWay_70) (fun r_70_1 u H locs hu G => ?_)
            obtain ⟨r_70_1_e, rfl⟩ := hu
            subst r_70_1_e
            have G : wd Z A s ([(h, .inr (1, [.int P, .int (nI n), .ref qv, .ref qp, .ref ql, .ref qg])), (qv, aI Z 144 V), (qp, aI Z 3 pr), (ql, aI Z 3 le), (qg, aI Z 3 gr)]) H locs := G
            refine lv_iadd hx hb dX0_shortestWay_73 ?_
            refine k_topi (y := nI (d + (vbs (V (48 * c0 + i) - a)).length)) (by exact nI_add _ _) ?_
            refine lv_istore (lv' := [(4, .int (nI (d + (vbs (V (48 * c0 + i) - a)).length))), (2, .int (nI (p0 + 4))), (3, .int (nI r)), (7, .int (V (48 * c0 + i))), (6, .int (nI i)), (5, .int a), (0, .ref h), (1, .int (nI c0))]) hx hb dX0_shortestWay_74 hl (by decide) rfl (fun ls hl => ?_)
            refine lv_iload hx hb dX0_shortestWay_76 (lv_at hl 3 rfl) ?_
            refine lv_istore (lv' := [(5, .int (V (48 * c0 + i))), (4, .int (nI (d + (vbs (V (48 * c0 + i) - a)).length))), (2, .int (nI (p0 + 4))), (3, .int (nI r)), (7, .int (V (48 * c0 + i))), (6, .int (nI i)), (0, .ref h), (1, .int (nI c0))]) hx hb dX0_shortestWay_78 hl (by decide) rfl (fun ls hl => ?_)
            refine lv_iinc (v := nI (i + 1)) (lv' := [(6, .int (nI (i + 1))), (5, .int (V (48 * c0 + i))), (4, .int (nI (d + (vbs (V (48 * c0 + i) - a)).length))), (2, .int (nI (p0 + 4))), (3, .int (nI r)), (7, .int (V (48 * c0 + i))), (0, .ref h), (1, .int (nI c0))]) hx hb dX0_shortestWay_80 hl (k := 5) rfl (nI_1 _) (by decide) rfl (fun ls hl => ?_)
            refine lv_goto (tgt := 13) hx hb dX0_shortestWay_83 (by decide) ?_
            exact ih (i + 1) (p0 + 4) r (d + (vbs (V (48 * c0 + i) - a)).length) (V (48 * c0 + i)) (by omega) (by rw [col_s, swF_s, ← hs, swS, if_neg c_35]; dsimp only; rw [if_neg (fun z => z.elim (fun y => c_43 ((n_pos (by omega)).mpr y)) (fun y => y c_50))]; rfl) _ _ _ G (lv_sub hl [0, 1, 2, 4, 3, 6, 7] rfl)
          · refine lv_iconst (v := 5) hx hb dX0_shortestWay_53 (by decide) ?_
            refine lv_goto (tgt := 58) hx hb dX0_shortestWay_54 (by decide) ?_
            refine lv_iadd hx hb dX0_shortestWay_58 ?_
            refine k_topi (y := nI (r + 5)) (by exact nI_add r 5) ?_
            refine lv_istore_n (lv' := [(3, .int (nI (r + 5))), (7, .int (V (48 * c0 + i))), (6, .int (nI i)), (5, .int a), (4, .int (nI d)), (2, .int (nI p0)), (0, .ref h), (1, .int (nI c0))]) hx hb dX0_shortestWay_59 rfl hl (by decide) rfl (fun ls hl => ?_)
            refine lv_iinc (v := nI (p0 + 4)) (lv' := [(2, .int (nI (p0 + 4))), (3, .int (nI (r + 5))), (7, .int (V (48 * c0 + i))), (6, .int (nI i)), (5, .int a), (4, .int (nI d)), (0, .ref h), (1, .int (nI c0))]) hx hb dX0_shortestWay_60 hl (k := 5) rfl (nI_add _ 4) (by decide) rfl (fun ls hl => ?_)
            refine lv_iload hx hb dX0_shortestWay_63 (lv_at hl 5 rfl) ?_
            refine lv_iload hx hb dX0_shortestWay_65 (lv_at hl 2 rfl) ?_
            refine lv_iload hx hb dX0_shortestWay_67 (lv_at hl 4 rfl) ?_
            refine lv_isub hx hb dX0_shortestWay_69 ?_
            have hX : List.Perm ([(h, .inr (1, [.int P, .int (nI n), .ref qv, .ref qp, .ref ql, .ref qg])), (qv, aI Z 144 V), (qp, aI Z 3 pr), (ql, aI Z 3 le), (qg, aI Z 3 gr)]) ([] ++ ([(h, .inr (1, [.int P, .int (nI n), .ref qv, .ref qp, .ref ql, .ref qg])), (qv, aI Z 144 V), (qp, aI Z 3 pr), (ql, aI Z 3 le), (qg, aI Z 3 gr)])) := (perm_ix [0, 1, 2, 3, 4] rfl 5 (by decide) rfl)
            refine kc_i (Wc := []) (Wr := [(h, .inr (1, [.int P, .int (nI n), .ref qv, .ref qp, .ref ql, .ref qg])), (qv, aI Z 144 V), (qp, aI Z 3 pr), (ql, aI Z 3 le), (qg, aI Z 3 gr)]) G hX (krS 1 rfl (As := [.int ((V (48 * c0 + i)) - a)]) (rest := [.int (nI d)]) C G hX (c_X6_varintBytes Z l (V (48 * c0 + i) - a) _) (gdS ml_X0_82 sm_X6_varintBytes ii_X6 co_X6_varintBytes) (by decide +kernel) ⟨Nat.le_of_ble_eq_true rfl, Nat.le_of_ble_eq_true rfl⟩ hl rfl (Nat.le_of_ble_eq_true rfl) ⟨Nat.le_of_ble_eq_true rfl, Nat.le_of_ble_eq_true rfl⟩ dX0_shortestWay_70) (fun r_70_2 u H locs hu G => ?_)
            obtain ⟨r_70_2_e, rfl⟩ := hu
            subst r_70_2_e
            have G : wd Z A s ([(h, .inr (1, [.int P, .int (nI n), .ref qv, .ref qp, .ref ql, .ref qg])), (qv, aI Z 144 V), (qp, aI Z 3 pr), (ql, aI Z 3 le), (qg, aI Z 3 gr)]) H locs := G
            refine lv_iadd hx hb dX0_shortestWay_73 ?_
            refine k_topi (y := nI (d + (vbs (V (48 * c0 + i) - a)).length)) (by exact nI_add _ _) ?_
            refine lv_istore (lv' := [(4, .int (nI (d + (vbs (V (48 * c0 + i) - a)).length))), (2, .int (nI (p0 + 4))), (3, .int (nI (r + 5))), (7, .int (V (48 * c0 + i))), (6, .int (nI i)), (5, .int a), (0, .ref h), (1, .int (nI c0))]) hx hb dX0_shortestWay_74 hl (by decide) rfl (fun ls hl => ?_)
            refine lv_iload hx hb dX0_shortestWay_76 (lv_at hl 3 rfl) ?_
            refine lv_istore (lv' := [(5, .int (V (48 * c0 + i))), (4, .int (nI (d + (vbs (V (48 * c0 + i) - a)).length))), (2, .int (nI (p0 + 4))), (3, .int (nI (r + 5))), (7, .int (V (48 * c0 + i))), (6, .int (nI i)), (0, .ref h), (1, .int (nI c0))]) hx hb dX0_shortestWay_78 hl (by decide) rfl (fun ls hl => ?_)
            refine lv_iinc (v := nI (i + 1)) (lv' := [(6, .int (nI (i + 1))), (5, .int (V (48 * c0 + i))), (4, .int (nI (d + (vbs (V (48 * c0 + i) - a)).length))), (2, .int (nI (p0 + 4))), (3, .int (nI (r + 5))), (7, .int (V (48 * c0 + i))), (0, .ref h), (1, .int (nI c0))]) hx hb dX0_shortestWay_80 hl (k := 5) rfl (nI_1 _) (by decide) rfl (fun ls hl => ?_)
            refine lv_goto (tgt := 13) hx hb dX0_shortestWay_83 (by decide) ?_
            exact ih (i + 1) (p0 + 4) (r + 5) (d + (vbs (V (48 * c0 + i) - a)).length) (V (48 * c0 + i)) (by omega) (by rw [col_s, swF_s, ← hs, swS, if_neg c_35]; dsimp only; rw [if_pos (Or.inr c_50)]) _ _ _ G (lv_sub hl [0, 1, 2, 4, 3, 6, 7] rfl)
      · refine lv_goto (tgt := 80) hx hb dX0_shortestWay_38 (by decide) ?_
        refine lv_iinc (v := nI (i + 1)) (lv' := [(6, .int (nI (i + 1))), (7, .int (V (48 * c0 + i))), (5, .int a), (4, .int (nI d)), (3, .int (nI r)), (2, .int (nI p0)), (0, .ref h), (1, .int (nI c0))]) hx hb dX0_shortestWay_80 hl (k := 1) rfl (nI_1 _) (by decide) rfl (fun ls hl => ?_)
        refine lv_goto (tgt := 13) hx hb dX0_shortestWay_83 (by decide) ?_
        exact ih (i + 1) p0 r d a (by omega) (by rw [col_s, swF_s, ← hs, swS, if_pos c_35]) _ _ _ G (lv_sub hl [0, 2, 3, 4, 5, 6, 7] rfl)
set_option maxRecDepth 100000 in
set_option maxHeartbeats 4000000 in
theorem c_X0_shortestWay (Z : zT) (l : Launch) (h qv qp ql qg c0 n : Nat) (P : Int32) (V pr le gr : Nat → Int32) (hc : c0 < 3) (hn : n ≤ 48) : Ki Z l yX0_shortestWay cX0_shortestWay 8 (some .int) ({ frames := 1, cells := 0, slots := 0, locals := 40 }) [.ref h, .int (nI c0)] (btW Z h qv qp ql qg P (nI n) V pr le gr) (fun x u => x = nI (swW (col V c0 n)) ∧ u = btW Z h qv qp ql qg P (nI n) V pr le gr) := by
  intro sz
  refine Met.ofK (cc := cX0_shortestWay) (maxL := 8) (ret := (some .int)) (by decide) (Nat.le_of_ble_eq_true rfl) ?_
  intro p e s m below meth c ls C G hl
  generalize va_A _ sz = A at G ⊢
  have hx := C.1
  have hb := C.2.1
  have hown := C.2.2.2.2.2.1
  have hts := C.2.2.2.2.2.2.1
  refine lv_iconst (v := 0) hx hb dX0_shortestWay_0 (by decide) ?_
  refine lv_istore_n (lv' := [(2, .int 0), (0, .ref h), (1, .int (nI c0))]) hx hb dX0_shortestWay_1 rfl hl (by decide) rfl (fun ls hl => ?_)
  refine lv_iconst (v := 0) hx hb dX0_shortestWay_2 (by decide) ?_
  refine lv_istore_n (lv' := [(3, .int 0), (2, .int 0), (0, .ref h), (1, .int (nI c0))]) hx hb dX0_shortestWay_3 rfl hl (by decide) rfl (fun ls hl => ?_)
  refine lv_iconst (v := 0) hx hb dX0_shortestWay_4 (by decide) ?_
  refine lv_istore (lv' := [(4, .int 0), (3, .int 0), (2, .int 0), (0, .ref h), (1, .int (nI c0))]) hx hb dX0_shortestWay_5 hl (by decide) rfl (fun ls hl => ?_)
  refine lv_iconst (v := 0) hx hb dX0_shortestWay_7 (by decide) ?_
  refine lv_istore (lv' := [(5, .int 0), (4, .int 0), (3, .int 0), (2, .int 0), (0, .ref h), (1, .int (nI c0))]) hx hb dX0_shortestWay_8 hl (by decide) rfl (fun ls hl => ?_)
  refine lv_iconst (v := 0) hx hb dX0_shortestWay_10 (by decide) ?_
  refine lv_istore (lv' := [(6, .int 0), (5, .int 0), (4, .int 0), (3, .int 0), (2, .int 0), (0, .ref h), (1, .int (nI c0))]) hx hb dX0_shortestWay_11 hl (by decide) rfl (fun ls hl => ?_)
  exact lp_X0_shortestWay C hc hn (fun x hx => ⟨hx, rfl⟩) n 0 0 0 0 0 (by omega) rfl _ _ _ G (lv_sub hl [0, 1, 2, 3, 4, 5, 6] rfl)
