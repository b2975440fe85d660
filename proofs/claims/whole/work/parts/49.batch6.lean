/-! MODULE Batch (X0), sixth part: readColumn, readFrom. -/
set_option maxRecDepth 100000 in
set_option maxHeartbeats 4000000 in
theorem lp_X0_rc1 {p : Program} {l : Launch} {e : Env} {s : State} {m : MethodId} {args : Array Value} {below : List Frame} {meth : Method} {c : Code} {Z : zT} {A : Nat → Prop} {h qv qp ql qg c0 n sc sq SL E : Nat} {P : Int32} {f : Nat → Int32} {way : Int32} {V pr le gr : Nat → Int32} {msF : Int64} {sF : rS} {Q : State → Prop} (C : cx p s m args meth c cX0_readColumn 10 (some .boolean) RX0 "readColumn") (hn : n ≤ 48) (hE : E ≤ SL) (hL : SL < 2 ^ 30) (kk0 : ∀ (H : Heap) (locs : List Loc) (ls : Array Slot), wd Z A s (btW Z h qv qp ql qg P (nI n) V pr le gr ++ scW Z sc sq SL f sF.1 E sF.2) H locs → lv_has ls 10 [(7, .int (nI (8 * ((n + 7) / 8)))), (6, .int (nI (8 * ((n + 7) / 8)))), (4, .long msF), (3, .int way), (0, .ref h), (1, .ref sc), (2, .int (nI c0))] → W p l e ({ frames := 1, cells := 0, slots := 0, locals := 45 }) s m args below meth c H locs 0 0 Q (F0 m 45 ls [])) : ∀ (k t : Nat) (s1 : rS) (ms : Int64), t + k = (n + 7) / 8 → s1.1 ≤ E → rcM f E k s1 ms = (msF, sF) → ∀ (H : Heap) (locs : List Loc) (ls : Array Slot), wd Z A s (btW Z h qv qp ql qg P (nI n) V pr le gr ++ scW Z sc sq SL f s1.1 E s1.2) H locs → lv_has ls 10 [(7, .int (nI (8 * t))), (6, .int (nI (8 * t))), (4, .long ms), (3, .int way), (0, .ref h), (1, .ref sc), (2, .int (nI c0))] → W p l e ({ frames := 1, cells := 0, slots := 0, locals := 45 }) s m args below meth c H locs 0 0 Q (F0 m 14 ls []) := by
  have hx := C.1
  have hb := C.2.1
  have hown := C.2.2.2.2.2.1
  have hts := C.2.2.2.2.2.2.1
  intro k
  induction k with
  | zero =>
    intro t s1 ms ht hs1 hM H locs ls G hl
    have e0 : t = (n + 7) / 8 := by omega
    rw [← e0] at kk0
    rw [rcM, Prod.mk.injEq] at hM
    obtain ⟨e1, e2⟩ := hM
    subst e1; subst e2
    refine lv_iload hx hb dX0_readColumn_14 (lv_at hl 0 rfl) ?_
    refine lv_aload_n hx hb dX0_readColumn_16 rfl (lv_at hl 4 rfl) ?_
    refine k_get (ci := 1) (CC := RX0) (T := TX0) (N := 6) (v := .int (nI n)) C G 0 rfl rfl in_1 1 (by decide) fl_X0_28 rfl rfl dX0_readColumn_17 ?_
    refine lv_icmp_ge (tgt := 45) hx hb dX0_readColumn_20 (by decide) (fun c_20 => ?_) (fun c_20 => ?_)
    · exact kk0 _ _ _ G (lv_sub hl [0, 1, 2, 3, 4, 5, 6] rfl)
    · exact absurd (nI_le (by omega) (by omega)) c_20
  | succ k ih =>
    intro t s1 ms ht hs1 hM H locs ls G hl
    rw [rcM] at hM
    refine lv_iload hx hb dX0_readColumn_14 (lv_at hl 0 rfl) ?_
    refine lv_aload_n hx hb dX0_readColumn_16 rfl (lv_at hl 4 rfl) ?_
    refine k_get (ci := 1) (CC := RX0) (T := TX0) (N := 6) (v := .int (nI n)) C G 0 rfl rfl in_1 1 (by decide) fl_X0_28 rfl rfl dX0_readColumn_17 ?_
    refine lv_icmp_ge (tgt := 45) hx hb dX0_readColumn_20 (by decide) (fun c_20 => ?_) (fun c_20 => ?_)
    · exact absurd c_20 (nI_ge (by omega) (by omega))
    · refine lv_lload hx hb dX0_readColumn_23 (lv_at hl 2 rfl) ?_
      refine lv_bipush (v := 8) hx hb dX0_readColumn_25 (by decide) ?_
      refine lv_lshl (v := ms <<< ((8 : Int32).toInt64 &&& 63)) hx hb dX0_readColumn_27 rfl ?_
      refine lv_aload_n hx hb dX0_readColumn_28 rfl (lv_at hl 5 rfl) ?_
      have hX : List.Perm ([(h, .inr (1, [.int P, .int (nI n), .ref qv, .ref qp, .ref ql, .ref qg])), (qv, aI Z 144 V), (qp, aI Z 3 pr), (ql, aI Z 3 le), (qg, aI Z 3 gr), (sc, .inr (8, [.ref sq, .int (nI s1.1), .int (nI E), .int s1.2])), (sq, aB Z SL f)]) ([(sc, .inr (8, [.ref sq, .int (nI s1.1), .int (nI E), .int s1.2])), (sq, aB Z SL f)] ++ ([(h, .inr (1, [.int P, .int (nI n), .ref qv, .ref qp, .ref ql, .ref qg])), (qv, aI Z 144 V), (qp, aI Z 3 pr), (ql, aI Z 3 le), (qg, aI Z 3 gr)])) := (perm_ix [5, 6, 0, 1, 2, 3, 4] rfl 7 (by decide) rfl)
      refine kc_i (Wc := [(sc, .inr (8, [.ref sq, .int (nI s1.1), .int (nI E), .int s1.2])), (sq, aB Z SL f)]) (Wr := [(h, .inr (1, [.int P, .int (nI n), .ref qv, .ref qp, .ref ql, .ref qg])), (qv, aI Z 144 V), (qp, aI Z 3 pr), (ql, aI Z 3 le), (qg, aI Z 3 gr)]) G hX (krV 0 rfl (As := []) (rest := [.long (ms <<< ((8 : Int32).toInt64 &&& 63))]) (ci := 8) (CC := RX7) (T := TX7) (N := 4) C G hX (c_X7_u1R Z l sc sq SL E s1 f hs1 hE (by omega) _) (gdV ml_X0_93 im_X7_u1 se_X7_u1 ii_X7 co_X7_u1) (by decide +kernel) ⟨Nat.le_of_ble_eq_true rfl, Nat.le_of_ble_eq_true rfl⟩ rfl 0 rfl hl rfl (Nat.le_of_ble_eq_true rfl) ⟨Nat.le_refl _, Nat.le_refl _⟩ dX0_readColumn_29) (fun r_29 u H locs hu G => ?_)
      obtain ⟨r_29_e, rfl⟩ := hu
      subst r_29_e
      have G : wd Z A s ([(h, .inr (1, [.int P, .int (nI n), .ref qv, .ref qp, .ref ql, .ref qg])), (qv, aI Z 144 V), (qp, aI Z 3 pr), (ql, aI Z 3 le), (qg, aI Z 3 gr), (sc, .inr (8, [.ref sq, .int (nI (rdU1 f E s1).2.1), .int (nI E), .int ((rdU1 f E s1).2.2)])), (sq, aB Z SL f)]) H locs := G.perm (perm_ix [2, 3, 4, 5, 6, 0, 1] rfl 7 (by decide) rfl)
      obtain ⟨t29_14, et29_14⟩ : ∃ t, t = (rdU1 f E s1).2 := ⟨_, rfl⟩
      have ht29_14 : t29_14.1 ≤ E := by rw [et29_14]; exact rdU1_le hs1
      rw [← et29_14] at G
      refine lv_i2l (v := ((rdU1 f E s1).1).toInt64) hx hb dX0_readColumn_32 rfl ?_
      refine lv_lor hx hb dX0_readColumn_33 ?_
      refine lv_lstore (lv' := [(4, .long ((ms <<< ((8 : Int32).toInt64 &&& 63)) ||| (((rdU1 f E s1).1).toInt64))), (7, .int (nI (8 * t))), (6, .int (nI (8 * t))), (3, .int way), (0, .ref h), (1, .ref sc), (2, .int (nI c0))]) hx hb dX0_readColumn_34 hl (by decide) rfl (fun ls hl => ?_)
      refine lv_iinc (v := nI (8 * t + 8)) (lv' := [(6, .int (nI (8 * t + 8))), (4, .long ((ms <<< ((8 : Int32).toInt64 &&& 63)) ||| (((rdU1 f E s1).1).toInt64))), (7, .int (nI (8 * t))), (3, .int way), (0, .ref h), (1, .ref sc), (2, .int (nI c0))]) hx hb dX0_readColumn_36 hl (k := 2) rfl (nI_add _ 8) (by decide) rfl (fun ls hl => ?_)
      refine lv_iinc (v := nI (8 * t + 8)) (lv' := [(7, .int (nI (8 * t + 8))), (6, .int (nI (8 * t + 8))), (4, .long ((ms <<< ((8 : Int32).toInt64 &&& 63)) ||| (((rdU1 f E s1).1).toInt64))), (3, .int way), (0, .ref h), (1, .ref sc), (2, .int (nI c0))]) hx hb dX0_readColumn_39 hl (k := 2) rfl (nI_add _ 8) (by decide) rfl (fun ls hl => ?_)
      refine lv_goto (tgt := 14) hx hb dX0_readColumn_42 (by decide) ?_
      subst et29_14
      exact ih (t + 1) _ _ (by omega) ht29_14 hM _ _ _ G (lv_sub hl [0, 1, 2, 3, 4, 5, 6] rfl)
set_option maxRecDepth 100000 in
set_option maxHeartbeats 4000000 in
theorem c_X0_readColumn (Z : zT) (l : Launch) (h qv qp ql qg c0 n sc sq SL E : Nat) (P : Int32) (V pr le gr f : Nat → Int32) (k : Nat → Nat) (s1 : rS) (hc : c0 < 3) (hn : n ≤ 48) (hk : ∀ d, d < 3 → k d ≤ 48) (hk0 : k c0 = 0) (hb0 : bt_ok V pr le gr k) (hs1 : s1.1 ≤ E) (hE : E ≤ SL) (hL : SL < 2 ^ 30) : Ki Z l yX0_readColumn cX0_readColumn 10 (some .boolean) ({ frames := 1, cells := 0, slots := 0, locals := 45 }) [.ref h, .ref sc, .int (nI c0)] (btW Z h qv qp ql qg P (nI n) V pr le gr ++ scW Z sc sq SL f s1.1 E s1.2) (fun r u => ∃ pr2 le2 gr2, r = (if (rdU1 f E s1).1 ≤ 2 ∧ (rcE f E n c0 s1 V).2 = 0 then 1 else 0) ∧ bt_ok (rcA f E n c0 s1 V).2.1 pr2 le2 gr2 (fun d => if d = c0 then (rcA f E n c0 s1 V).2.2 else k d) ∧ u = btW Z h qv qp ql qg P (nI n) (rcA f E n c0 s1 V).2.1 pr2 le2 gr2 ++ scW Z sc sq SL f (rcE f E n c0 s1 V).1 E (rcE f E n c0 s1 V).2) := by
  intro sz
  refine Met.ofK (cc := cX0_readColumn) (maxL := 10) (ret := (some .boolean)) (by decide) (Nat.le_of_ble_eq_true rfl) ?_
  intro p e s m below meth c ls C G hl
  generalize va_A _ sz = A at G ⊢
  have hx := C.1
  have hb := C.2.1
  have hown := C.2.2.2.2.2.1
  have hts := C.2.2.2.2.2.2.1
  refine lv_aload_n hx hb dX0_readColumn_0 rfl (lv_at hl 1 rfl) ?_
  have hX : List.Perm ([(h, .inr (1, [.int P, .int (nI n), .ref qv, .ref qp, .ref ql, .ref qg])), (qv, aI Z 144 V), (qp, aI Z 3 pr), (ql, aI Z 3 le), (qg, aI Z 3 gr), (sc, .inr (8, [.ref sq, .int (nI s1.1), .int (nI E), .int s1.2])), (sq, aB Z SL f)]) ([(sc, .inr (8, [.ref sq, .int (nI s1.1), .int (nI E), .int s1.2])), (sq, aB Z SL f)] ++ ([(h, .inr (1, [.int P, .int (nI n), .ref qv, .ref qp, .ref ql, .ref qg])), (qv, aI Z 144 V), (qp, aI Z 3 pr), (ql, aI Z 3 le), (qg, aI Z 3 gr)])) := (perm_ix [5, 6, 0, 1, 2, 3, 4] rfl 7 (by decide) rfl)
  refine kc_i (Wc := [(sc, .inr (8, [.ref sq, .int (nI s1.1), .int (nI E), .int s1.2])), (sq, aB Z SL f)]) (Wr := [(h, .inr (1, [.int P, .int (nI n), .ref qv, .ref qp, .ref ql, .ref qg])), (qv, aI Z 144 V), (qp, aI Z 3 pr), (ql, aI Z 3 le), (qg, aI Z 3 gr)]) G hX (krV 0 rfl (As := []) (rest := []) (ci := 8) (CC := RX7) (T := TX7) (N := 4) C G hX (c_X7_u1R Z l sc sq SL E s1 f hs1 hE (by omega) _) (gdV ml_X0_93 im_X7_u1 se_X7_u1 ii_X7 co_X7_u1) (by decide +kernel) ⟨Nat.le_of_ble_eq_true rfl, Nat.le_of_ble_eq_true rfl⟩ rfl 0 rfl hl rfl (Nat.le_of_ble_eq_true rfl) ⟨Nat.le_refl _, Nat.le_refl _⟩ dX0_readColumn_1) (fun r_1 u H locs hu G => ?_)
  obtain ⟨r_1_e, rfl⟩ := hu
  subst r_1_e
  have G : wd Z A s ([(h, .inr (1, [.int P, .int (nI n), .ref qv, .ref qp, .ref ql, .ref qg])), (qv, aI Z 144 V), (qp, aI Z 3 pr), (ql, aI Z 3 le), (qg, aI Z 3 gr), (sc, .inr (8, [.ref sq, .int (nI (rdU1 f E s1).2.1), .int (nI E), .int ((rdU1 f E s1).2.2)])), (sq, aB Z SL f)]) H locs := G.perm (perm_ix [2, 3, 4, 5, 6, 0, 1] rfl 7 (by decide) rfl)
  obtain ⟨t1_6, et1_6⟩ : ∃ t, t = (rdU1 f E s1).2 := ⟨_, rfl⟩
  have ht1_6 : t1_6.1 ≤ E := by rw [et1_6]; exact rdU1_le hs1
  rw [← et1_6] at G
  refine lv_istore_n (lv' := [(3, .int ((rdU1 f E s1).1)), (0, .ref h), (1, .ref sc), (2, .int (nI c0))]) hx hb dX0_readColumn_4 rfl hl (by decide) rfl (fun ls hl => ?_)
  refine lv_lconst (v := 0) hx hb dX0_readColumn_5 (by decide) ?_
  refine lv_lstore (lv' := [(4, .long 0), (3, .int ((rdU1 f E s1).1)), (0, .ref h), (1, .ref sc), (2, .int (nI c0))]) hx hb dX0_readColumn_6 hl (by decide) rfl (fun ls hl => ?_)
  refine lv_iconst (v := 0) hx hb dX0_readColumn_8 (by decide) ?_
  refine lv_istore (lv' := [(6, .int 0), (4, .long 0), (3, .int ((rdU1 f E s1).1)), (0, .ref h), (1, .ref sc), (2, .int (nI c0))]) hx hb dX0_readColumn_9 hl (by decide) rfl (fun ls hl => ?_)
  refine lv_iconst (v := 0) hx hb dX0_readColumn_11 (by decide) ?_
  refine lv_istore (lv' := [(7, .int 0), (6, .int 0), (4, .long 0), (3, .int ((rdU1 f E s1).1)), (0, .ref h), (1, .ref sc), (2, .int (nI c0))]) hx hb dX0_readColumn_12 hl (by decide) rfl (fun ls hl => ?_)
  refine lp_X0_rc1 (way := (rdU1 f E s1).1) (V := V) (pr := pr) (le := le) (gr := gr) (msF := (rcM f E ((n + 7) / 8) t1_6 0).1) (sF := (rcM f E ((n + 7) / 8) t1_6 0).2) C hn hE hL (fun H locs ls G hl => ?_) ((n + 7) / 8) 0 t1_6 0 (by omega) ht1_6 rfl _ _ _ G (lv_sub hl [0, 1, 2, 3, 4, 5, 6] rfl)
  refine lv_iconst (v := 0) hx hb dX0_readColumn_45 (by decide) ?_
  refine lv_istore (lv' := [(7, .int 0), (6, .int (nI (8 * ((n + 7) / 8)))), (4, .long ((rcM f E ((n + 7) / 8) t1_6 0).1)), (3, .int ((rdU1 f E s1).1)), (0, .ref h), (1, .ref sc), (2, .int (nI c0))]) hx hb dX0_readColumn_46 hl (by decide) rfl (fun ls hl => ?_)
  refine lv_iconst (v := 0) hx hb dX0_readColumn_48 (by decide) ?_
  refine lv_istore (lv' := [(8, .int 0), (7, .int 0), (6, .int (nI (8 * ((n + 7) / 8)))), (4, .long ((rcM f E ((n + 7) / 8) t1_6 0).1)), (3, .int ((rdU1 f E s1).1)), (0, .ref h), (1, .ref sc), (2, .int (nI c0))]) hx hb dX0_readColumn_49 hl (by decide) rfl (fun ls hl => ?_)
  refine lv_iconst (v := 0) hx hb dX0_readColumn_51 (by decide) ?_
  refine lv_istore (lv' := [(9, .int 0), (8, .int 0), (7, .int 0), (6, .int (nI (8 * ((n + 7) / 8)))), (4, .long ((rcM f E ((n + 7) / 8) t1_6 0).1)), (3, .int ((rdU1 f E s1).1)), (0, .ref h), (1, .ref sc), (2, .int (nI c0))]) hx hb dX0_readColumn_52 hl (by decide) rfl (fun ls hl => ?_)
  subst et1_6
  exact lp_X0_rc2 (k := k) C hc hn hk hE hL n 0 _ 0 0 V pr le gr (by omega) (rcM_le _ _ _ ht1_6) (bt_congr hb0 (fun d _ => by by_cases e : d = c0 <;> simp [e, hk0])) (fun r hr pr2 le2 gr2 hb2 => ⟨pr2, le2, gr2, hr, hb2, rfl⟩) _ _ _ G (lv_sub hl [0, 1, 2, 3, 4, 5, 6, 7, 8] rfl)
set_option maxRecDepth 100000 in
set_option maxHeartbeats 4000000 in
theorem lp_X0_readFrom {p : Program} {l : Launch} {e : Env} {s : State} {m : MethodId} {args : Array Value} {below : List Frame} {meth : Method} {c : Code} {Z : zT} {A : Nat → Prop} {h qv qp ql qg n sc sq SL E : Nat} {P mk : Int32} {f : Nat → Int32} {post : Int32 → va_W → Prop} (C : cx p s m args meth c cX0_readFrom 5 (some .boolean) RX0 "readFrom") (hn : n ≤ 48) (hE : E ≤ SL) (hL : SL < 2 ^ 30) : ∀ (k c0 : Nat) (s1 : rS) (V pr le gr : Nat → Int32), c0 + k = 3 → s1.1 ≤ E → bt_ok V pr le gr (fun d => if d < c0 then n else 0) → (∀ (r : Int32) (V2 pr2 le2 gr2 : Nat → Int32) (s2 : rS), ((r = 1 ∧ rfC f E P n k c0 s1 V = some (P, n, V2) ∧ bt_ok V2 pr2 le2 gr2 (fun _ => n)) ∨ (r = 0 ∧ rfC f E P n k c0 s1 V = none)) → post r (btW Z h qv qp ql qg P (nI n) V2 pr2 le2 gr2 ++ scW Z sc sq SL f s2.1 E s2.2)) → ∀ (H : Heap) (locs : List Loc) (ls : Array Slot), wd Z A s (btW Z h qv qp ql qg P (nI n) V pr le gr ++ scW Z sc sq SL f s1.1 E s1.2) H locs → lv_has ls 5 [(4, .int (nI c0)), (3, .int (nI n)), (2, .int mk), (0, .ref h), (1, .ref sc)] → W p l e ({ frames := 2, cells := 0, slots := 0, locals := 80 }) s m args below meth c H locs 0 0 (MQ below (va_Qi post (mB Z A) A) args s 0 0 A) (F0 m 55 ls []) := by
  have hx := C.1
  have hb := C.2.1
  have hown := C.2.2.2.2.2.1
  have hts := C.2.2.2.2.2.2.1
  intro k
  induction k with
  | zero =>
    intro c0 s1 V pr le gr hc0 hs1 hb0 hp H locs ls G hl
    refine lv_iload hx hb dX0_readFrom_55 (lv_at hl 0 rfl) ?_
    refine lv_iconst (v := 3) hx hb dX0_readFrom_57 (by decide) ?_
    refine lv_icmp_ge (tgt := 79) hx hb dX0_readFrom_58 (by decide) (fun c_58 => ?_) (fun c_58 => ?_)
    · refine lv_aload_n hx hb dX0_readFrom_79 rfl (lv_at hl 4 rfl) ?_
      have hX : List.Perm ([(h, .inr (1, [.int P, .int (nI n), .ref qv, .ref qp, .ref ql, .ref qg])), (qv, aI Z 144 V), (qp, aI Z 3 pr), (ql, aI Z 3 le), (qg, aI Z 3 gr), (sc, .inr (8, [.ref sq, .int (nI s1.1), .int (nI E), .int s1.2])), (sq, aB Z SL f)]) ([(sc, .inr (8, [.ref sq, .int (nI s1.1), .int (nI E), .int s1.2])), (sq, aB Z SL f)] ++ ([(h, .inr (1, [.int P, .int (nI n), .ref qv, .ref qp, .ref ql, .ref qg])), (qv, aI Z 144 V), (qp, aI Z 3 pr), (ql, aI Z 3 le), (qg, aI Z 3 gr)])) := (perm_ix [5, 6, 0, 1, 2, 3, 4] rfl 7 (by decide) rfl)
      refine kc_i (Wc := [(sc, .inr (8, [.ref sq, .int (nI s1.1), .int (nI E), .int s1.2])), (sq, aB Z SL f)]) (Wr := [(h, .inr (1, [.int P, .int (nI n), .ref qv, .ref qp, .ref ql, .ref qg])), (qv, aI Z 144 V), (qp, aI Z 3 pr), (ql, aI Z 3 le), (qg, aI Z 3 gr)]) G hX (krV 0 rfl (As := []) (rest := []) (ci := 8) (CC := RX7) (T := TX7) (N := 4) C G hX (c_X7_isAtEnd Z l sc sq SL s1.1 E f s1.2 (by omega) (by omega) _) (gdV ml_X0_109 im_X7_isAtEnd se_X7_isAtEnd ii_X7 co_X7_isAtEnd) (by decide +kernel) ⟨Nat.le_of_ble_eq_true rfl, Nat.le_of_ble_eq_true rfl⟩ rfl 0 rfl hl rfl (Nat.le_of_ble_eq_true rfl) ⟨Nat.le_refl _, Nat.le_refl _⟩ dX0_readFrom_80) (fun r_80 u H locs hu G => ?_)
      obtain ⟨hr, rfl⟩ := hu
      have G : wd Z A s ([(h, .inr (1, [.int P, .int (nI n), .ref qv, .ref qp, .ref ql, .ref qg])), (qv, aI Z 144 V), (qp, aI Z 3 pr), (ql, aI Z 3 le), (qg, aI Z 3 gr), (sc, .inr (8, [.ref sq, .int (nI s1.1), .int (nI E), .int s1.2])), (sq, aB Z SL f)]) H locs := G.perm (perm_ix [2, 3, 4, 5, 6, 0, 1] rfl 7 (by decide) rfl)
      rw [rfC] at hp
      by_cases z : s1.2 = 0 ∧ s1.1 = E
      · rw [if_pos z] at hr hp
        subst hr
        exact kr_z C G (by decide) (hp _ _ _ _ _ _ (Or.inl ⟨rfl, rfl, bt_congr hb0 (fun d hd => if_pos (by omega))⟩)) (Nat.le_refl _) (Nat.le_refl _) dX0_readFrom_83
      · rw [if_neg z] at hr hp
        subst hr
        exact kr_z C G (by decide) (hp _ _ _ _ _ _ (Or.inr ⟨rfl, rfl⟩)) (Nat.le_refl _) (Nat.le_refl _) dX0_readFrom_83
    · exact absurd (show nI 3 ≤ nI c0 from nI_le (by omega) (by omega)) c_58
  | succ k ih =>
    intro c0 s1 V pr le gr hc0 hs1 hb0 hp H locs ls G hl
    have hc : c0 < 3 := by omega
    refine lv_iload hx hb dX0_readFrom_55 (lv_at hl 0 rfl) ?_
    refine lv_iconst (v := 3) hx hb dX0_readFrom_57 (by decide) ?_
    refine lv_icmp_ge (tgt := 79) hx hb dX0_readFrom_58 (by decide) (fun c_58 => ?_) (fun c_58 => ?_)
    · exact absurd (show nI 3 ≤ nI c0 from c_58) (nI_ge (by omega) (by omega))
    · refine lv_aload_n hx hb dX0_readFrom_61 rfl (lv_at hl 3 rfl) ?_
      refine lv_aload_n hx hb dX0_readFrom_62 rfl (lv_at hl 4 rfl) ?_
      refine lv_iload hx hb dX0_readFrom_63 (lv_at hl 0 rfl) ?_
      have hX : List.Perm ([(h, .inr (1, [.int P, .int (nI n), .ref qv, .ref qp, .ref ql, .ref qg])), (qv, aI Z 144 V), (qp, aI Z 3 pr), (ql, aI Z 3 le), (qg, aI Z 3 gr), (sc, .inr (8, [.ref sq, .int (nI s1.1), .int (nI E), .int s1.2])), (sq, aB Z SL f)]) ([(h, .inr (1, [.int P, .int (nI n), .ref qv, .ref qp, .ref ql, .ref qg])), (qv, aI Z 144 V), (qp, aI Z 3 pr), (ql, aI Z 3 le), (qg, aI Z 3 gr), (sc, .inr (8, [.ref sq, .int (nI s1.1), .int (nI E), .int s1.2])), (sq, aB Z SL f)] ++ ([])) := (perm_ix [0, 1, 2, 3, 4, 5, 6] rfl 7 (by decide) rfl)
      refine kc_i (Wc := [(h, .inr (1, [.int P, .int (nI n), .ref qv, .ref qp, .ref ql, .ref qg])), (qv, aI Z 144 V), (qp, aI Z 3 pr), (ql, aI Z 3 le), (qg, aI Z 3 gr), (sc, .inr (8, [.ref sq, .int (nI s1.1), .int (nI E), .int s1.2])), (sq, aB Z SL f)]) (Wr := []) G hX (krV 2 rfl (As := [.ref sc, .int (nI c0)]) (rest := []) (ci := 1) (CC := RX0) (T := TX0) (N := 6) C G hX (c_X0_readColumn Z l h qv qp ql qg c0 n sc sq SL E P V pr le gr f (fun d => if d < c0 then n else 0) s1 hc hn (fun d _ => by show (if d < c0 then n else 0) ≤ 48; split <;> omega) (if_neg (by omega)) hb0 hs1 hE hL _) (gdV ml_X0_105 im_X0_readColumn se_X0_readColumn ii_X0 co_X0_readColumn) (by decide +kernel) ⟨Nat.le_of_ble_eq_true rfl, Nat.le_of_ble_eq_true rfl⟩ rfl 0 rfl hl rfl (Nat.le_of_ble_eq_true rfl) ⟨Nat.le_refl _, Nat.le_refl _⟩ dX0_readFrom_65) (fun r_65 u H locs hu G => ?_)
      obtain ⟨pr2, le2, gr2, hr, hb2, rfl⟩ := hu
      obtain ⟨V2, eV2⟩ : ∃ t, t = (rcA f E n c0 s1 V).2.1 := ⟨_, rfl⟩
      obtain ⟨s2, es2⟩ : ∃ t, t = rcE f E n c0 s1 V := ⟨_, rfl⟩
      rw [← eV2, ← es2] at G
      rw [← eV2] at hb2
      rw [← es2] at hr
      have G : wd Z A s ([(h, .inr (1, [.int P, .int (nI n), .ref qv, .ref qp, .ref ql, .ref qg])), (qv, aI Z 144 V2), (qp, aI Z 3 pr2), (ql, aI Z 3 le2), (qg, aI Z 3 gr2), (sc, .inr (8, [.ref sq, .int (nI s2.1), .int (nI E), .int s2.2])), (sq, aB Z SL f)]) H locs := G
      refine lv_if_ne (tgt := 73) hx hb dX0_readFrom_68 (by decide) (fun c_68 => ?_) (fun c_68 => ?_)
      · refine lv_iinc (v := nI (c0 + 1)) (lv' := [(4, .int (nI (c0 + 1))), (3, .int (nI n)), (2, .int mk), (0, .ref h), (1, .ref sc)]) hx hb dX0_readFrom_73 hl (k := 0) rfl (nI_1 _) (by decide) rfl (fun ls hl => ?_)
        refine lv_goto (tgt := 55) hx hb dX0_readFrom_76 (by decide) ?_
        have hok : (rdU1 f E s1).1 ≤ 2 ∧ s2.2 = 0 := Decidable.byContradiction (fun z => c_68 (by rw [hr, if_neg z]))
        subst es2
        rw [rfC, if_pos hok, ← eV2] at hp
        exact ih (c0 + 1) _ V2 pr2 le2 gr2 (by omega) (rcE_le hs1) (bt_congr hb2 (fun d _ => by rw [rcA_all hok.2]; by_cases e : d = c0 <;> by_cases e2 : d < c0 <;> simp [e, e2] <;> omega)) hp _ _ _ G (lv_sub hl [0, 1, 2, 3, 4] rfl)
      · refine lv_iconst (v := 0) hx hb dX0_readFrom_71 (by decide) ?_
        have hno : ¬ ((rdU1 f E s1).1 ≤ 2 ∧ s2.2 = 0) := fun z => by rw [hr, if_pos z] at c_68; exact absurd c_68 (by decide)
        subst es2
        rw [rfC, if_neg hno] at hp
        exact kr_z C G (by decide) (hp _ _ _ _ _ _ (Or.inr ⟨rfl, rfl⟩)) (Nat.le_refl _) (Nat.le_refl _) dX0_readFrom_72
