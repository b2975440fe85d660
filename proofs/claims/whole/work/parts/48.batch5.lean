/-! MODULE Batch (X0), fifth part: reading a column; isPartition; Source.open. -/
set_option maxRecDepth 100000 in
set_option maxHeartbeats 4000000 in
theorem c_X10_isPartition (Z : zT) (l : Launch) (x : Int32) : Ki Z l yX10_isPartition cX10_isPartition 1 (some .boolean) ({ frames := 0, cells := 0, slots := 0, locals := 0 }) [.int x] [] (fun r u => r = (if 0 ≤ x ∧ x < 8 then 1 else 0) ∧ u = []) := by
  intro sz
  refine Met.ofK (cc := cX10_isPartition) (maxL := 1) (ret := (some .boolean)) (by decide) (Nat.le_of_ble_eq_true rfl) ?_
  intro p e s m below meth c ls C G hl
  generalize va_A _ sz = A at G ⊢
  have hx := C.1
  have hb := C.2.1
  have hown := C.2.2.2.2.2.1
  have hts := C.2.2.2.2.2.2.1
  refine lv_iload_n hx hb dX10_isPartition_0 rfl (lv_at hl 0 rfl) ?_
  refine lv_if_lt (tgt := 14) hx hb dX10_isPartition_1 (by decide) (fun c_1 => ?_) (fun c_1 => ?_)
  · refine lv_iconst (v := 0) hx hb dX10_isPartition_14 (by decide) ?_
    exact kr_z C G (by decide) ⟨by rw [if_neg (fun z => absurd c_1 (Int32.not_lt.mpr z.1))], rfl⟩ (Nat.le_refl _) (Nat.le_refl _) dX10_isPartition_15
  · refine lv_iload_n hx hb dX10_isPartition_4 rfl (lv_at hl 0 rfl) ?_
    refine lv_bipush (v := 8) hx hb dX10_isPartition_5 (by decide) ?_
    refine lv_icmp_ge (tgt := 14) hx hb dX10_isPartition_7 (by decide) (fun c_7 => ?_) (fun c_7 => ?_)
    · refine lv_iconst (v := 0) hx hb dX10_isPartition_14 (by decide) ?_
      exact kr_z C G (by decide) ⟨by rw [if_neg (fun z => absurd c_7 (Int32.not_le.mpr z.2))], rfl⟩ (Nat.le_refl _) (Nat.le_refl _) dX10_isPartition_15
    · refine lv_iconst (v := 1) hx hb dX10_isPartition_10 (by decide) ?_
      refine lv_goto (tgt := 15) hx hb dX10_isPartition_11 (by decide) ?_
      exact kr_z C G (by decide) ⟨by rw [if_pos ⟨Int32.not_lt.mp c_1, Int32.not_le.mp c_7⟩], rfl⟩ (Nat.le_refl _) (Nat.le_refl _) dX10_isPartition_15
set_option maxRecDepth 100000 in
set_option maxHeartbeats 4000000 in
theorem c_X7_open (Z : zT) (l : Launch) (h q q0 L E : Nat) (f : Nat → Int32) (a b br : Int32) (hE : E ≤ L) (hL : L < 2 ^ 31) : Kv Z l yX7_open cX7_open 3 none ({ frames := 1, cells := 0, slots := 0, locals := 30 }) [.ref h, .ref q, .int (nI E)] [(h, .inr (8, [.ref q0, .int a, .int b, .int br])), (q, aB Z L f)] (fun u => u = scW Z h q L f 0 E 0) := by
  intro sz
  refine Met.ofK (cc := cX7_open) (maxL := 3) (ret := none) (by decide) (Nat.le_of_ble_eq_true rfl) ?_
  intro p e s m below meth c ls C G hl
  generalize va_A _ sz = A at G ⊢
  have hx := C.1
  have hb := C.2.1
  have hown := C.2.2.2.2.2.1
  have hts := C.2.2.2.2.2.2.1
  refine lv_aload_n hx hb dX7_open_0 rfl (lv_at hl 0 rfl) ?_
  refine lv_aload_n hx hb dX7_open_1 rfl (lv_at hl 1 rfl) ?_
  refine k_put (ci := 8) (CC := RX7) (T := TX7) (N := 4) (ty := .array .byte) (v := .ref q) C G 0 rfl rfl in_8 tyX7 tyX7_ok nmX7 0 (by decide) fl_X7_7 rfl rfl rfl rfl rfl (Nat.le_of_ble_eq_true rfl) dX7_open_2 (fun H locs (G : wd Z A s ([(h, .inr (8, [.ref q, .int a, .int b, .int br])), (q, aB Z L f)]) H locs) => ?_)
  refine lv_aload_n hx hb dX7_open_5 rfl (lv_at hl 0 rfl) ?_
  refine lv_iconst (v := 0) hx hb dX7_open_6 (by decide) ?_
  refine k_put (ci := 8) (CC := RX7) (T := TX7) (N := 4) (ty := .int) (v := .int 0) C G 0 rfl rfl in_8 tyX7 tyX7_ok nmX7 1 (by decide) fl_X7_13 rfl rfl rfl rfl rfl (Nat.le_of_ble_eq_true rfl) dX7_open_7 (fun H locs (G : wd Z A s ([(h, .inr (8, [.ref q, .int 0, .int b, .int br])), (q, aB Z L f)]) H locs) => ?_)
  refine lv_aload_n hx hb dX7_open_10 rfl (lv_at hl 0 rfl) ?_
  refine lv_iload_n hx hb dX7_open_11 rfl (lv_at hl 2 rfl) ?_
  refine lv_aload_n hx hb dX7_open_12 rfl (lv_at hl 1 rfl) ?_
  refine k_alen (ty := .byte) C G 1 0 rfl rfl dX7_open_13 ?_
  refine k_mmin C hl.1 ml_X7_17 sm_J9_min_7cf53 ii_J9 co_min (Nat.le_of_ble_eq_true rfl) (Nat.le_of_ble_eq_true rfl) (Nat.le_refl _) (Nat.le_refl _) dX7_open_14 ?_
  refine k_topi (y := nI E) (by rw [min2_nI (by omega) (by omega), Nat.min_eq_left hE]) ?_
  refine k_put (ci := 8) (CC := RX7) (T := TX7) (N := 4) (ty := .int) (v := .int (nI E)) C G 0 rfl rfl in_8 tyX7 tyX7_ok nmX7 2 (by decide) fl_X7_23 rfl rfl rfl rfl rfl (Nat.le_of_ble_eq_true rfl) dX7_open_17 (fun H locs (G : wd Z A s ([(h, .inr (8, [.ref q, .int 0, .int (nI E), .int br])), (q, aB Z L f)]) H locs) => ?_)
  refine lv_aload_n hx hb dX7_open_20 rfl (lv_at hl 0 rfl) ?_
  refine lv_aload_n hx hb dX7_open_21 rfl (lv_at hl 0 rfl) ?_
  refine k_get (ci := 8) (CC := RX7) (T := TX7) (N := 4) (v := .int (nI E)) C G 0 rfl rfl in_8 2 (by decide) fl_X7_23 rfl rfl dX7_open_22 ?_
  refine lv_if_ge (tgt := 32) hx hb dX7_open_25 (by decide) (fun c_25 => ?_) (fun c_25 => ?_)
  · refine lv_iconst (v := 0) hx hb dX7_open_32 (by decide) ?_
    refine k_put (ci := 8) (CC := RX7) (T := TX7) (N := 4) (ty := .boolean) (v := .int 0) C G 0 rfl rfl in_8 tyX7 tyX7_ok nmX7 3 (by decide) fl_X7_26 rfl rfl rfl rfl rfl (Nat.le_of_ble_eq_true rfl) dX7_open_33 (fun H locs (G : wd Z A s ([(h, .inr (8, [.ref q, .int 0, .int (nI E), .int 0])), (q, aB Z L f)]) H locs) => ?_)
    exact kr_v C G rfl (Nat.le_refl _) (Nat.le_refl _) dX7_open_36
  · exact absurd (nI_pos' (by omega)) c_25
theorem c_X7_u1R (Z : zT) (l : Launch) (h q L E : Nat) (s : rS) (f : Nat → Int32) (hk : s.1 ≤ E) (hE : E ≤ L) (hL : L < 2 ^ 31) : Ki Z l yX7_u1 cX7_u1 2 (some .int) ({ frames := 0, cells := 0, slots := 0, locals := 0 }) [.ref h] (scW Z h q L f s.1 E s.2) (fun r u => r = (rdU1 f E s).1 ∧ u = scW Z h q L f (rdU1 f E s).2.1 E (rdU1 f E s).2.2) := by
  intro sz
  have h0 := c_X7_u1 Z l h q L s.1 E f s.2 hk hE hL
  refine Eq.mp ?_ (h0 sz)
  congr 2
  funext r u
  unfold rdU1
  by_cases z : s.1 < E
  · simp only [if_pos z]
  · simp only [if_neg z]
theorem c_X7_u4R (Z : zT) (l : Launch) (h q L E : Nat) (s : rS) (f : Nat → Int32) (hk : s.1 ≤ E) (hE : E ≤ L) (hL : L < 2 ^ 30) : Ki Z l yX7_u4 cX7_u4 2 (some .int) ({ frames := 0, cells := 0, slots := 0, locals := 0 }) [.ref h] (scW Z h q L f s.1 E s.2) (fun r u => r = (rdU4 f E s).1 ∧ u = scW Z h q L f (rdU4 f E s).2.1 E (rdU4 f E s).2.2) := by
  intro sz
  have h0 := c_X7_u4 Z l h q L s.1 E f s.2 hk hE hL
  refine Eq.mp ?_ (h0 sz)
  congr 2
  funext r u
  unfold rdU4
  by_cases z : s.1 + 4 ≤ E
  · simp only [if_pos z]
  · simp only [if_neg z]
theorem c_X7_varintR (Z : zT) (l : Launch) (h q L E : Nat) (s : rS) (f : Nat → Int32) (hk : s.1 ≤ E) (hE : E ≤ L) (hL : L < 2 ^ 30) : Ki Z l yX7_varint cX7_varint 4 (some .int) ({ frames := 0, cells := 0, slots := 0, locals := 0 }) [.ref h] (scW Z h q L f s.1 E s.2) (fun r u => r = (rdV f E s).1 ∧ u = scW Z h q L f (rdV f E s).2.1 E (rdV f E s).2.2) := by
  exact c_X7_varint Z l h q L s.1 E f s.2 hk hE hL
theorem c_X0_setValueI (Z : zT) (l : Launch) (h qv qp ql qg c0 i : Nat) (k : Nat → Nat) (P n v : Int32) (V pr le gr : Nat → Int32) (hb0 : bt_ok V pr le gr k) (hc : c0 < 3) (hk : ∀ d, d < 3 → k d ≤ 48) (hi : k c0 = i) (hk2 : i < 48) : Kv Z l yX0_setValue cX0_setValue 5 none ({ frames := 0, cells := 0, slots := 0, locals := 0 }) [.ref h, .int (nI c0), .int (nI i), .int v] (btW Z h qv qp ql qg P n V pr le gr) (fun u => ∃ pr2 le2 gr2, bt_ok (upd V (48 * c0 + i) v) pr2 le2 gr2 (fun d => if d = c0 then i + 1 else k d) ∧ u = btW Z h qv qp ql qg P n (upd V (48 * c0 + i) v) pr2 le2 gr2) := by
  subst hi
  exact c_X0_setValue Z l h qv qp ql qg c0 k P n v V pr le gr hb0 hc hk hk2
theorem rcR_stop {f : Nat → Int32} {E : Nat} {way : Int32} {ms : Int64} {nb c k i : Nat} {s : rS} {left v : Int32} {V : Nat → Int32} (h : ¬ s.2 = 0) : rcR f E way ms nb c (k + 1) i s left v V = (s, V, i) := by rw [rcR, if_pos h]
theorem rcR_mis {f : Nat → Int32} {E : Nat} {way : Int32} {ms : Int64} {nb c k i : Nat} {s : rS} {left v : Int32} {V : Nat → Int32} (h : s.2 = 0) (hb : bitM ms nb i = 1) : rcR f E way ms nb c (k + 1) i s left v V = rcR f E way ms nb c k (i + 1) s left v (upd V (48 * c + i) MIS) := by rw [rcR, if_neg (fun z => z h), if_pos hb]
theorem rcR_val {f : Nat → Int32} {E : Nat} {way : Int32} {ms : Int64} {nb c k i : Nat} {s s2 : rS} {left v l2 v2 : Int32} {V : Nat → Int32} (h : s.2 = 0) (hb : ¬ bitM ms nb i = 1) (hN : rcN f E way s left v = (l2, v2, s2)) : rcR f E way ms nb c (k + 1) i s left v V = rcR f E way ms nb c k (i + 1) s2 (if l2 - 1 < 0 then 0 else l2 - 1) v2 (upd V (48 * c + i) v2) := by rw [rcR, if_neg (fun z => z h), if_neg hb, hN]
theorem rcN_0 {f : Nat → Int32} {E : Nat} {way left v : Int32} {s : rS} (h : way = 0) : rcN f E way s left v = (left, (rdU4 f E s).1, (rdU4 f E s).2) := by rw [rcN, if_pos h]
theorem rcN_2 {f : Nat → Int32} {E : Nat} {way left v : Int32} {s : rS} (h0 : ¬ way = 0) (h : way = 2) : rcN f E way s left v = (left, v + (rdV f E s).1, (rdV f E s).2) := by rw [rcN, if_neg h0, if_pos h]
theorem rcN_1 {f : Nat → Int32} {E : Nat} {way left v : Int32} {s : rS} (h0 : ¬ way = 0) (h2 : ¬ way = 2) (h : left = 0) : rcN f E way s left v = ((rdU1 f E s).1, (rdU4 f E (rdU1 f E s).2).1, (rdU4 f E (rdU1 f E s).2).2) := by rw [rcN, if_neg h0, if_neg h2, if_pos h]
theorem rcN_r {f : Nat → Int32} {E : Nat} {way left v : Int32} {s : rS} (h0 : ¬ way = 0) (h2 : ¬ way = 2) (h : ¬ left = 0) : rcN f E way s left v = (left, v, s) := by rw [rcN, if_neg h0, if_neg h2, if_neg h]
set_option maxRecDepth 100000 in
set_option maxHeartbeats 4000000 in
theorem lp_X0_rc2 {p : Program} {l : Launch} {e : Env} {s : State} {m : MethodId} {args : Array Value} {below : List Frame} {meth : Method} {c : Code} {Z : zT} {A : Nat → Prop} {h qv qp ql qg c0 n sc sq SL E : Nat} {P : Int32} {f : Nat → Int32} {way : Int32} {ms : Int64} {nb : Nat} {k : Nat → Nat} {post : Int32 → va_W → Prop} (C : cx p s m args meth c cX0_readColumn 10 (some .boolean) RX0 "readColumn") (hc : c0 < 3) (hn : n ≤ 48) (hk : ∀ d, d < 3 → k d ≤ 48) (hE : E ≤ SL) (hL : SL < 2 ^ 30) : ∀ (n2 i : Nat) (s1 : rS) (left v : Int32) (V pr le gr : Nat → Int32), i + n2 = n → s1.1 ≤ E → bt_ok V pr le gr (fun d => if d = c0 then i else k d) → (∀ r : Int32, r = (if way ≤ 2 ∧ (rdU4 f E (rdU4 f E (rcR f E way ms nb c0 n2 i s1 left v V).1).2).2.2 = 0 then 1 else 0) → ∀ (pr2 le2 gr2 : Nat → Int32), bt_ok (rcR f E way ms nb c0 n2 i s1 left v V).2.1 pr2 le2 gr2 (fun d => if d = c0 then (rcR f E way ms nb c0 n2 i s1 left v V).2.2 else k d) → post r (btW Z h qv qp ql qg P (nI n) (rcR f E way ms nb c0 n2 i s1 left v V).2.1 pr2 le2 gr2 ++ scW Z sc sq SL f (rdU4 f E (rdU4 f E (rcR f E way ms nb c0 n2 i s1 left v V).1).2).2.1 E (rdU4 f E (rdU4 f E (rcR f E way ms nb c0 n2 i s1 left v V).1).2).2.2)) → ∀ (H : Heap) (locs : List Loc) (ls : Array Slot), wd Z A s (btW Z h qv qp ql qg P (nI n) V pr le gr ++ scW Z sc sq SL f s1.1 E s1.2) H locs → lv_has ls 10 [(9, .int (nI i)), (8, .int v), (7, .int left), (6, .int (nI nb)), (4, .long ms), (3, .int way), (0, .ref h), (1, .ref sc), (2, .int (nI c0))] → W p l e ({ frames := 1, cells := 0, slots := 0, locals := 45 }) s m args below meth c H locs 0 0 (MQ below (va_Qi post (mB Z A) A) args s 0 0 A) (F0 m 54 ls []) := by
  have hx := C.1
  have hb := C.2.1
  have hown := C.2.2.2.2.2.1
  have hts := C.2.2.2.2.2.2.1
  intro n2
  induction n2 with
  | zero =>
    intro i s1 left v V pr le gr hi hs1 hb0 hp H locs ls G hl
    refine lv_iload hx hb dX0_readColumn_54 (lv_at hl 0 rfl) ?_
    refine lv_aload_n hx hb dX0_readColumn_56 rfl (lv_at hl 6 rfl) ?_
    refine k_get (ci := 1) (CC := RX0) (T := TX0) (N := 6) (v := .int (nI n)) C G 0 rfl rfl in_1 1 (by decide) fl_X0_28 rfl rfl dX0_readColumn_57 ?_
    refine lv_icmp_ge (tgt := 171) hx hb dX0_readColumn_60 (by decide) (fun c_60 => ?_) (fun c_60 => ?_)
    · refine lv_aload_n hx hb dX0_readColumn_171 rfl (lv_at hl 7 rfl) ?_
      have hX : List.Perm ([(h, .inr (1, [.int P, .int (nI n), .ref qv, .ref qp, .ref ql, .ref qg])), (qv, aI Z 144 V), (qp, aI Z 3 pr), (ql, aI Z 3 le), (qg, aI Z 3 gr), (sc, .inr (8, [.ref sq, .int (nI s1.1), .int (nI E), .int s1.2])), (sq, aB Z SL f)]) ([(sc, .inr (8, [.ref sq, .int (nI s1.1), .int (nI E), .int s1.2])), (sq, aB Z SL f)] ++ ([(h, .inr (1, [.int P, .int (nI n), .ref qv, .ref qp, .ref ql, .ref qg])), (qv, aI Z 144 V), (qp, aI Z 3 pr), (ql, aI Z 3 le), (qg, aI Z 3 gr)])) := (perm_ix [5, 6, 0, 1, 2, 3, 4] rfl 7 (by decide) rfl)
      refine kc_i (Wc := [(sc, .inr (8, [.ref sq, .int (nI s1.1), .int (nI E), .int s1.2])), (sq, aB Z SL f)]) (Wr := [(h, .inr (1, [.int P, .int (nI n), .ref qv, .ref qp, .ref ql, .ref qg])), (qv, aI Z 144 V), (qp, aI Z 3 pr), (ql, aI Z 3 le), (qg, aI Z 3 gr)]) G hX (krV 0 rfl (As := []) (rest := []) (ci := 8) (CC := RX7) (T := TX7) (N := 4) C G hX (c_X7_u4R Z l sc sq SL E s1 f hs1 hE (by omega) _) (gdV ml_X0_117 im_X7_u4 se_X7_u4 ii_X7 co_X7_u4) (by decide +kernel) ⟨Nat.le_of_ble_eq_true rfl, Nat.le_of_ble_eq_true rfl⟩ rfl 0 rfl hl rfl (Nat.le_of_ble_eq_true rfl) ⟨Nat.le_refl _, Nat.le_refl _⟩ dX0_readColumn_172) (fun r_172 u H locs hu G => ?_)
      obtain ⟨r_172_e, rfl⟩ := hu
      subst r_172_e
      have G : wd Z A s ([(h, .inr (1, [.int P, .int (nI n), .ref qv, .ref qp, .ref ql, .ref qg])), (qv, aI Z 144 V), (qp, aI Z 3 pr), (ql, aI Z 3 le), (qg, aI Z 3 gr), (sc, .inr (8, [.ref sq, .int (nI (rdU4 f E s1).2.1), .int (nI E), .int ((rdU4 f E s1).2.2)])), (sq, aB Z SL f)]) H locs := G.perm (perm_ix [2, 3, 4, 5, 6, 0, 1] rfl 7 (by decide) rfl)
      obtain ⟨t172_10, et172_10⟩ : ∃ t, t = (rdU4 f E s1).2 := ⟨_, rfl⟩
      have ht172_10 : t172_10.1 ≤ E := by rw [et172_10]; exact rdU4_le hs1
      rw [← et172_10] at G
      refine lv_pop hx hb dX0_readColumn_175 rfl ?_
      refine lv_aload_n hx hb dX0_readColumn_176 rfl (lv_at hl 7 rfl) ?_
      have hX : List.Perm ([(h, .inr (1, [.int P, .int (nI n), .ref qv, .ref qp, .ref ql, .ref qg])), (qv, aI Z 144 V), (qp, aI Z 3 pr), (ql, aI Z 3 le), (qg, aI Z 3 gr), (sc, .inr (8, [.ref sq, .int (nI t172_10.1), .int (nI E), .int t172_10.2])), (sq, aB Z SL f)]) ([(sc, .inr (8, [.ref sq, .int (nI t172_10.1), .int (nI E), .int t172_10.2])), (sq, aB Z SL f)] ++ ([(h, .inr (1, [.int P, .int (nI n), .ref qv, .ref qp, .ref ql, .ref qg])), (qv, aI Z 144 V), (qp, aI Z 3 pr), (ql, aI Z 3 le), (qg, aI Z 3 gr)])) := (perm_ix [5, 6, 0, 1, 2, 3, 4] rfl 7 (by decide) rfl)
      refine kc_i (Wc := [(sc, .inr (8, [.ref sq, .int (nI t172_10.1), .int (nI E), .int t172_10.2])), (sq, aB Z SL f)]) (Wr := [(h, .inr (1, [.int P, .int (nI n), .ref qv, .ref qp, .ref ql, .ref qg])), (qv, aI Z 144 V), (qp, aI Z 3 pr), (ql, aI Z 3 le), (qg, aI Z 3 gr)]) G hX (krV 0 rfl (As := []) (rest := []) (ci := 8) (CC := RX7) (T := TX7) (N := 4) C G hX (c_X7_u4R Z l sc sq SL E t172_10 f ht172_10 hE (by omega) _) (gdV ml_X0_117 im_X7_u4 se_X7_u4 ii_X7 co_X7_u4) (by decide +kernel) ⟨Nat.le_of_ble_eq_true rfl, Nat.le_of_ble_eq_true rfl⟩ rfl 0 rfl hl rfl (Nat.le_of_ble_eq_true rfl) ⟨Nat.le_refl _, Nat.le_refl _⟩ dX0_readColumn_177) (fun r_177 u H locs hu G => ?_)
      obtain ⟨r_177_e, rfl⟩ := hu
      subst r_177_e
      have G : wd Z A s ([(h, .inr (1, [.int P, .int (nI n), .ref qv, .ref qp, .ref ql, .ref qg])), (qv, aI Z 144 V), (qp, aI Z 3 pr), (ql, aI Z 3 le), (qg, aI Z 3 gr), (sc, .inr (8, [.ref sq, .int (nI (rdU4 f E t172_10).2.1), .int (nI E), .int ((rdU4 f E t172_10).2.2)])), (sq, aB Z SL f)]) H locs := G.perm (perm_ix [2, 3, 4, 5, 6, 0, 1] rfl 7 (by decide) rfl)
      obtain ⟨t177_20, et177_20⟩ : ∃ t, t = (rdU4 f E t172_10).2 := ⟨_, rfl⟩
      have ht177_20 : t177_20.1 ≤ E := by rw [et177_20]; exact rdU4_le ht172_10
      rw [← et177_20] at G
      refine lv_pop hx hb dX0_readColumn_180 rfl ?_
      refine lv_iload_n hx hb dX0_readColumn_181 rfl (lv_at hl 5 rfl) ?_
      refine lv_iconst (v := 2) hx hb dX0_readColumn_182 (by decide) ?_
      refine lv_icmp_gt (tgt := 197) hx hb dX0_readColumn_183 (by decide) (fun c_183 => ?_) (fun c_183 => ?_)
      · refine lv_iconst (v := 0) hx hb dX0_readColumn_197 (by decide) ?_
        rw [rcR] at hp
        subst et177_20
        subst et172_10
        exact kr_z C G (by decide) (hp _ (by rw [if_neg (fun z => absurd c_183 (Int32.not_lt.mpr z.1))]) _ _ _ hb0) (Nat.le_refl _) (Nat.le_refl _) dX0_readColumn_198
      · refine lv_aload_n hx hb dX0_readColumn_186 rfl (lv_at hl 7 rfl) ?_
        refine k_get (ci := 8) (CC := RX7) (T := TX7) (N := 4) (v := .int t177_20.2) C G 5 rfl rfl in_8 3 (by decide) fl_X0_113 rfl rfl dX0_readColumn_187 ?_
        refine lv_if_ne (tgt := 197) hx hb dX0_readColumn_190 (by decide) (fun c_190 => ?_) (fun c_190 => ?_)
        · refine lv_iconst (v := 0) hx hb dX0_readColumn_197 (by decide) ?_
          rw [rcR] at hp
          subst et177_20
          subst et172_10
          exact kr_z C G (by decide) (hp _ (by rw [if_neg (fun z => c_190 z.2)]) _ _ _ hb0) (Nat.le_refl _) (Nat.le_refl _) dX0_readColumn_198
        · refine lv_iconst (v := 1) hx hb dX0_readColumn_193 (by decide) ?_
          refine lv_goto (tgt := 198) hx hb dX0_readColumn_194 (by decide) ?_
          rw [rcR] at hp
          subst et177_20
          subst et172_10
          exact kr_z C G (by decide) (hp _ (by rw [if_pos ⟨Int32.not_lt.mp c_183, c_190⟩]) _ _ _ hb0) (Nat.le_refl _) (Nat.le_refl _) dX0_readColumn_198
    · exact absurd (nI_le (by omega) (by omega)) c_60
  | succ n2 ih =>
    intro i s1 left v V pr le gr hi hs1 hb0 hp H locs ls G hl
    refine lv_iload hx hb dX0_readColumn_54 (lv_at hl 0 rfl) ?_
    refine lv_aload_n hx hb dX0_readColumn_56 rfl (lv_at hl 6 rfl) ?_
    refine k_get (ci := 1) (CC := RX0) (T := TX0) (N := 6) (v := .int (nI n)) C G 0 rfl rfl in_1 1 (by decide) fl_X0_28 rfl rfl dX0_readColumn_57 ?_
    refine lv_icmp_ge (tgt := 171) hx hb dX0_readColumn_60 (by decide) (fun c_60 => ?_) (fun c_60 => ?_)
    · exact absurd c_60 (nI_ge (by omega) (by omega))
    · refine lv_aload_n hx hb dX0_readColumn_63 rfl (lv_at hl 7 rfl) ?_
      refine k_get (ci := 8) (CC := RX7) (T := TX7) (N := 4) (v := .int s1.2) C G 5 rfl rfl in_8 3 (by decide) fl_X0_113 rfl rfl dX0_readColumn_64 ?_
      refine lv_if_ne (tgt := 171) hx hb dX0_readColumn_67 (by decide) (fun c_67 => ?_) (fun c_67 => ?_)
      · refine lv_aload_n hx hb dX0_readColumn_171 rfl (lv_at hl 7 rfl) ?_
        have hX : List.Perm ([(h, .inr (1, [.int P, .int (nI n), .ref qv, .ref qp, .ref ql, .ref qg])), (qv, aI Z 144 V), (qp, aI Z 3 pr), (ql, aI Z 3 le), (qg, aI Z 3 gr), (sc, .inr (8, [.ref sq, .int (nI s1.1), .int (nI E), .int s1.2])), (sq, aB Z SL f)]) ([(sc, .inr (8, [.ref sq, .int (nI s1.1), .int (nI E), .int s1.2])), (sq, aB Z SL f)] ++ ([(h, .inr (1, [.int P, .int (nI n), .ref qv, .ref qp, .ref ql, .ref qg])), (qv, aI Z 144 V), (qp, aI Z 3 pr), (ql, aI Z 3 le), (qg, aI Z 3 gr)])) := (perm_ix [5, 6, 0, 1, 2, 3, 4] rfl 7 (by decide) rfl)
        refine kc_i (Wc := [(sc, .inr (8, [.ref sq, .int (nI s1.1), .int (nI E), .int s1.2])), (sq, aB Z SL f)]) (Wr := [(h, .inr (1, [.int P, .int (nI n), .ref qv, .ref qp, .ref ql, .ref qg])), (qv, aI Z 144 V), (qp, aI Z 3 pr), (ql, aI Z 3 le), (qg, aI Z 3 gr)]) G hX (krV 0 rfl (As := []) (rest := []) (ci := 8) (CC := RX7) (T := TX7) (N := 4) C G hX (c_X7_u4R Z l sc sq SL E s1 f hs1 hE (by omega) _) (gdV ml_X0_117 im_X7_u4 se_X7_u4 ii_X7 co_X7_u4) (by decide +kernel) ⟨Nat.le_of_ble_eq_true rfl, Nat.le_of_ble_eq_true rfl⟩ rfl 0 rfl hl rfl (Nat.le_of_ble_eq_true rfl) ⟨Nat.le_refl _, Nat.le_refl _⟩ dX0_readColumn_172) (fun r_172 u H locs hu G => ?_)
        obtain ⟨r_172_e, rfl⟩ := hu
        subst r_172_e
        have G : wd Z A s ([(h, .inr (1, [.int P, .int (nI n), .ref qv, .ref qp, .ref ql, .ref qg])), (qv, aI Z 144 V), (qp, aI Z 3 pr), (ql, aI Z 3 le), (qg, aI Z 3 gr), (sc, .inr (8, [.ref sq, .int (nI (rdU4 f E s1).2.1), .int (nI E), .int ((rdU4 f E s1).2.2)])), (sq, aB Z SL f)]) H locs := G.perm (perm_ix [2, 3, 4, 5, 6, 0, 1] rfl 7 (by decide) rfl)
        obtain ⟨t172_14, et172_14⟩ : ∃ t, t = (rdU4 f E s1).2 := ⟨_, rfl⟩
        have ht172_14 : t172_14.1 ≤ E := by rw [et172_14]; exact rdU4_le hs1
        rw [← et172_14] at G
        refine lv_pop hx hb dX0_readColumn_175 rfl ?_
        refine lv_aload_n hx hb dX0_readColumn_176 rfl (lv_at hl 7 rfl) ?_
        have hX : List.Perm ([(h, .inr (1, [.int P, .int (nI n), .ref qv, .ref qp, .ref ql, .ref qg])), (qv, aI Z 144 V), (qp, aI Z 3 pr), (ql, aI Z 3 le), (qg, aI Z 3 gr), (sc, .inr (8, [.ref sq, .int (nI t172_14.1), .int (nI E), .int t172_14.2])), (sq, aB Z SL f)]) ([(sc, .inr (8, [.ref sq, .int (nI t172_14.1), .int (nI E), .int t172_14.2])), (sq, aB Z SL f)] ++ ([(h, .inr (1, [.int P, .int (nI n), .ref qv, .ref qp, .ref ql, .ref qg])), (qv, aI Z 144 V), (qp, aI Z 3 pr), (ql, aI Z 3 le), (qg, aI Z 3 gr)])) := (perm_ix [5, 6, 0, 1, 2, 3, 4] rfl 7 (by decide) rfl)
        refine kc_i (Wc := [(sc, .inr (8, [.ref sq, .int (nI t172_14.1), .int (nI E), .int t172_14.2])), (sq, aB Z SL f)]) (Wr := [(h, .inr (1, [.int P, .int (nI n), .ref qv, .ref qp, .ref ql, .ref qg])), (qv, aI Z 144 V), (qp, aI Z 3 pr), (ql, aI Z 3 le), (qg, aI Z 3 gr)]) G hX (krV 0 rfl (As := []) (rest := []) (ci := 8) (CC := RX7) (T := TX7) (N := 4) C G hX (c_X7_u4R Z l sc sq SL E t172_14 f ht172_14 hE (by omega) _) (gdV ml_X0_117 im_X7_u4 se_X7_u4 ii_X7 co_X7_u4) (by decide +kernel) ⟨Nat.le_of_ble_eq_true rfl, Nat.le_of_ble_eq_true rfl⟩ rfl 0 rfl hl rfl (Nat.le_of_ble_eq_true rfl) ⟨Nat.le_refl _, Nat.le_refl _⟩ dX0_readColumn_177) (fun r_177 u H locs hu G => ?_)
        obtain ⟨r_177_e, rfl⟩ := hu
        subst r_177_e
        have G : wd Z A s ([(h, .inr (1, [.int P, .int (nI n), .ref qv, .ref qp, .ref ql, .ref qg])), (qv, aI Z 144 V), (qp, aI Z 3 pr), (ql, aI Z 3 le), (qg, aI Z 3 gr), (sc, .inr (8, [.ref sq, .int (nI (rdU4 f E t172_14).2.1), .int (nI E), .int ((rdU4 f E t172_14).2.2)])), (sq, aB Z SL f)]) H locs := G.perm (perm_ix [2, 3, 4, 5, 6, 0, 1] rfl 7 (by decide) rfl)
        obtain ⟨t177_24, et177_24⟩ : ∃ t, t = (rdU4 f E t172_14).2 := ⟨_, rfl⟩
        have ht177_24 : t177_24.1 ≤ E := by rw [et177_24]; exact rdU4_le ht172_14
        rw [← et177_24] at G
        refine lv_pop hx hb dX0_readColumn_180 rfl ?_
        refine lv_iload_n hx hb dX0_readColumn_181 rfl (lv_at hl 5 rfl) ?_
        refine lv_iconst (v := 2) hx hb dX0_readColumn_182 (by decide) ?_
        refine lv_icmp_gt (tgt := 197) hx hb dX0_readColumn_183 (by decide) (fun c_183 => ?_) (fun c_183 => ?_)
        · refine lv_iconst (v := 0) hx hb dX0_readColumn_197 (by decide) ?_
          rw [rcR_stop c_67] at hp
          subst et177_24
          subst et172_14
          exact kr_z C G (by decide) (hp _ (by rw [if_neg (fun z => absurd c_183 (Int32.not_lt.mpr z.1))]) _ _ _ hb0) (Nat.le_refl _) (Nat.le_refl _) dX0_readColumn_198
        · refine lv_aload_n hx hb dX0_readColumn_186 rfl (lv_at hl 7 rfl) ?_
          refine k_get (ci := 8) (CC := RX7) (T := TX7) (N := 4) (v := .int t177_24.2) C G 5 rfl rfl in_8 3 (by decide) fl_X0_113 rfl rfl dX0_readColumn_187 ?_
          refine lv_if_ne (tgt := 197) hx hb dX0_readColumn_190 (by decide) (fun c_190 => ?_) (fun c_190 => ?_)
          · refine lv_iconst (v := 0) hx hb dX0_readColumn_197 (by decide) ?_
            rw [rcR_stop c_67] at hp
            subst et177_24
            subst et172_14
            exact kr_z C G (by decide) (hp _ (by rw [if_neg (fun z => c_190 z.2)]) _ _ _ hb0) (Nat.le_refl _) (Nat.le_refl _) dX0_readColumn_198
          · refine lv_iconst (v := 1) hx hb dX0_readColumn_193 (by decide) ?_
            refine lv_goto (tgt := 198) hx hb dX0_readColumn_194 (by decide) ?_
            rw [rcR_stop c_67] at hp
            subst et177_24
            subst et172_14
            exact kr_z C G (by decide) (hp _ (by rw [if_pos ⟨Int32.not_lt.mp c_183, c_190⟩]) _ _ _ hb0) (Nat.le_refl _) (Nat.le_refl _) dX0_readColumn_198
      · refine lv_lload hx hb dX0_readColumn_70 (lv_at hl 4 rfl) ?_
        refine lv_iload hx hb dX0_readColumn_72 (lv_at hl 3 rfl) ?_
        refine lv_iconst (v := 1) hx hb dX0_readColumn_74 (by decide) ?_
        refine lv_isub hx hb dX0_readColumn_75 ?_
        refine lv_iload hx hb dX0_readColumn_76 (lv_at hl 0 rfl) ?_
        refine lv_isub hx hb dX0_readColumn_78 ?_
        refine lv_lshr (v := ms >>> ((((nI nb) - 1) - (nI i)).toInt64 &&& 63)) hx hb dX0_readColumn_79 rfl ?_
        refine lv_lconst (v := 1) hx hb dX0_readColumn_80 (by decide) ?_
        refine lv_land hx hb dX0_readColumn_81 ?_
        refine lv_lconst (v := 1) hx hb dX0_readColumn_82 (by decide) ?_
        refine W.lcmp hx hb dX0_readColumn_83 ?_
        refine lv_if_ne (tgt := 99) hx hb dX0_readColumn_84 (by decide) (fun c_84 => ?_) (fun c_84 => ?_)
        · have hbit : ¬ bitM ms nb i = 1 := fun z => c_84 ((lcm_z _ _).mpr z)
          refine lv_iload_n hx hb dX0_readColumn_99 rfl (lv_at hl 5 rfl) ?_
          refine lv_if_ne (tgt := 112) hx hb dX0_readColumn_100 (by decide) (fun c_100 => ?_) (fun c_100 => ?_)
          · refine lv_iload_n hx hb dX0_readColumn_112 rfl (lv_at hl 5 rfl) ?_
            refine lv_iconst (v := 2) hx hb dX0_readColumn_113 (by decide) ?_
            refine lv_icmp_ne (tgt := 129) hx hb dX0_readColumn_114 (by decide) (fun c_114 => ?_) (fun c_114 => ?_)
            · refine lv_iload hx hb dX0_readColumn_129 (lv_at hl 2 rfl) ?_
              refine lv_if_ne (tgt := 146) hx hb dX0_readColumn_131 (by decide) (fun c_131 => ?_) (fun c_131 => ?_)
              · refine lv_iload hx hb dX0_readColumn_146 (lv_at hl 2 rfl) ?_
                refine lv_iconst (v := 1) hx hb dX0_readColumn_148 (by decide) ?_
                refine lv_isub hx hb dX0_readColumn_149 ?_
                refine lv_iconst (v := 0) hx hb dX0_readColumn_150 (by decide) ?_
                refine k_mmax C hl.1 ml_X0_121 sm_J9_max_7cf53 ii_J9 co_max (Nat.le_of_ble_eq_true rfl) (Nat.le_of_ble_eq_true rfl) (Nat.le_refl _) (Nat.le_refl _) dX0_readColumn_151 ?_
                refine lv_istore (lv' := [(7, .int (if left - 1 < 0 then 0 else left - 1)), (9, .int (nI i)), (8, .int v), (6, .int (nI nb)), (4, .long ms), (3, .int way), (0, .ref h), (1, .ref sc), (2, .int (nI c0))]) hx hb dX0_readColumn_154 hl (by decide) rfl (fun ls hl => ?_)
                refine lv_aload_n hx hb dX0_readColumn_156 rfl (lv_at hl 6 rfl) ?_
                refine lv_iload_n hx hb dX0_readColumn_157 rfl (lv_at hl 8 rfl) ?_
                refine lv_iload hx hb dX0_readColumn_158 (lv_at hl 1 rfl) ?_
                refine lv_iload hx hb dX0_readColumn_160 (lv_at hl 2 rfl) ?_
                have hX : List.Perm ([(h, .inr (1, [.int P, .int (nI n), .ref qv, .ref qp, .ref ql, .ref qg])), (qv, aI Z 144 V), (qp, aI Z 3 pr), (ql, aI Z 3 le), (qg, aI Z 3 gr), (sc, .inr (8, [.ref sq, .int (nI s1.1), .int (nI E), .int s1.2])), (sq, aB Z SL f)]) ([(h, .inr (1, [.int P, .int (nI n), .ref qv, .ref qp, .ref ql, .ref qg])), (qv, aI Z 144 V), (qp, aI Z 3 pr), (ql, aI Z 3 le), (qg, aI Z 3 gr)] ++ ([(sc, .inr (8, [.ref sq, .int (nI s1.1), .int (nI E), .int s1.2])), (sq, aB Z SL f)])) := (perm_ix [0, 1, 2, 3, 4, 5, 6] rfl 7 (by decide) rfl)
                refine kc_v (Wc := [(h, .inr (1, [.int P, .int (nI n), .ref qv, .ref qp, .ref ql, .ref qg])), (qv, aI Z 144 V), (qp, aI Z 3 pr), (ql, aI Z 3 le), (qg, aI Z 3 gr)]) (Wr := [(sc, .inr (8, [.ref sq, .int (nI s1.1), .int (nI E), .int s1.2])), (sq, aB Z SL f)]) G hX (krV 3 rfl (As := [.int (nI c0), .int (nI i), .int v]) (rest := []) (ci := 1) (CC := RX0) (T := TX0) (N := 6) C G hX (c_X0_setValueI Z l h qv qp ql qg c0 i (fun d => if d = c0 then i else k d) P (nI n) v V pr le gr hb0 hc (fun d hd => by show (if d = c0 then i else k d) ≤ 48; have := hk d hd; split <;> omega) (if_pos rfl) (by omega) _) (gdV ml_X0_37 im_X0_setValue se_X0_setValue ii_X0 co_X0_setValue) (by decide +kernel) ⟨Nat.le_of_ble_eq_true rfl, Nat.le_of_ble_eq_true rfl⟩ rfl 0 rfl hl rfl (Nat.le_of_ble_eq_true rfl) ⟨Nat.le_refl _, Nat.le_refl _⟩ dX0_readColumn_162) (fun u H locs hu G => ?_)
                obtain ⟨pr2, le2, gr2, hb2, rfl⟩ := hu
                have hb2 := bt_congr (k2 := fun d => if d = c0 then i + 1 else k d) hb2 (fun d _ => by by_cases e : d = c0 <;> simp [e])
                have G : wd Z A s ([(h, .inr (1, [.int P, .int (nI n), .ref qv, .ref qp, .ref ql, .ref qg])), (qv, aI Z 144 (upd V (48 * c0 + i) v)), (qp, aI Z 3 pr2), (ql, aI Z 3 le2), (qg, aI Z 3 gr2), (sc, .inr (8, [.ref sq, .int (nI s1.1), .int (nI E), .int s1.2])), (sq, aB Z SL f)]) H locs := G.perm (perm_ix [0, 1, 2, 3, 4, 5, 6] rfl 7 (by decide) rfl)
                refine lv_iinc (v := nI (i + 1)) (lv' := [(9, .int (nI (i + 1))), (7, .int (if left - 1 < 0 then 0 else left - 1)), (8, .int v), (6, .int (nI nb)), (4, .long ms), (3, .int way), (0, .ref h), (1, .ref sc), (2, .int (nI c0))]) hx hb dX0_readColumn_165 hl (k := 1) rfl (nI_1 _) (by decide) rfl (fun ls hl => ?_)
                refine lv_goto (tgt := 54) hx hb dX0_readColumn_168 (by decide) ?_
                rw [rcR_val c_67 hbit (rcN_r c_100 c_114 c_131)] at hp
                exact ih (i + 1) _ _ _ _ pr2 le2 gr2 (by omega) hs1 hb2 hp _ _ _ G (lv_sub hl [0, 2, 1, 3, 4, 5, 6, 7, 8] rfl)
              · refine lv_aload_n hx hb dX0_readColumn_134 rfl (lv_at hl 7 rfl) ?_
                have hX : List.Perm ([(h, .inr (1, [.int P, .int (nI n), .ref qv, .ref qp, .ref ql, .ref qg])), (qv, aI Z 144 V), (qp, aI Z 3 pr), (ql, aI Z 3 le), (qg, aI Z 3 gr), (sc, .inr (8, [.ref sq, .int (nI s1.1), .int (nI E), .int s1.2])), (sq, aB Z SL f)]) ([(sc, .inr (8, [.ref sq, .int (nI s1.1), .int (nI E), .int s1.2])), (sq, aB Z SL f)] ++ ([(h, .inr (1, [.int P, .int (nI n), .ref qv, .ref qp, .ref ql, .ref qg])), (qv, aI Z 144 V), (qp, aI Z 3 pr), (ql, aI Z 3 le), (qg, aI Z 3 gr)])) := (perm_ix [5, 6, 0, 1, 2, 3, 4] rfl 7 (by decide) rfl)
                refine kc_i (Wc := [(sc, .inr (8, [.ref sq, .int (nI s1.1), .int (nI E), .int s1.2])), (sq, aB Z SL f)]) (Wr := [(h, .inr (1, [.int P, .int (nI n), .ref qv, .ref qp, .ref ql, .ref qg])), (qv, aI Z 144 V), (qp, aI Z 3 pr), (ql, aI Z 3 le), (qg, aI Z 3 gr)]) G hX (krV 0 rfl (As := []) (rest := []) (ci := 8) (CC := RX7) (T := TX7) (N := 4) C G hX (c_X7_u1R Z l sc sq SL E s1 f hs1 hE (by omega) _) (gdV ml_X0_93 im_X7_u1 se_X7_u1 ii_X7 co_X7_u1) (by decide +kernel) ⟨Nat.le_of_ble_eq_true rfl, Nat.le_of_ble_eq_true rfl⟩ rfl 0 rfl hl rfl (Nat.le_of_ble_eq_true rfl) ⟨Nat.le_refl _, Nat.le_refl _⟩ dX0_readColumn_135) (fun r_135 u H locs hu G => ?_)
                obtain ⟨r_135_e, rfl⟩ := hu
                subst r_135_e
                have G : wd Z A s ([(h, .inr (1, [.int P, .int (nI n), .ref qv, .ref qp, .ref ql, .ref qg])), (qv, aI Z 144 V), (qp, aI Z 3 pr), (ql, aI Z 3 le), (qg, aI Z 3 gr), (sc, .inr (8, [.ref sq, .int (nI (rdU1 f E s1).2.1), .int (nI E), .int ((rdU1 f E s1).2.2)])), (sq, aB Z SL f)]) H locs := G.perm (perm_ix [2, 3, 4, 5, 6, 0, 1] rfl 7 (by decide) rfl)
                obtain ⟨t135_95, et135_95⟩ : ∃ t, t = (rdU1 f E s1).2 := ⟨_, rfl⟩
                have ht135_95 : t135_95.1 ≤ E := by rw [et135_95]; exact rdU1_le hs1
                rw [← et135_95] at G
                refine lv_istore (lv' := [(7, .int ((rdU1 f E s1).1)), (9, .int (nI i)), (8, .int v), (6, .int (nI nb)), (4, .long ms), (3, .int way), (0, .ref h), (1, .ref sc), (2, .int (nI c0))]) hx hb dX0_readColumn_138 hl (by decide) rfl (fun ls hl => ?_)
                refine lv_aload_n hx hb dX0_readColumn_140 rfl (lv_at hl 7 rfl) ?_
                have hX : List.Perm ([(h, .inr (1, [.int P, .int (nI n), .ref qv, .ref qp, .ref ql, .ref qg])), (qv, aI Z 144 V), (qp, aI Z 3 pr), (ql, aI Z 3 le), (qg, aI Z 3 gr), (sc, .inr (8, [.ref sq, .int (nI t135_95.1), .int (nI E), .int t135_95.2])), (sq, aB Z SL f)]) ([(sc, .inr (8, [.ref sq, .int (nI t135_95.1), .int (nI E), .int t135_95.2])), (sq, aB Z SL f)] ++ ([(h, .inr (1, [.int P, .int (nI n), .ref qv, .ref qp, .ref ql, .ref qg])), (qv, aI Z 144 V), (qp, aI Z 3 pr), (ql, aI Z 3 le), (qg, aI Z 3 gr)])) := (perm_ix [5, 6, 0, 1, 2, 3, 4] rfl 7 (by decide) rfl)
                refine kc_i (Wc := [(sc, .inr (8, [.ref sq, .int (nI t135_95.1), .int (nI E), .int t135_95.2])), (sq, aB Z SL f)]) (Wr := [(h, .inr (1, [.int P, .int (nI n), .ref qv, .ref qp, .ref ql, .ref qg])), (qv, aI Z 144 V), (qp, aI Z 3 pr), (ql, aI Z 3 le), (qg, aI Z 3 gr)]) G hX (krV 0 rfl (As := []) (rest := []) (ci := 8) (CC := RX7) (T := TX7) (N := 4) C G hX (c_X7_u4R Z l sc sq SL E t135_95 f ht135_95 hE (by omega) _) (gdV ml_X0_117 im_X7_u4 se_X7_u4 ii_X7 co_X7_u4) (by decide +kernel) ⟨Nat.le_of_ble_eq_true rfl, Nat.le_of_ble_eq_true rfl⟩ rfl 0 rfl hl rfl (Nat.le_of_ble_eq_true rfl) ⟨Nat.le_refl _, Nat.le_refl _⟩ dX0_readColumn_141) (fun r_141 u H locs hu G => ?_)
                obtain ⟨r_141_e, rfl⟩ := hu
                subst r_141_e
                have G : wd Z A s ([(h, .inr (1, [.int P, .int (nI n), .ref qv, .ref qp, .ref ql, .ref qg])), (qv, aI Z 144 V), (qp, aI Z 3 pr), (ql, aI Z 3 le), (qg, aI Z 3 gr), (sc, .inr (8, [.ref sq, .int (nI (rdU4 f E t135_95).2.1), .int (nI E), .int ((rdU4 f E t135_95).2.2)])), (sq, aB Z SL f)]) H locs := G.perm (perm_ix [2, 3, 4, 5, 6, 0, 1] rfl 7 (by decide) rfl)
                obtain ⟨t141_105, et141_105⟩ : ∃ t, t = (rdU4 f E t135_95).2 := ⟨_, rfl⟩
                have ht141_105 : t141_105.1 ≤ E := by rw [et141_105]; exact rdU4_le ht135_95
                rw [← et141_105] at G
                refine lv_istore (lv' := [(8, .int ((rdU4 f E t135_95).1)), (7, .int ((rdU1 f E s1).1)), (9, .int (nI i)), (6, .int (nI nb)), (4, .long ms), (3, .int way), (0, .ref h), (1, .ref sc), (2, .int (nI c0))]) hx hb dX0_readColumn_144 hl (by decide) rfl (fun ls hl => ?_)
                refine lv_iload hx hb dX0_readColumn_146 (lv_at hl 1 rfl) ?_
                refine lv_iconst (v := 1) hx hb dX0_readColumn_148 (by decide) ?_
                refine lv_isub hx hb dX0_readColumn_149 ?_
                refine lv_iconst (v := 0) hx hb dX0_readColumn_150 (by decide) ?_
                refine k_mmax C hl.1 ml_X0_121 sm_J9_max_7cf53 ii_J9 co_max (Nat.le_of_ble_eq_true rfl) (Nat.le_of_ble_eq_true rfl) (Nat.le_refl _) (Nat.le_refl _) dX0_readColumn_151 ?_
                refine lv_istore (lv' := [(7, .int (if ((rdU1 f E s1).1) - 1 < 0 then 0 else ((rdU1 f E s1).1) - 1)), (8, .int ((rdU4 f E t135_95).1)), (9, .int (nI i)), (6, .int (nI nb)), (4, .long ms), (3, .int way), (0, .ref h), (1, .ref sc), (2, .int (nI c0))]) hx hb dX0_readColumn_154 hl (by decide) rfl (fun ls hl => ?_)
                refine lv_aload_n hx hb dX0_readColumn_156 rfl (lv_at hl 6 rfl) ?_
                refine lv_iload_n hx hb dX0_readColumn_157 rfl (lv_at hl 8 rfl) ?_
                refine lv_iload hx hb dX0_readColumn_158 (lv_at hl 2 rfl) ?_
                refine lv_iload hx hb dX0_readColumn_160 (lv_at hl 1 rfl) ?_
                have hX : List.Perm ([(h, .inr (1, [.int P, .int (nI n), .ref qv, .ref qp, .ref ql, .ref qg])), (qv, aI Z 144 V), (qp, aI Z 3 pr), (ql, aI Z 3 le), (qg, aI Z 3 gr), (sc, .inr (8, [.ref sq, .int (nI t141_105.1), .int (nI E), .int t141_105.2])), (sq, aB Z SL f)]) ([(h, .inr (1, [.int P, .int (nI n), .ref qv, .ref qp, .ref ql, .ref qg])), (qv, aI Z 144 V), (qp, aI Z 3 pr), (ql, aI Z 3 le), (qg, aI Z 3 gr)] ++ ([(sc, .inr (8, [.ref sq, .int (nI t141_105.1), .int (nI E), .int t141_105.2])), (sq, aB Z SL f)])) := (perm_ix [0, 1, 2, 3, 4, 5, 6] rfl 7 (by decide) rfl)
                refine kc_v (Wc := [(h, .inr (1, [.int P, .int (nI n), .ref qv, .ref qp, .ref ql, .ref qg])), (qv, aI Z 144 V), (qp, aI Z 3 pr), (ql, aI Z 3 le), (qg, aI Z 3 gr)]) (Wr := [(sc, .inr (8, [.ref sq, .int (nI t141_105.1), .int (nI E), .int t141_105.2])), (sq, aB Z SL f)]) G hX (krV 3 rfl (As := [.int (nI c0), .int (nI i), .int ((rdU4 f E t135_95).1)]) (rest := []) (ci := 1) (CC := RX0) (T := TX0) (N := 6) C G hX (c_X0_setValueI Z l h qv qp ql qg c0 i (fun d => if d = c0 then i else k d) P (nI n) ((rdU4 f E t135_95).1) V pr le gr hb0 hc (fun d hd => by show (if d = c0 then i else k d) ≤ 48; have := hk d hd; split <;> omega) (if_pos rfl) (by omega) _) (gdV ml_X0_37 im_X0_setValue se_X0_setValue ii_X0 co_X0_setValue) (by decide +kernel) ⟨Nat.le_of_ble_eq_true rfl, Nat.le_of_ble_eq_true rfl⟩ rfl 0 rfl hl rfl (Nat.le_of_ble_eq_true rfl) ⟨Nat.le_refl _, Nat.le_refl _⟩ dX0_readColumn_162) (fun u H locs hu G => ?_)
                obtain ⟨pr2, le2, gr2, hb2, rfl⟩ := hu
                have hb2 := bt_congr (k2 := fun d => if d = c0 then i + 1 else k d) hb2 (fun d _ => by by_cases e : d = c0 <;> simp [e])
                have G : wd Z A s ([(h, .inr (1, [.int P, .int (nI n), .ref qv, .ref qp, .ref ql, .ref qg])), (qv, aI Z 144 (upd V (48 * c0 + i) ((rdU4 f E t135_95).1))), (qp, aI Z 3 pr2), (ql, aI Z 3 le2), (qg, aI Z 3 gr2), (sc, .inr (8, [.ref sq, .int (nI t141_105.1), .int (nI E), .int t141_105.2])), (sq, aB Z SL f)]) H locs := G.perm (perm_ix [0, 1, 2, 3, 4, 5, 6] rfl 7 (by decide) rfl)
                refine lv_iinc (v := nI (i + 1)) (lv' := [(9, .int (nI (i + 1))), (7, .int (if ((rdU1 f E s1).1) - 1 < 0 then 0 else ((rdU1 f E s1).1) - 1)), (8, .int ((rdU4 f E t135_95).1)), (6, .int (nI nb)), (4, .long ms), (3, .int way), (0, .ref h), (1, .ref sc), (2, .int (nI c0))]) hx hb dX0_readColumn_165 hl (k := 2) rfl (nI_1 _) (by decide) rfl (fun ls hl => ?_)
                refine lv_goto (tgt := 54) hx hb dX0_readColumn_168 (by decide) ?_
                rw [rcR_val c_67 hbit (rcN_1 c_100 c_114 c_131)] at hp
                subst et141_105
                subst et135_95
                exact ih (i + 1) _ _ _ _ pr2 le2 gr2 (by omega) ht141_105 hb2 hp _ _ _ G (lv_sub hl [0, 2, 1, 3, 4, 5, 6, 7, 8] rfl)
            · refine lv_iload hx hb dX0_readColumn_117 (lv_at hl 1 rfl) ?_
              refine lv_aload_n hx hb dX0_readColumn_119 rfl (lv_at hl 7 rfl) ?_
              have hX : List.Perm ([(h, .inr (1, [.int P, .int (nI n), .ref qv, .ref qp, .ref ql, .ref qg])), (qv, aI Z 144 V), (qp, aI Z 3 pr), (ql, aI Z 3 le), (qg, aI Z 3 gr), (sc, .inr (8, [.ref sq, .int (nI s1.1), .int (nI E), .int s1.2])), (sq, aB Z SL f)]) ([(sc, .inr (8, [.ref sq, .int (nI s1.1), .int (nI E), .int s1.2])), (sq, aB Z SL f)] ++ ([(h, .inr (1, [.int P, .int (nI n), .ref qv, .ref qp, .ref ql, .ref qg])), (qv, aI Z 144 V), (qp, aI Z 3 pr), (ql, aI Z 3 le), (qg, aI Z 3 gr)])) := (perm_ix [5, 6, 0, 1, 2, 3, 4] rfl 7 (by decide) rfl)
              refine kc_i (Wc := [(sc, .inr (8, [.ref sq, .int (nI s1.1), .int (nI E), .int s1.2])), (sq, aB Z SL f)]) (Wr := [(h, .inr (1, [.int P, .int (nI n), .ref qv, .ref qp, .ref ql, .ref qg])), (qv, aI Z 144 V), (qp, aI Z 3 pr), (ql, aI Z 3 le), (qg, aI Z 3 gr)]) G hX (krV 0 rfl (As := []) (rest := [.int v]) (ci := 8) (CC := RX7) (T := TX7) (N := 4) C G hX (c_X7_varintR Z l sc sq SL E s1 f hs1 hE (by omega) _) (gdV ml_X0_119 im_X7_varint se_X7_varint ii_X7 co_X7_varint) (by decide +kernel) ⟨Nat.le_of_ble_eq_true rfl, Nat.le_of_ble_eq_true rfl⟩ rfl 0 rfl hl rfl (Nat.le_of_ble_eq_true rfl) ⟨Nat.le_refl _, Nat.le_refl _⟩ dX0_readColumn_120) (fun r_120 u H locs hu G => ?_)
              obtain ⟨r_120_e, rfl⟩ := hu
              subst r_120_e
              have G : wd Z A s ([(h, .inr (1, [.int P, .int (nI n), .ref qv, .ref qp, .ref ql, .ref qg])), (qv, aI Z 144 V), (qp, aI Z 3 pr), (ql, aI Z 3 le), (qg, aI Z 3 gr), (sc, .inr (8, [.ref sq, .int (nI (rdV f E s1).2.1), .int (nI E), .int ((rdV f E s1).2.2)])), (sq, aB Z SL f)]) H locs := G.perm (perm_ix [2, 3, 4, 5, 6, 0, 1] rfl 7 (by decide) rfl)
              obtain ⟨t120_137, et120_137⟩ : ∃ t, t = (rdV f E s1).2 := ⟨_, rfl⟩
              have ht120_137 : t120_137.1 ≤ E := by rw [et120_137]; exact rdV_le hs1
              rw [← et120_137] at G
              refine lv_iadd hx hb dX0_readColumn_123 ?_
              refine lv_istore (lv' := [(8, .int (v + ((rdV f E s1).1))), (9, .int (nI i)), (7, .int left), (6, .int (nI nb)), (4, .long ms), (3, .int way), (0, .ref h), (1, .ref sc), (2, .int (nI c0))]) hx hb dX0_readColumn_124 hl (by decide) rfl (fun ls hl => ?_)
              refine lv_goto (tgt := 146) hx hb dX0_readColumn_126 (by decide) ?_
              refine lv_iload hx hb dX0_readColumn_146 (lv_at hl 2 rfl) ?_
              refine lv_iconst (v := 1) hx hb dX0_readColumn_148 (by decide) ?_
              refine lv_isub hx hb dX0_readColumn_149 ?_
              refine lv_iconst (v := 0) hx hb dX0_readColumn_150 (by decide) ?_
              refine k_mmax C hl.1 ml_X0_121 sm_J9_max_7cf53 ii_J9 co_max (Nat.le_of_ble_eq_true rfl) (Nat.le_of_ble_eq_true rfl) (Nat.le_refl _) (Nat.le_refl _) dX0_readColumn_151 ?_
              refine lv_istore (lv' := [(7, .int (if left - 1 < 0 then 0 else left - 1)), (8, .int (v + ((rdV f E s1).1))), (9, .int (nI i)), (6, .int (nI nb)), (4, .long ms), (3, .int way), (0, .ref h), (1, .ref sc), (2, .int (nI c0))]) hx hb dX0_readColumn_154 hl (by decide) rfl (fun ls hl => ?_)
              refine lv_aload_n hx hb dX0_readColumn_156 rfl (lv_at hl 6 rfl) ?_
              refine lv_iload_n hx hb dX0_readColumn_157 rfl (lv_at hl 8 rfl) ?_
              refine lv_iload hx hb dX0_readColumn_158 (lv_at hl 2 rfl) ?_
              refine lv_iload hx hb dX0_readColumn_160 (lv_at hl 1 rfl) ?_
              have hX : List.Perm ([(h, .inr (1, [.int P, .int (nI n), .ref qv, .ref qp, .ref ql, .ref qg])), (qv, aI Z 144 V), (qp, aI Z 3 pr), (ql, aI Z 3 le), (qg, aI Z 3 gr), (sc, .inr (8, [.ref sq, .int (nI t120_137.1), .int (nI E), .int t120_137.2])), (sq, aB Z SL f)]) ([(h, .inr (1, [.int P, .int (nI n), .ref qv, .ref qp, .ref ql, .ref qg])), (qv, aI Z 144 V), (qp, aI Z 3 pr), (ql, aI Z 3 le), (qg, aI Z 3 gr)] ++ ([(sc, .inr (8, [.ref sq, .int (nI t120_137.1), .int (nI E), .int t120_137.2])), (sq, aB Z SL f)])) := (perm_ix [0, 1, 2, 3, 4, 5, 6] rfl 7 (by decide) rfl)
              refine kc_v (Wc := [(h, .inr (1, [.int P, .int (nI n), .ref qv, .ref qp, .ref ql, .ref qg])), (qv, aI Z 144 V), (qp, aI Z 3 pr), (ql, aI Z 3 le), (qg, aI Z 3 gr)]) (Wr := [(sc, .inr (8, [.ref sq, .int (nI t120_137.1), .int (nI E), .int t120_137.2])), (sq, aB Z SL f)]) G hX (krV 3 rfl (As := [.int (nI c0), .int (nI i), .int (v + ((rdV f E s1).1))]) (rest := []) (ci := 1) (CC := RX0) (T := TX0) (N := 6) C G hX (c_X0_setValueI Z l h qv qp ql qg c0 i (fun d => if d = c0 then i else k d) P (nI n) (v + ((rdV f E s1).1)) V pr le gr hb0 hc (fun d hd => by show (if d = c0 then i else k d) ≤ 48; have := hk d hd; split <;> omega) (if_pos rfl) (by omega) _) (gdV ml_X0_37 im_X0_setValue se_X0_setValue ii_X0 co_X0_setValue) (by decide +kernel) ⟨Nat.le_of_ble_eq_true rfl, Nat.le_of_ble_eq_true rfl⟩ rfl 0 rfl hl rfl (Nat.le_of_ble_eq_true rfl) ⟨Nat.le_refl _, Nat.le_refl _⟩ dX0_readColumn_162) (fun u H locs hu G => ?_)
              obtain ⟨pr2, le2, gr2, hb2, rfl⟩ := hu
              have hb2 := bt_congr (k2 := fun d => if d = c0 then i + 1 else k d) hb2 (fun d _ => by by_cases e : d = c0 <;> simp [e])
              have G : wd Z A s ([(h, .inr (1, [.int P, .int (nI n), .ref qv, .ref qp, .ref ql, .ref qg])), (qv, aI Z 144 (upd V (48 * c0 + i) (v + ((rdV f E s1).1)))), (qp, aI Z 3 pr2), (ql, aI Z 3 le2), (qg, aI Z 3 gr2), (sc, .inr (8, [.ref sq, .int (nI t120_137.1), .int (nI E), .int t120_137.2])), (sq, aB Z SL f)]) H locs := G.perm (perm_ix [0, 1, 2, 3, 4, 5, 6] rfl 7 (by decide) rfl)
              refine lv_iinc (v := nI (i + 1)) (lv' := [(9, .int (nI (i + 1))), (7, .int (if left - 1 < 0 then 0 else left - 1)), (8, .int (v + ((rdV f E s1).1))), (6, .int (nI nb)), (4, .long ms), (3, .int way), (0, .ref h), (1, .ref sc), (2, .int (nI c0))]) hx hb dX0_readColumn_165 hl (k := 2) rfl (nI_1 _) (by decide) rfl (fun ls hl => ?_)
              refine lv_goto (tgt := 54) hx hb dX0_readColumn_168 (by decide) ?_
              rw [rcR_val c_67 hbit (rcN_2 c_100 c_114)] at hp
              subst et120_137
              exact ih (i + 1) _ _ _ _ pr2 le2 gr2 (by omega) ht120_137 hb2 hp _ _ _ G (lv_sub hl [0, 2, 1, 3, 4, 5, 6, 7, 8] rfl)
          · refine lv_aload_n hx hb dX0_readColumn_103 rfl (lv_at hl 7 rfl) ?_
            have hX : List.Perm ([(h, .inr (1, [.int P, .int (nI n), .ref qv, .ref qp, .ref ql, .ref qg])), (qv, aI Z 144 V), (qp, aI Z 3 pr), (ql, aI Z 3 le), (qg, aI Z 3 gr), (sc, .inr (8, [.ref sq, .int (nI s1.1), .int (nI E), .int s1.2])), (sq, aB Z SL f)]) ([(sc, .inr (8, [.ref sq, .int (nI s1.1), .int (nI E), .int s1.2])), (sq, aB Z SL f)] ++ ([(h, .inr (1, [.int P, .int (nI n), .ref qv, .ref qp, .ref ql, .ref qg])), (qv, aI Z 144 V), (qp, aI Z 3 pr), (ql, aI Z 3 le), (qg, aI Z 3 gr)])) := (perm_ix [5, 6, 0, 1, 2, 3, 4] rfl 7 (by decide) rfl)
            refine kc_i (Wc := [(sc, .inr (8, [.ref sq, .int (nI s1.1), .int (nI E), .int s1.2])), (sq, aB Z SL f)]) (Wr := [(h, .inr (1, [.int P, .int (nI n), .ref qv, .ref qp, .ref ql, .ref qg])), (qv, aI Z 144 V), (qp, aI Z 3 pr), (ql, aI Z 3 le), (qg, aI Z 3 gr)]) G hX (krV 0 rfl (As := []) (rest := []) (ci := 8) (CC := RX7) (T := TX7) (N := 4) C G hX (c_X7_u4R Z l sc sq SL E s1 f hs1 hE (by omega) _) (gdV ml_X0_117 im_X7_u4 se_X7_u4 ii_X7 co_X7_u4) (by decide +kernel) ⟨Nat.le_of_ble_eq_true rfl, Nat.le_of_ble_eq_true rfl⟩ rfl 0 rfl hl rfl (Nat.le_of_ble_eq_true rfl) ⟨Nat.le_refl _, Nat.le_refl _⟩ dX0_readColumn_104) (fun r_104 u H locs hu G => ?_)
            obtain ⟨r_104_e, rfl⟩ := hu
            subst r_104_e
            have G : wd Z A s ([(h, .inr (1, [.int P, .int (nI n), .ref qv, .ref qp, .ref ql, .ref qg])), (qv, aI Z 144 V), (qp, aI Z 3 pr), (ql, aI Z 3 le), (qg, aI Z 3 gr), (sc, .inr (8, [.ref sq, .int (nI (rdU4 f E s1).2.1), .int (nI E), .int ((rdU4 f E s1).2.2)])), (sq, aB Z SL f)]) H locs := G.perm (perm_ix [2, 3, 4, 5, 6, 0, 1] rfl 7 (by decide) rfl)
            obtain ⟨t104_169, et104_169⟩ : ∃ t, t = (rdU4 f E s1).2 := ⟨_, rfl⟩
            have ht104_169 : t104_169.1 ≤ E := by rw [et104_169]; exact rdU4_le hs1
            rw [← et104_169] at G
            refine lv_istore (lv' := [(8, .int ((rdU4 f E s1).1)), (9, .int (nI i)), (7, .int left), (6, .int (nI nb)), (4, .long ms), (3, .int way), (0, .ref h), (1, .ref sc), (2, .int (nI c0))]) hx hb dX0_readColumn_107 hl (by decide) rfl (fun ls hl => ?_)
            refine lv_goto (tgt := 146) hx hb dX0_readColumn_109 (by decide) ?_
            refine lv_iload hx hb dX0_readColumn_146 (lv_at hl 2 rfl) ?_
            refine lv_iconst (v := 1) hx hb dX0_readColumn_148 (by decide) ?_
            refine lv_isub hx hb dX0_readColumn_149 ?_
            refine lv_iconst (v := 0) hx hb dX0_readColumn_150 (by decide) ?_
            refine k_mmax C hl.1 ml_X0_121 sm_J9_max_7cf53 ii_J9 co_max (Nat.le_of_ble_eq_true rfl) (Nat.le_of_ble_eq_true rfl) (Nat.le_refl _) (Nat.le_refl _) dX0_readColumn_151 ?_
            refine lv_istore (lv' := [(7, .int (if left - 1 < 0 then 0 else left - 1)), (8, .int ((rdU4 f E s1).1)), (9, .int (nI i)), (6, .int (nI nb)), (4, .long ms), (3, .int way), (0, .ref h), (1, .ref sc), (2, .int (nI c0))]) hx hb dX0_readColumn_154 hl (by decide) rfl (fun ls hl => ?_)
            refine lv_aload_n hx hb dX0_readColumn_156 rfl (lv_at hl 6 rfl) ?_
            refine lv_iload_n hx hb dX0_readColumn_157 rfl (lv_at hl 8 rfl) ?_
            refine lv_iload hx hb dX0_readColumn_158 (lv_at hl 2 rfl) ?_
            refine lv_iload hx hb dX0_readColumn_160 (lv_at hl 1 rfl) ?_
            have hX : List.Perm ([(h, .inr (1, [.int P, .int (nI n), .ref qv, .ref qp, .ref ql, .ref qg])), (qv, aI Z 144 V), (qp, aI Z 3 pr), (ql, aI Z 3 le), (qg, aI Z 3 gr), (sc, .inr (8, [.ref sq, .int (nI t104_169.1), .int (nI E), .int t104_169.2])), (sq, aB Z SL f)]) ([(h, .inr (1, [.int P, .int (nI n), .ref qv, .ref qp, .ref ql, .ref qg])), (qv, aI Z 144 V), (qp, aI Z 3 pr), (ql, aI Z 3 le), (qg, aI Z 3 gr)] ++ ([(sc, .inr (8, [.ref sq, .int (nI t104_169.1), .int (nI E), .int t104_169.2])), (sq, aB Z SL f)])) := (perm_ix [0, 1, 2, 3, 4, 5, 6] rfl 7 (by decide) rfl)
            refine kc_v (Wc := [(h, .inr (1, [.int P, .int (nI n), .ref qv, .ref qp, .ref ql, .ref qg])), (qv, aI Z 144 V), (qp, aI Z 3 pr), (ql, aI Z 3 le), (qg, aI Z 3 gr)]) (Wr := [(sc, .inr (8, [.ref sq, .int (nI t104_169.1), .int (nI E), .int t104_169.2])), (sq, aB Z SL f)]) G hX (krV 3 rfl (As := [.int (nI c0), .int (nI i), .int ((rdU4 f E s1).1)]) (rest := []) (ci := 1) (CC := RX0) (T := TX0) (N := 6) C G hX (c_X0_setValueI Z l h qv qp ql qg c0 i (fun d => if d = c0 then i else k d) P (nI n) ((rdU4 f E s1).1) V pr le gr hb0 hc (fun d hd => by show (if d = c0 then i else k d) ≤ 48; have := hk d hd; split <;> omega) (if_pos rfl) (by omega) _) (gdV ml_X0_37 im_X0_setValue se_X0_setValue ii_X0 co_X0_setValue) (by decide +kernel) ⟨Nat.le_of_ble_eq_true rfl, Nat.le_of_ble_eq_true rfl⟩ rfl 0 rfl hl rfl (Nat.le_of_ble_eq_true rfl) ⟨Nat.le_refl _, Nat.le_refl _⟩ dX0_readColumn_162) (fun u H locs hu G => ?_)
            obtain ⟨pr2, le2, gr2, hb2, rfl⟩ := hu
            have hb2 := bt_congr (k2 := fun d => if d = c0 then i + 1 else k d) hb2 (fun d _ => by by_cases e : d = c0 <;> simp [e])
            have G : wd Z A s ([(h, .inr (1, [.int P, .int (nI n), .ref qv, .ref qp, .ref ql, .ref qg])), (qv, aI Z 144 (upd V (48 * c0 + i) ((rdU4 f E s1).1))), (qp, aI Z 3 pr2), (ql, aI Z 3 le2), (qg, aI Z 3 gr2), (sc, .inr (8, [.ref sq, .int (nI t104_169.1), .int (nI E), .int t104_169.2])), (sq, aB Z SL f)]) H locs := G.perm (perm_ix [0, 1, 2, 3, 4, 5, 6] rfl 7 (by decide) rfl)
            refine lv_iinc (v := nI (i + 1)) (lv' := [(9, .int (nI (i + 1))), (7, .int (if left - 1 < 0 then 0 else left - 1)), (8, .int ((rdU4 f E s1).1)), (6, .int (nI nb)), (4, .long ms), (3, .int way), (0, .ref h), (1, .ref sc), (2, .int (nI c0))]) hx hb dX0_readColumn_165 hl (k := 2) rfl (nI_1 _) (by decide) rfl (fun ls hl => ?_)
            refine lv_goto (tgt := 54) hx hb dX0_readColumn_168 (by decide) ?_
            rw [rcR_val c_67 hbit (rcN_0 c_100)] at hp
            subst et104_169
            exact ih (i + 1) _ _ _ _ pr2 le2 gr2 (by omega) ht104_169 hb2 hp _ _ _ G (lv_sub hl [0, 2, 1, 3, 4, 5, 6, 7, 8] rfl)
        · have hbit : bitM ms nb i = 1 := (lcm_z _ _).mp c_84
          refine lv_aload_n hx hb dX0_readColumn_87 rfl (lv_at hl 6 rfl) ?_
          refine lv_iload_n hx hb dX0_readColumn_88 rfl (lv_at hl 8 rfl) ?_
          refine lv_iload hx hb dX0_readColumn_89 (lv_at hl 0 rfl) ?_
          refine lv_ldc (v := (-2147483648)) hx hb hown (hts _ kn_X0_48) dX0_readColumn_91 ?_
          have hX : List.Perm ([(h, .inr (1, [.int P, .int (nI n), .ref qv, .ref qp, .ref ql, .ref qg])), (qv, aI Z 144 V), (qp, aI Z 3 pr), (ql, aI Z 3 le), (qg, aI Z 3 gr), (sc, .inr (8, [.ref sq, .int (nI s1.1), .int (nI E), .int s1.2])), (sq, aB Z SL f)]) ([(h, .inr (1, [.int P, .int (nI n), .ref qv, .ref qp, .ref ql, .ref qg])), (qv, aI Z 144 V), (qp, aI Z 3 pr), (ql, aI Z 3 le), (qg, aI Z 3 gr)] ++ ([(sc, .inr (8, [.ref sq, .int (nI s1.1), .int (nI E), .int s1.2])), (sq, aB Z SL f)])) := (perm_ix [0, 1, 2, 3, 4, 5, 6] rfl 7 (by decide) rfl)
          refine kc_v (Wc := [(h, .inr (1, [.int P, .int (nI n), .ref qv, .ref qp, .ref ql, .ref qg])), (qv, aI Z 144 V), (qp, aI Z 3 pr), (ql, aI Z 3 le), (qg, aI Z 3 gr)]) (Wr := [(sc, .inr (8, [.ref sq, .int (nI s1.1), .int (nI E), .int s1.2])), (sq, aB Z SL f)]) G hX (krV 3 rfl (As := [.int (nI c0), .int (nI i), .int (-2147483648)]) (rest := []) (ci := 1) (CC := RX0) (T := TX0) (N := 6) C G hX (c_X0_setValueI Z l h qv qp ql qg c0 i (fun d => if d = c0 then i else k d) P (nI n) (-2147483648) V pr le gr hb0 hc (fun d hd => by show (if d = c0 then i else k d) ≤ 48; have := hk d hd; split <;> omega) (if_pos rfl) (by omega) _) (gdV ml_X0_37 im_X0_setValue se_X0_setValue ii_X0 co_X0_setValue) (by decide +kernel) ⟨Nat.le_of_ble_eq_true rfl, Nat.le_of_ble_eq_true rfl⟩ rfl 0 rfl hl rfl (Nat.le_of_ble_eq_true rfl) ⟨Nat.le_refl _, Nat.le_refl _⟩ dX0_readColumn_93) (fun u H locs hu G => ?_)
          obtain ⟨pr2, le2, gr2, hb2, rfl⟩ := hu
          have hb2 := bt_congr (k2 := fun d => if d = c0 then i + 1 else k d) hb2 (fun d _ => by by_cases e : d = c0 <;> simp [e])
          have G : wd Z A s ([(h, .inr (1, [.int P, .int (nI n), .ref qv, .ref qp, .ref ql, .ref qg])), (qv, aI Z 144 (upd V (48 * c0 + i) (-2147483648))), (qp, aI Z 3 pr2), (ql, aI Z 3 le2), (qg, aI Z 3 gr2), (sc, .inr (8, [.ref sq, .int (nI s1.1), .int (nI E), .int s1.2])), (sq, aB Z SL f)]) H locs := G.perm (perm_ix [0, 1, 2, 3, 4, 5, 6] rfl 7 (by decide) rfl)
          refine lv_goto (tgt := 165) hx hb dX0_readColumn_96 (by decide) ?_
          refine lv_iinc (v := nI (i + 1)) (lv' := [(9, .int (nI (i + 1))), (8, .int v), (7, .int left), (6, .int (nI nb)), (4, .long ms), (3, .int way), (0, .ref h), (1, .ref sc), (2, .int (nI c0))]) hx hb dX0_readColumn_165 hl (k := 0) rfl (nI_1 _) (by decide) rfl (fun ls hl => ?_)
          refine lv_goto (tgt := 54) hx hb dX0_readColumn_168 (by decide) ?_
          rw [rcR_mis c_67 hbit] at hp
          exact ih (i + 1) s1 left v (upd V (48 * c0 + i) (-2147483648)) pr2 le2 gr2 (by omega) hs1 hb2 hp _ _ _ G (lv_sub hl [0, 1, 2, 3, 4, 5, 6, 7, 8] rfl)
