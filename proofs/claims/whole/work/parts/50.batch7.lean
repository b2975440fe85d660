/-! MODULE Batch (X0), seventh part: readFrom. -/
set_option maxRecDepth 100000 in
set_option maxHeartbeats 4000000 in
theorem c_X0_readFromS (Z : zT) (l : Launch) (h qv qp ql qg sc sq SL E : Nat) (P0 n0 : Int32) (V pr le gr f : Nat → Int32) (s1 : rS) (he : s1 = (0, 0)) (hE : E ≤ SL) (hL : SL < 2 ^ 30) : Ki Z l yX0_readFrom cX0_readFrom 5 (some .boolean) ({ frames := 2, cells := 0, slots := 0, locals := 80 }) [.ref h, .ref sc] (btW Z h qv qp ql qg P0 n0 V pr le gr ++ scW Z sc sq SL f s1.1 E s1.2) (fun r u => ∃ (P2 : Int32) (n2 : Nat) (V2 pr2 le2 gr2 : Nat → Int32) (s2 : rS), n2 ≤ 48 ∧ ((r = 1 ∧ rfD f E V = some (P2, n2, V2) ∧ bt_ok V2 pr2 le2 gr2 (fun _ => n2)) ∨ (r = 0 ∧ rfD f E V = none)) ∧ u = btW Z h qv qp ql qg P2 (nI n2) V2 pr2 le2 gr2 ++ scW Z sc sq SL f s2.1 E s2.2) := by
  intro sz
  refine Met.ofK (cc := cX0_readFrom) (maxL := 5) (ret := (some .boolean)) (by decide) (Nat.le_of_ble_eq_true rfl) ?_
  intro p e s m below meth c ls C G hl
  generalize va_A _ sz = A at G ⊢
  have hx := C.1
  have hb := C.2.1
  have hown := C.2.2.2.2.2.1
  have hts := C.2.2.2.2.2.2.1
  have hs1 : s1.1 ≤ E := by rw [he]; exact Nat.zero_le _
  refine lv_aload_n hx hb dX0_readFrom_0 rfl (lv_at hl 1 rfl) ?_
  have hX : List.Perm ([(h, .inr (1, [.int P0, .int n0, .ref qv, .ref qp, .ref ql, .ref qg])), (qv, aI Z 144 V), (qp, aI Z 3 pr), (ql, aI Z 3 le), (qg, aI Z 3 gr), (sc, .inr (8, [.ref sq, .int (nI s1.1), .int (nI E), .int s1.2])), (sq, aB Z SL f)]) ([(sc, .inr (8, [.ref sq, .int (nI s1.1), .int (nI E), .int s1.2])), (sq, aB Z SL f)] ++ ([(h, .inr (1, [.int P0, .int n0, .ref qv, .ref qp, .ref ql, .ref qg])), (qv, aI Z 144 V), (qp, aI Z 3 pr), (ql, aI Z 3 le), (qg, aI Z 3 gr)])) := (perm_ix [5, 6, 0, 1, 2, 3, 4] rfl 7 (by decide) rfl)
  refine kc_i (Wc := [(sc, .inr (8, [.ref sq, .int (nI s1.1), .int (nI E), .int s1.2])), (sq, aB Z SL f)]) (Wr := [(h, .inr (1, [.int P0, .int n0, .ref qv, .ref qp, .ref ql, .ref qg])), (qv, aI Z 144 V), (qp, aI Z 3 pr), (ql, aI Z 3 le), (qg, aI Z 3 gr)]) G hX (krV 0 rfl (As := []) (rest := []) (ci := 8) (CC := RX7) (T := TX7) (N := 4) C G hX (c_X7_u1R Z l sc sq SL E s1 f hs1 hE (by omega) _) (gdV ml_X0_93 im_X7_u1 se_X7_u1 ii_X7 co_X7_u1) (by decide +kernel) ⟨Nat.le_of_ble_eq_true rfl, Nat.le_of_ble_eq_true rfl⟩ rfl 0 rfl hl rfl (Nat.le_of_ble_eq_true rfl) ⟨Nat.le_refl _, Nat.le_refl _⟩ dX0_readFrom_1) (fun r_1 u H locs hu G => ?_)
  obtain ⟨r_1_e, rfl⟩ := hu
  subst r_1_e
  have G : wd Z A s ([(h, .inr (1, [.int P0, .int n0, .ref qv, .ref qp, .ref ql, .ref qg])), (qv, aI Z 144 V), (qp, aI Z 3 pr), (ql, aI Z 3 le), (qg, aI Z 3 gr), (sc, .inr (8, [.ref sq, .int (nI (rdU1 f E s1).2.1), .int (nI E), .int ((rdU1 f E s1).2.2)])), (sq, aB Z SL f)]) H locs := G.perm (perm_ix [2, 3, 4, 5, 6, 0, 1] rfl 7 (by decide) rfl)
  obtain ⟨t1_6, et1_6⟩ : ∃ t, t = (rdU1 f E s1).2 := ⟨_, rfl⟩
  have ht1_6 : t1_6.1 ≤ E := by rw [et1_6]; exact rdU1_le hs1
  rw [← et1_6] at G
  refine lv_istore_n (lv' := [(2, .int ((rdU1 f E s1).1)), (0, .ref h), (1, .ref sc)]) hx hb dX0_readFrom_4 rfl hl (by decide) rfl (fun ls hl => ?_)
  refine lv_aload_n hx hb dX0_readFrom_5 rfl (lv_at hl 1 rfl) ?_
  refine lv_aload_n hx hb dX0_readFrom_6 rfl (lv_at hl 2 rfl) ?_
  have hX : List.Perm ([(h, .inr (1, [.int P0, .int n0, .ref qv, .ref qp, .ref ql, .ref qg])), (qv, aI Z 144 V), (qp, aI Z 3 pr), (ql, aI Z 3 le), (qg, aI Z 3 gr), (sc, .inr (8, [.ref sq, .int (nI t1_6.1), .int (nI E), .int t1_6.2])), (sq, aB Z SL f)]) ([(sc, .inr (8, [.ref sq, .int (nI t1_6.1), .int (nI E), .int t1_6.2])), (sq, aB Z SL f)] ++ ([(h, .inr (1, [.int P0, .int n0, .ref qv, .ref qp, .ref ql, .ref qg])), (qv, aI Z 144 V), (qp, aI Z 3 pr), (ql, aI Z 3 le), (qg, aI Z 3 gr)])) := (perm_ix [5, 6, 0, 1, 2, 3, 4] rfl 7 (by decide) rfl)
  refine kc_i (Wc := [(sc, .inr (8, [.ref sq, .int (nI t1_6.1), .int (nI E), .int t1_6.2])), (sq, aB Z SL f)]) (Wr := [(h, .inr (1, [.int P0, .int n0, .ref qv, .ref qp, .ref ql, .ref qg])), (qv, aI Z 144 V), (qp, aI Z 3 pr), (ql, aI Z 3 le), (qg, aI Z 3 gr)]) G hX (krV 0 rfl (As := []) (rest := [.ref h]) (ci := 8) (CC := RX7) (T := TX7) (N := 4) C G hX (c_X7_u1R Z l sc sq SL E t1_6 f ht1_6 hE (by omega) _) (gdV ml_X0_93 im_X7_u1 se_X7_u1 ii_X7 co_X7_u1) (by decide +kernel) ⟨Nat.le_of_ble_eq_true rfl, Nat.le_of_ble_eq_true rfl⟩ rfl 0 rfl hl rfl (Nat.le_of_ble_eq_true rfl) ⟨Nat.le_refl _, Nat.le_refl _⟩ dX0_readFrom_7) (fun r_7 u H locs hu G => ?_)
  obtain ⟨r_7_e, rfl⟩ := hu
  subst r_7_e
  have G : wd Z A s ([(h, .inr (1, [.int P0, .int n0, .ref qv, .ref qp, .ref ql, .ref qg])), (qv, aI Z 144 V), (qp, aI Z 3 pr), (ql, aI Z 3 le), (qg, aI Z 3 gr), (sc, .inr (8, [.ref sq, .int (nI (rdU1 f E t1_6).2.1), .int (nI E), .int ((rdU1 f E t1_6).2.2)])), (sq, aB Z SL f)]) H locs := G.perm (perm_ix [2, 3, 4, 5, 6, 0, 1] rfl 7 (by decide) rfl)
  obtain ⟨t7_17, et7_17⟩ : ∃ t, t = (rdU1 f E t1_6).2 := ⟨_, rfl⟩
  have ht7_17 : t7_17.1 ≤ E := by rw [et7_17]; exact rdU1_le ht1_6
  rw [← et7_17] at G
  have hX : List.Perm ([(h, .inr (1, [.int P0, .int n0, .ref qv, .ref qp, .ref ql, .ref qg])), (qv, aI Z 144 V), (qp, aI Z 3 pr), (ql, aI Z 3 le), (qg, aI Z 3 gr), (sc, .inr (8, [.ref sq, .int (nI t7_17.1), .int (nI E), .int t7_17.2])), (sq, aB Z SL f)]) ([(h, .inr (1, [.int P0, .int n0, .ref qv, .ref qp, .ref ql, .ref qg])), (qv, aI Z 144 V), (qp, aI Z 3 pr), (ql, aI Z 3 le), (qg, aI Z 3 gr)] ++ ([(sc, .inr (8, [.ref sq, .int (nI t7_17.1), .int (nI E), .int t7_17.2])), (sq, aB Z SL f)])) := (perm_ix [0, 1, 2, 3, 4, 5, 6] rfl 7 (by decide) rfl)
  refine kc_v (Wc := [(h, .inr (1, [.int P0, .int n0, .ref qv, .ref qp, .ref ql, .ref qg])), (qv, aI Z 144 V), (qp, aI Z 3 pr), (ql, aI Z 3 le), (qg, aI Z 3 gr)]) (Wr := [(sc, .inr (8, [.ref sq, .int (nI t7_17.1), .int (nI E), .int t7_17.2])), (sq, aB Z SL f)]) G hX (krV 1 rfl (As := [.int ((rdU1 f E t1_6).1)]) (rest := []) (ci := 1) (CC := RX0) (T := TX0) (N := 6) C G hX (c_X0_clear Z l h qv qp ql qg P0 n0 ((rdU1 f E t1_6).1) V pr le gr _) (gdV ml_X0_98 im_X0_clear se_X0_clear ii_X0 co_X0_clear) (by decide +kernel) ⟨Nat.le_of_ble_eq_true rfl, Nat.le_of_ble_eq_true rfl⟩ rfl 0 rfl hl rfl (Nat.le_of_ble_eq_true rfl) ⟨Nat.le_of_ble_eq_true rfl, Nat.le_of_ble_eq_true rfl⟩ dX0_readFrom_10) (fun u H locs hu G => ?_)
  obtain ⟨pr1, le1, gr1, hb1, rfl⟩ := hu
  have G : wd Z A s ([(h, .inr (1, [.int ((rdU1 f E t1_6).1), .int 0, .ref qv, .ref qp, .ref ql, .ref qg])), (qv, aI Z 144 V), (qp, aI Z 3 pr1), (ql, aI Z 3 le1), (qg, aI Z 3 gr1), (sc, .inr (8, [.ref sq, .int (nI t7_17.1), .int (nI E), .int t7_17.2])), (sq, aB Z SL f)]) H locs := G
  refine lv_aload_n hx hb dX0_readFrom_13 rfl (lv_at hl 2 rfl) ?_
  have hX : List.Perm ([(h, .inr (1, [.int ((rdU1 f E t1_6).1), .int 0, .ref qv, .ref qp, .ref ql, .ref qg])), (qv, aI Z 144 V), (qp, aI Z 3 pr1), (ql, aI Z 3 le1), (qg, aI Z 3 gr1), (sc, .inr (8, [.ref sq, .int (nI t7_17.1), .int (nI E), .int t7_17.2])), (sq, aB Z SL f)]) ([(sc, .inr (8, [.ref sq, .int (nI t7_17.1), .int (nI E), .int t7_17.2])), (sq, aB Z SL f)] ++ ([(h, .inr (1, [.int ((rdU1 f E t1_6).1), .int 0, .ref qv, .ref qp, .ref ql, .ref qg])), (qv, aI Z 144 V), (qp, aI Z 3 pr1), (ql, aI Z 3 le1), (qg, aI Z 3 gr1)])) := (perm_ix [5, 6, 0, 1, 2, 3, 4] rfl 7 (by decide) rfl)
  refine kc_i (Wc := [(sc, .inr (8, [.ref sq, .int (nI t7_17.1), .int (nI E), .int t7_17.2])), (sq, aB Z SL f)]) (Wr := [(h, .inr (1, [.int ((rdU1 f E t1_6).1), .int 0, .ref qv, .ref qp, .ref ql, .ref qg])), (qv, aI Z 144 V), (qp, aI Z 3 pr1), (ql, aI Z 3 le1), (qg, aI Z 3 gr1)]) G hX (krV 0 rfl (As := []) (rest := []) (ci := 8) (CC := RX7) (T := TX7) (N := 4) C G hX (c_X7_u1R Z l sc sq SL E t7_17 f ht7_17 hE (by omega) _) (gdV ml_X0_93 im_X7_u1 se_X7_u1 ii_X7 co_X7_u1) (by decide +kernel) ⟨Nat.le_of_ble_eq_true rfl, Nat.le_of_ble_eq_true rfl⟩ rfl 0 rfl hl rfl (Nat.le_of_ble_eq_true rfl) ⟨Nat.le_refl _, Nat.le_refl _⟩ dX0_readFrom_14) (fun r_14 u H locs hu G => ?_)
  obtain ⟨r_14_e, rfl⟩ := hu
  subst r_14_e
  have G : wd Z A s ([(h, .inr (1, [.int ((rdU1 f E t1_6).1), .int 0, .ref qv, .ref qp, .ref ql, .ref qg])), (qv, aI Z 144 V), (qp, aI Z 3 pr1), (ql, aI Z 3 le1), (qg, aI Z 3 gr1), (sc, .inr (8, [.ref sq, .int (nI (rdU1 f E t7_17).2.1), .int (nI E), .int ((rdU1 f E t7_17).2.2)])), (sq, aB Z SL f)]) H locs := G.perm (perm_ix [2, 3, 4, 5, 6, 0, 1] rfl 7 (by decide) rfl)
  obtain ⟨t14_30, et14_30⟩ : ∃ t, t = (rdU1 f E t7_17).2 := ⟨_, rfl⟩
  have ht14_30 : t14_30.1 ≤ E := by rw [et14_30]; exact rdU1_le ht7_17
  rw [← et14_30] at G
  refine lv_topi (fun td etd => ?_)
  refine lv_istore_n (lv' := [(3, .int td), (2, .int ((rdU1 f E s1).1)), (0, .ref h), (1, .ref sc)]) hx hb dX0_readFrom_17 rfl hl (by decide) rfl (fun ls hl => ?_)
  have eM : rdU1 f E s1 = rfM f E := by rw [he]; rfl
  have eP : rdU1 f E t1_6 = rfP f E := by rw [et1_6, eM]; rfl
  have eT : rdU1 f E t7_17 = rfT f E := by rw [et7_17, eP]; rfl
  rw [eT] at etd et14_30
  rw [eP] at G
  have hl := hl
  have G : wd Z A s ([(h, .inr (1, [.int ((rfP f E).1), .int 0, .ref qv, .ref qp, .ref ql, .ref qg])), (qv, aI Z 144 V), (qp, aI Z 3 pr1), (ql, aI Z 3 le1), (qg, aI Z 3 gr1), (sc, .inr (8, [.ref sq, .int (nI t14_30.1), .int (nI E), .int t14_30.2])), (sq, aB Z SL f)]) H locs := G
  refine lv_iload_n hx hb dX0_readFrom_18 rfl (lv_at hl 1 rfl) ?_
  refine lv_bipush (v := 84) hx hb dX0_readFrom_19 (by decide) ?_
  refine lv_icmp_ne (tgt := 45) hx hb dX0_readFrom_21 (by decide) (fun c_21 => ?_) (fun c_21 => ?_)
  · refine lv_iconst (v := 0) hx hb dX0_readFrom_45 (by decide) ?_
    exact kr_z C G (by decide) ⟨_, 0, V, pr1, le1, gr1, t14_30, by omega, (Or.inr ⟨rfl, by rw [rfD, if_pos (Or.inl (by rw [← eM]; exact c_21))]⟩), rfl⟩ (Nat.le_refl _) (Nat.le_refl _) dX0_readFrom_46
  · refine lv_aload_n hx hb dX0_readFrom_24 rfl (lv_at hl 2 rfl) ?_
    refine k_get (ci := 1) (CC := RX0) (T := TX0) (N := 6) (v := .int ((rfP f E).1)) C G 0 rfl rfl in_1 0 (by decide) fl_X0_24 rfl rfl dX0_readFrom_25 ?_
    have hX : List.Perm ([(h, .inr (1, [.int ((rfP f E).1), .int 0, .ref qv, .ref qp, .ref ql, .ref qg])), (qv, aI Z 144 V), (qp, aI Z 3 pr1), (ql, aI Z 3 le1), (qg, aI Z 3 gr1), (sc, .inr (8, [.ref sq, .int (nI t14_30.1), .int (nI E), .int t14_30.2])), (sq, aB Z SL f)]) ([] ++ ([(h, .inr (1, [.int ((rfP f E).1), .int 0, .ref qv, .ref qp, .ref ql, .ref qg])), (qv, aI Z 144 V), (qp, aI Z 3 pr1), (ql, aI Z 3 le1), (qg, aI Z 3 gr1), (sc, .inr (8, [.ref sq, .int (nI t14_30.1), .int (nI E), .int t14_30.2])), (sq, aB Z SL f)])) := (perm_ix [0, 1, 2, 3, 4, 5, 6] rfl 7 (by decide) rfl)
    refine kc_i (Wc := []) (Wr := [(h, .inr (1, [.int ((rfP f E).1), .int 0, .ref qv, .ref qp, .ref ql, .ref qg])), (qv, aI Z 144 V), (qp, aI Z 3 pr1), (ql, aI Z 3 le1), (qg, aI Z 3 gr1), (sc, .inr (8, [.ref sq, .int (nI t14_30.1), .int (nI E), .int t14_30.2])), (sq, aB Z SL f)]) G hX (krSN 1 rfl (As := [.int ((rfP f E).1)]) (rest := []) (host := "LakeTable") C G hX (c_X10_isPartition Z l ((rfP f E).1) _) (gdP co_X10_isPartition) (by decide) sm_X10_isPartition ii_X10 (by decide +kernel) ⟨Nat.le_of_ble_eq_true rfl, Nat.le_of_ble_eq_true rfl⟩ hl rfl (Nat.le_of_ble_eq_true rfl) ⟨Nat.le_of_ble_eq_true rfl, Nat.le_of_ble_eq_true rfl⟩ dX0_readFrom_28) (fun r_28 u H locs hu G => ?_)
    obtain ⟨hpt, rfl⟩ := hu
    have G : wd Z A s ([(h, .inr (1, [.int ((rfP f E).1), .int 0, .ref qv, .ref qp, .ref ql, .ref qg])), (qv, aI Z 144 V), (qp, aI Z 3 pr1), (ql, aI Z 3 le1), (qg, aI Z 3 gr1), (sc, .inr (8, [.ref sq, .int (nI t14_30.1), .int (nI E), .int t14_30.2])), (sq, aB Z SL f)]) H locs := G
    refine lv_if_eq (tgt := 45) hx hb dX0_readFrom_31 (by decide) (fun c_31 => ?_) (fun c_31 => ?_)
    · refine lv_iconst (v := 0) hx hb dX0_readFrom_45 (by decide) ?_
      exact kr_z C G (by decide) ⟨_, 0, V, pr1, le1, gr1, t14_30, by omega, (Or.inr ⟨rfl, by rw [rfD, if_pos (Or.inr (Or.inl (fun z => by rw [hpt, if_pos z] at c_31; exact absurd c_31 (by decide))))]⟩), rfl⟩ (Nat.le_refl _) (Nat.le_refl _) dX0_readFrom_46
    · refine lv_iload_n hx hb dX0_readFrom_34 rfl (lv_at hl 0 rfl) ?_
      refine lv_iconst (v := 1) hx hb dX0_readFrom_35 (by decide) ?_
      refine lv_icmp_lt (tgt := 45) hx hb dX0_readFrom_36 (by decide) (fun c_36 => ?_) (fun c_36 => ?_)
      · refine lv_iconst (v := 0) hx hb dX0_readFrom_45 (by decide) ?_
        exact kr_z C G (by decide) ⟨_, 0, V, pr1, le1, gr1, t14_30, by omega, (Or.inr ⟨rfl, by rw [rfD, if_pos (Or.inr (Or.inr (Or.inl (by rw [← etd]; exact c_36))))]⟩), rfl⟩ (Nat.le_refl _) (Nat.le_refl _) dX0_readFrom_46
      · refine lv_iload_n hx hb dX0_readFrom_39 rfl (lv_at hl 0 rfl) ?_
        refine lv_bipush (v := 48) hx hb dX0_readFrom_40 (by decide) ?_
        refine lv_icmp_le (tgt := 47) hx hb dX0_readFrom_42 (by decide) (fun c_42 => ?_) (fun c_42 => ?_)
        · obtain ⟨n, hn0, en⟩ := nI_of (x := td) (fun z => c_36 (Int32.lt_of_lt_of_le z (by decide)))
          subst en
          have hn : n ≤ 48 := (nI_leI hn0 (by omega)).mp (show nI n ≤ nI 48 from c_42)
          refine lv_aload_n hx hb dX0_readFrom_47 rfl (lv_at hl 2 rfl) ?_
          refine lv_iload_n hx hb dX0_readFrom_48 rfl (lv_at hl 0 rfl) ?_
          refine k_put (ci := 1) (CC := RX0) (T := TX0) (N := 6) (ty := .int) (v := .int (nI n)) C G 0 rfl rfl in_1 tyX0 tyX0_ok nmX0 1 (by decide) fl_X0_28 rfl rfl rfl rfl rfl (Nat.le_of_ble_eq_true rfl) dX0_readFrom_49 (fun H locs (G : wd Z A s ([(h, .inr (1, [.int ((rfP f E).1), .int (nI n), .ref qv, .ref qp, .ref ql, .ref qg])), (qv, aI Z 144 V), (qp, aI Z 3 pr1), (ql, aI Z 3 le1), (qg, aI Z 3 gr1), (sc, .inr (8, [.ref sq, .int (nI t14_30.1), .int (nI E), .int t14_30.2])), (sq, aB Z SL f)]) H locs) => ?_)
          refine lv_iconst (v := 0) hx hb dX0_readFrom_52 (by decide) ?_
          refine lv_istore (lv' := [(4, .int 0), (3, .int (nI n)), (2, .int ((rdU1 f E s1).1)), (0, .ref h), (1, .ref sc)]) hx hb dX0_readFrom_53 hl (by decide) rfl (fun ls hl => ?_)
          have hpt2 : 0 ≤ (rfP f E).1 ∧ (rfP f E).1 < 8 := Decidable.byContradiction (fun z => by rw [hpt, if_neg z] at c_31; exact c_31 rfl)
          have hM2 : (rfM f E).1 = 84 := by rw [← eM]; exact c_21
          have hD : rfD f E V = rfC f E (rfP f E).1 n 3 0 t14_30 V := by rw [rfD, if_neg (fun z => z.elim (fun y => y hM2) (fun z => z.elim (fun y => y hpt2) (fun z => z.elim (fun y => c_36 (by rw [etd]; exact y)) (fun y => absurd c_42 (Int32.not_le.mpr (by rw [etd]; exact y)))))), ← etd, nI_clamp hn0, et14_30]
          exact lp_X0_readFrom (mk := (rdU1 f E s1).1) C hn hE hL 3 0 t14_30 V pr1 le1 gr1 (by omega) ht14_30 (bt_congr hb1 (fun d _ => (if_neg (by omega)).symm)) (fun r V2 pr2 le2 gr2 s2 hr => ⟨_, n, V2, pr2, le2, gr2, s2, hn, by rw [hD]; exact hr, rfl⟩) _ _ _ G (lv_sub hl [0, 1, 2, 3, 4] rfl)
        · refine lv_iconst (v := 0) hx hb dX0_readFrom_45 (by decide) ?_
          exact kr_z C G (by decide) ⟨_, 0, V, pr1, le1, gr1, t14_30, by omega, (Or.inr ⟨rfl, by rw [rfD, if_pos (Or.inr (Or.inr (Or.inr (by rw [← etd]; exact Int32.not_le.mp c_42))))]⟩), rfl⟩ (Nat.le_refl _) (Nat.le_refl _) dX0_readFrom_46
theorem c_X0_readFrom (Z : zT) (l : Launch) (h qv qp ql qg sc sq SL E : Nat) (P0 n0 : Int32) (V pr le gr f : Nat → Int32) (hE : E ≤ SL) (hL : SL < 2 ^ 30) : Ki Z l yX0_readFrom cX0_readFrom 5 (some .boolean) ({ frames := 2, cells := 0, slots := 0, locals := 80 }) [.ref h, .ref sc] (btW Z h qv qp ql qg P0 n0 V pr le gr ++ scW Z sc sq SL f 0 E 0) (fun r u => ∃ (P2 : Int32) (n2 : Nat) (V2 pr2 le2 gr2 : Nat → Int32) (s2 : rS), n2 ≤ 48 ∧ ((r = 1 ∧ rfD f E V = some (P2, n2, V2) ∧ bt_ok V2 pr2 le2 gr2 (fun _ => n2)) ∨ (r = 0 ∧ rfD f E V = none)) ∧ u = btW Z h qv qp ql qg P2 (nI n2) V2 pr2 le2 gr2 ++ scW Z sc sq SL f s2.1 E s2.2) := c_X0_readFromS Z l h qv qp ql qg sc sq SL E P0 n0 V pr le gr f (0, 0) rfl hE hL
