/-! MODULE Batch (X0), fourth part: writeTo. -/
theorem swW_lt (l : List Int32) : swW l < 3 := by unfold swW; (repeat' split) <;> omega
set_option maxRecDepth 100000 in
set_option maxHeartbeats 4000000 in
theorem lp_X0_writeTo {p : Program} {l : Launch} {e : Env} {s : State} {m : MethodId} {args : Array Value} {below : List Frame} {meth : Method} {c : Code} {Z : zT} {A : Nat → Prop} {h qv qp ql qg n sh sq SL mc ms cells slots : Nat} {P : Int32} {V pr le gr : Nat → Int32} {bs : List Int8} {post : va_W → Prop} (C : cx p s m args meth c cX0_writeTo 5 none RX0 "writeTo") (hn : n ≤ 48) (hk : bs.length + 628 ≤ SL) (hL : SL < 2 ^ 30) (hcm : cells ≤ mc) (hsm : slots ≤ ms) (hp : ∀ (f : Nat → Int32) (B : List Int8), by_at f B → B = bs ++ encB P n V le gr → post (btW Z h qv qp ql qg P (nI n) V pr le gr ++ skW Z sh sq SL f (nI B.length))) : ∀ (k c0 : Nat) (B : List Int8) (f : Nat → Int32), c0 + k = 3 → B = bs ++ ([(84 : Int32).toInt8, P.toInt8, (nI n).toInt8] ++ colsE V le gr n c0) → by_at f B → ∀ (H : Heap) (locs : List Loc) (ls : Array Slot), wd Z A s (btW Z h qv qp ql qg P (nI n) V pr le gr ++ skW Z sh sq SL f (nI B.length)) H locs → lv_has ls 5 [(3, .int (nI c0)), (2, .int (nI bs.length)), (0, .ref h), (1, .ref sh)] → W p l e ({ frames := 3, cells := mc, slots := ms, locals := 95 }) s m args below meth c H locs cells slots (MQ below (va_Qv post (mB Z A) A) args s mc ms A) (F0 m 36 ls []) := by
  have hx := C.1
  have hb := C.2.1
  have hown := C.2.2.2.2.2.1
  have hts := C.2.2.2.2.2.2.1
  intro k
  induction k with
  | zero =>
    intro c0 B f hc0 hB hf H locs ls G hl
    have hle := colsE_le V le gr n hn c0
    have hBl : B.length = bs.length + (3 + (colsE V le gr n c0).length) := by rw [hB]; simp only [List.length_append]; rfl
    have hwy := swW_lt (col V c0 n)
    have e0 : c0 = 3 := by omega
    rw [e0] at hB
    refine lv_iload_n hx hb dX0_writeTo_36 rfl (lv_at hl 0 rfl) ?_
    refine lv_iconst (v := 3) hx hb dX0_writeTo_37 (by decide) ?_
    refine lv_icmp_ge (tgt := 109) hx hb dX0_writeTo_38 (by decide) (fun c_38 => ?_) (fun c_38 => ?_)
    · refine lv_aload_n hx hb dX0_writeTo_109 rfl (lv_at hl 3 rfl) ?_
      refine lv_iload_n hx hb dX0_writeTo_110 rfl (lv_at hl 1 rfl) ?_
      have hX : List.Perm ([(h, .inr (1, [.int P, .int (nI n), .ref qv, .ref qp, .ref ql, .ref qg])), (qv, aI Z 144 V), (qp, aI Z 3 pr), (ql, aI Z 3 le), (qg, aI Z 3 gr), (sh, .inr (7, [.ref sq, .int (nI B.length)])), (sq, aB Z SL f)]) ([(sh, .inr (7, [.ref sq, .int (nI B.length)])), (sq, aB Z SL f)] ++ ([(h, .inr (1, [.int P, .int (nI n), .ref qv, .ref qp, .ref ql, .ref qg])), (qv, aI Z 144 V), (qp, aI Z 3 pr), (ql, aI Z 3 le), (qg, aI Z 3 gr)])) := (perm_ix [5, 6, 0, 1, 2, 3, 4] rfl 7 (by decide) rfl)
      refine kc_v (Wc := [(sh, .inr (7, [.ref sq, .int (nI B.length)])), (sq, aB Z SL f)]) (Wr := [(h, .inr (1, [.int P, .int (nI n), .ref qv, .ref qp, .ref ql, .ref qg])), (qv, aI Z 144 V), (qp, aI Z 3 pr), (ql, aI Z 3 le), (qg, aI Z 3 gr)]) G hX (krV 1 rfl (As := [.int (nI bs.length)]) (rest := []) (ci := 7) (CC := RX6) (T := TX6) (N := 2) C G hX (c_X6_check Z l sh sq SL bs.length f B hf (by omega) (by omega) (by omega) _) (gdV ml_X0_79 im_X6_check se_X6_check ii_X6 co_X6_check) (by decide +kernel) ⟨Nat.le_of_ble_eq_true rfl, Nat.le_of_ble_eq_true rfl⟩ rfl 0 rfl hl rfl (Nat.le_of_ble_eq_true rfl) ⟨hcm, hsm⟩ dX0_writeTo_111) (fun u H locs hu G => ?_)
      obtain ⟨f6, hf6, rfl⟩ := hu
      have G : wd Z A s ([(h, .inr (1, [.int P, .int (nI n), .ref qv, .ref qp, .ref ql, .ref qg])), (qv, aI Z 144 V), (qp, aI Z 3 pr), (ql, aI Z 3 le), (qg, aI Z 3 gr), (sh, .inr (7, [.ref sq, .int (nI (B.length + 4))])), (sq, aB Z SL f6)]) H locs := G.perm (perm_ix [2, 3, 4, 5, 6, 0, 1] rfl 7 (by decide) rfl)
      obtain ⟨B6, eB6⟩ : ∃ b, b = B ++ u4b (crc (B.drop bs.length)) := ⟨_, rfl⟩
      rw [← eB6] at hf6
      have lB6 : B.length + 4 = B6.length := by rw [eB6, List.length_append]; rfl
      rw [lB6] at G
      exact kr_v C G (hp f6 B6 hf6 (by rw [eB6, hB, List.drop_left, encB, bodyB, List.append_assoc])) hcm hsm dX0_writeTo_114
    · exact absurd (show nI 3 ≤ nI c0 from nI_le (by omega) (by omega)) c_38
  | succ k ih =>
    intro c0 B f hc0 hB hf H locs ls G hl
    have hc : c0 < 3 := by omega
    have hle := colsE_le V le gr n hn c0
    have hBl : B.length = bs.length + (3 + (colsE V le gr n c0).length) := by rw [hB]; simp only [List.length_append]; rfl
    have hwy := swW_lt (col V c0 n)
    refine lv_iload_n hx hb dX0_writeTo_36 rfl (lv_at hl 0 rfl) ?_
    refine lv_iconst (v := 3) hx hb dX0_writeTo_37 (by decide) ?_
    refine lv_icmp_ge (tgt := 109) hx hb dX0_writeTo_38 (by decide) (fun c_38 => ?_) (fun c_38 => ?_)
    · exact absurd (show nI 3 ≤ nI c0 from c_38) (nI_ge (by omega) (by omega))
    · refine lv_aload_n hx hb dX0_writeTo_41 rfl (lv_at hl 2 rfl) ?_
      refine lv_iload_n hx hb dX0_writeTo_42 rfl (lv_at hl 0 rfl) ?_
      have hX : List.Perm ([(h, .inr (1, [.int P, .int (nI n), .ref qv, .ref qp, .ref ql, .ref qg])), (qv, aI Z 144 V), (qp, aI Z 3 pr), (ql, aI Z 3 le), (qg, aI Z 3 gr), (sh, .inr (7, [.ref sq, .int (nI B.length)])), (sq, aB Z SL f)]) ([(h, .inr (1, [.int P, .int (nI n), .ref qv, .ref qp, .ref ql, .ref qg])), (qv, aI Z 144 V), (qp, aI Z 3 pr), (ql, aI Z 3 le), (qg, aI Z 3 gr)] ++ ([(sh, .inr (7, [.ref sq, .int (nI B.length)])), (sq, aB Z SL f)])) := (perm_ix [0, 1, 2, 3, 4, 5, 6] rfl 7 (by decide) rfl)
      refine kc_i (Wc := [(h, .inr (1, [.int P, .int (nI n), .ref qv, .ref qp, .ref ql, .ref qg])), (qv, aI Z 144 V), (qp, aI Z 3 pr), (ql, aI Z 3 le), (qg, aI Z 3 gr)]) (Wr := [(sh, .inr (7, [.ref sq, .int (nI B.length)])), (sq, aB Z SL f)]) G hX (krV 1 rfl (As := [.int (nI c0)]) (rest := []) (ci := 1) (CC := RX0) (T := TX0) (N := 6) C G hX (c_X0_shortestWay Z l h qv qp ql qg c0 n P V pr le gr hc hn _) (gdV ml_X0_61 im_X0_shortestWay se_X0_shortestWay ii_X0 co_X0_shortestWay) (by decide +kernel) ⟨Nat.le_of_ble_eq_true rfl, Nat.le_of_ble_eq_true rfl⟩ rfl 0 rfl hl rfl (Nat.le_of_ble_eq_true rfl) ⟨hcm, hsm⟩ dX0_writeTo_43) (fun r_43 u H locs hu G => ?_)
      obtain ⟨r_43_e, rfl⟩ := hu
      subst r_43_e
      have G : wd Z A s ([(h, .inr (1, [.int P, .int (nI n), .ref qv, .ref qp, .ref ql, .ref qg])), (qv, aI Z 144 V), (qp, aI Z 3 pr), (ql, aI Z 3 le), (qg, aI Z 3 gr), (sh, .inr (7, [.ref sq, .int (nI B.length)])), (sq, aB Z SL f)]) H locs := G
      refine lv_istore (lv' := [(4, .int (nI (swW (col V c0 n)))), (3, .int (nI c0)), (2, .int (nI bs.length)), (0, .ref h), (1, .ref sh)]) hx hb dX0_writeTo_46 hl (by decide) rfl (fun ls hl => ?_)
      refine lv_aload_n hx hb dX0_writeTo_48 rfl (lv_at hl 4 rfl) ?_
      refine lv_iload hx hb dX0_writeTo_49 (lv_at hl 0 rfl) ?_
      have hX : List.Perm ([(h, .inr (1, [.int P, .int (nI n), .ref qv, .ref qp, .ref ql, .ref qg])), (qv, aI Z 144 V), (qp, aI Z 3 pr), (ql, aI Z 3 le), (qg, aI Z 3 gr), (sh, .inr (7, [.ref sq, .int (nI B.length)])), (sq, aB Z SL f)]) ([(sh, .inr (7, [.ref sq, .int (nI B.length)])), (sq, aB Z SL f)] ++ ([(h, .inr (1, [.int P, .int (nI n), .ref qv, .ref qp, .ref ql, .ref qg])), (qv, aI Z 144 V), (qp, aI Z 3 pr), (ql, aI Z 3 le), (qg, aI Z 3 gr)])) := (perm_ix [5, 6, 0, 1, 2, 3, 4] rfl 7 (by decide) rfl)
      refine kc_v (Wc := [(sh, .inr (7, [.ref sq, .int (nI B.length)])), (sq, aB Z SL f)]) (Wr := [(h, .inr (1, [.int P, .int (nI n), .ref qv, .ref qp, .ref ql, .ref qg])), (qv, aI Z 144 V), (qp, aI Z 3 pr), (ql, aI Z 3 le), (qg, aI Z 3 gr)]) G hX (krV 1 rfl (As := [.int (nI (swW (col V c0 n)))]) (rest := []) (ci := 7) (CC := RX6) (T := TX6) (N := 2) C G hX (c_X6_u1 Z l sh sq SL f B (nI (swW (col V c0 n))) hf (by omega) (by omega) _) (gdV ml_X0_58 im_X6_u1 se_X6_u1 ii_X6 co_X6_u1) (by decide +kernel) ⟨Nat.le_of_ble_eq_true rfl, Nat.le_of_ble_eq_true rfl⟩ rfl 0 rfl hl rfl (Nat.le_of_ble_eq_true rfl) ⟨hcm, hsm⟩ dX0_writeTo_51) (fun u H locs hu G => ?_)
      obtain ⟨f1, hf1, rfl⟩ := hu
      have G : wd Z A s ([(h, .inr (1, [.int P, .int (nI n), .ref qv, .ref qp, .ref ql, .ref qg])), (qv, aI Z 144 V), (qp, aI Z 3 pr), (ql, aI Z 3 le), (qg, aI Z 3 gr), (sh, .inr (7, [.ref sq, .int (nI (B.length + 1))])), (sq, aB Z SL f1)]) H locs := G.perm (perm_ix [2, 3, 4, 5, 6, 0, 1] rfl 7 (by decide) rfl)
      obtain ⟨B1, eB1⟩ : ∃ b, b = B ++ [(nI (swW (col V c0 n))).toInt8] := ⟨_, rfl⟩
      rw [← eB1] at hf1
      have lB1 : B.length + 1 = B1.length := by rw [eB1, List.length_append]; rfl
      rw [lB1] at G
      refine lv_aload_n hx hb dX0_writeTo_54 rfl (lv_at hl 3 rfl) ?_
      refine lv_aload_n hx hb dX0_writeTo_55 rfl (lv_at hl 4 rfl) ?_
      refine lv_iload_n hx hb dX0_writeTo_56 rfl (lv_at hl 1 rfl) ?_
      have hX : List.Perm ([(h, .inr (1, [.int P, .int (nI n), .ref qv, .ref qp, .ref ql, .ref qg])), (qv, aI Z 144 V), (qp, aI Z 3 pr), (ql, aI Z 3 le), (qg, aI Z 3 gr), (sh, .inr (7, [.ref sq, .int (nI B1.length)])), (sq, aB Z SL f1)]) ([(h, .inr (1, [.int P, .int (nI n), .ref qv, .ref qp, .ref ql, .ref qg])), (qv, aI Z 144 V), (qp, aI Z 3 pr), (ql, aI Z 3 le), (qg, aI Z 3 gr), (sh, .inr (7, [.ref sq, .int (nI B1.length)])), (sq, aB Z SL f1)] ++ ([])) := (perm_ix [0, 1, 2, 3, 4, 5, 6] rfl 7 (by decide) rfl)
      refine kc_v (Wc := [(h, .inr (1, [.int P, .int (nI n), .ref qv, .ref qp, .ref ql, .ref qg])), (qv, aI Z 144 V), (qp, aI Z 3 pr), (ql, aI Z 3 le), (qg, aI Z 3 gr), (sh, .inr (7, [.ref sq, .int (nI B1.length)])), (sq, aB Z SL f1)]) (Wr := []) G hX (krV 2 rfl (As := [.ref sh, .int (nI c0)]) (rest := []) (ci := 1) (CC := RX0) (T := TX0) (N := 6) C G hX (c_X0_writeMissing Z l h qv qp ql qg c0 n sh sq SL P V pr le gr f1 B1 hc hn hf1 (by omega) (by omega) _) (gdV ml_X0_65 im_X0_writeMissing se_X0_writeMissing ii_X0 co_X0_writeMissing) (by decide +kernel) ⟨Nat.le_of_ble_eq_true rfl, Nat.le_of_ble_eq_true rfl⟩ rfl 0 rfl hl rfl (Nat.le_of_ble_eq_true rfl) ⟨hcm, hsm⟩ dX0_writeTo_57) (fun u H locs hu G => ?_)
      obtain ⟨f2, hf2, rfl⟩ := hu
      have G : wd Z A s ([(h, .inr (1, [.int P, .int (nI n), .ref qv, .ref qp, .ref ql, .ref qg])), (qv, aI Z 144 V), (qp, aI Z 3 pr), (ql, aI Z 3 le), (qg, aI Z 3 gr), (sh, .inr (7, [.ref sq, .int (nI (B1.length + (n + 7) / 8))])), (sq, aB Z SL f2)]) H locs := G.perm (perm_ix [0, 1, 2, 3, 4, 5, 6] rfl 7 (by decide) rfl)
      obtain ⟨B2, eB2⟩ : ∃ b, b = B1 ++ mBs V c0 n ((n + 7) / 8) := ⟨_, rfl⟩
      rw [← eB2] at hf2
      have lB2 : B1.length + (n + 7) / 8 = B2.length := by rw [eB2, List.length_append]; rw [mBs_len]
      rw [lB2] at G
      refine lv_iload hx hb dX0_writeTo_60 (lv_at hl 0 rfl) ?_
      refine lv_iconst (v := 1) hx hb dX0_writeTo_62 (by decide) ?_
      refine lv_icmp_ne (tgt := 75) hx hb dX0_writeTo_63 (by decide) (fun c_63 => ?_) (fun c_63 => ?_)
      · have hw1 : ¬ swW (col V c0 n) = 1 := fun z => c_63 (by rw [z]; rfl)
        have hpy := pay_le V c0 n
        rw [pay, if_neg hw1] at hpy
        refine lv_aload_n hx hb dX0_writeTo_75 rfl (lv_at hl 3 rfl) ?_
        refine lv_aload_n hx hb dX0_writeTo_76 rfl (lv_at hl 4 rfl) ?_
        refine lv_iload_n hx hb dX0_writeTo_77 rfl (lv_at hl 1 rfl) ?_
        refine lv_iload hx hb dX0_writeTo_78 (lv_at hl 0 rfl) ?_
        have hX : List.Perm ([(h, .inr (1, [.int P, .int (nI n), .ref qv, .ref qp, .ref ql, .ref qg])), (qv, aI Z 144 V), (qp, aI Z 3 pr), (ql, aI Z 3 le), (qg, aI Z 3 gr), (sh, .inr (7, [.ref sq, .int (nI B2.length)])), (sq, aB Z SL f2)]) ([(h, .inr (1, [.int P, .int (nI n), .ref qv, .ref qp, .ref ql, .ref qg])), (qv, aI Z 144 V), (qp, aI Z 3 pr), (ql, aI Z 3 le), (qg, aI Z 3 gr), (sh, .inr (7, [.ref sq, .int (nI B2.length)])), (sq, aB Z SL f2)] ++ ([])) := (perm_ix [0, 1, 2, 3, 4, 5, 6] rfl 7 (by decide) rfl)
        refine kc_v (Wc := [(h, .inr (1, [.int P, .int (nI n), .ref qv, .ref qp, .ref ql, .ref qg])), (qv, aI Z 144 V), (qp, aI Z 3 pr), (ql, aI Z 3 le), (qg, aI Z 3 gr), (sh, .inr (7, [.ref sq, .int (nI B2.length)])), (sq, aB Z SL f2)]) (Wr := []) G hX (krV 3 rfl (As := [.ref sh, .int (nI c0), .int (nI (swW (col V c0 n)))]) (rest := []) (ci := 1) (CC := RX0) (T := TX0) (N := 6) C G hX (c_X0_writeOneByOne Z l h qv qp ql qg c0 n sh sq SL (swW (col V c0 n)) hwy P V pr le gr f2 B2 hc hn hf2 (by omega) (by omega) _) (gdV ml_X0_72 im_X0_writeOneByOne se_X0_writeOneByOne ii_X0 co_X0_writeOneByOne) (by decide +kernel) ⟨Nat.le_of_ble_eq_true rfl, Nat.le_of_ble_eq_true rfl⟩ rfl 0 rfl hl rfl (Nat.le_of_ble_eq_true rfl) ⟨hcm, hsm⟩ dX0_writeTo_80) (fun u H locs hu G => ?_)
        obtain ⟨f3, hf3, rfl⟩ := hu
        have G : wd Z A s ([(h, .inr (1, [.int P, .int (nI n), .ref qv, .ref qp, .ref ql, .ref qg])), (qv, aI Z 144 V), (qp, aI Z 3 pr), (ql, aI Z 3 le), (qg, aI Z 3 gr), (sh, .inr (7, [.ref sq, .int (nI (B2.length + (obB (swW (col V c0 n)) (col V c0 n)).length))])), (sq, aB Z SL f3)]) H locs := G.perm (perm_ix [0, 1, 2, 3, 4, 5, 6] rfl 7 (by decide) rfl)
        obtain ⟨B3, eB3⟩ : ∃ b, b = B2 ++ obB (swW (col V c0 n)) (col V c0 n) := ⟨_, rfl⟩
        rw [← eB3] at hf3
        have lB3 : B2.length + (obB (swW (col V c0 n)) (col V c0 n)).length = B3.length := by rw [eB3, List.length_append]
        rw [lB3] at G
        refine lv_aload_n hx hb dX0_writeTo_83 rfl (lv_at hl 4 rfl) ?_
        refine lv_aload_n hx hb dX0_writeTo_84 rfl (lv_at hl 3 rfl) ?_
        refine k_get (ci := 1) (CC := RX0) (T := TX0) (N := 6) (v := .ref ql) C G 0 rfl rfl in_1 4 (by decide) fl_X0_18 rfl rfl dX0_writeTo_85 ?_
        refine lv_iload_n hx hb dX0_writeTo_88 rfl (lv_at hl 1 rfl) ?_
        have h_89 : vp_in (nI c0) 3 := by exact vp_in_nI (by omega) (by omega)
        refine k_iald C G 3 rfl h_89 dX0_writeTo_89 ?_
        refine k_topi (y := le c0) (by rw [nI_clamp (by omega)]) ?_
        have hX : List.Perm ([(h, .inr (1, [.int P, .int (nI n), .ref qv, .ref qp, .ref ql, .ref qg])), (qv, aI Z 144 V), (qp, aI Z 3 pr), (ql, aI Z 3 le), (qg, aI Z 3 gr), (sh, .inr (7, [.ref sq, .int (nI B3.length)])), (sq, aB Z SL f3)]) ([(sh, .inr (7, [.ref sq, .int (nI B3.length)])), (sq, aB Z SL f3)] ++ ([(h, .inr (1, [.int P, .int (nI n), .ref qv, .ref qp, .ref ql, .ref qg])), (qv, aI Z 144 V), (qp, aI Z 3 pr), (ql, aI Z 3 le), (qg, aI Z 3 gr)])) := (perm_ix [5, 6, 0, 1, 2, 3, 4] rfl 7 (by decide) rfl)
        refine kc_v (Wc := [(sh, .inr (7, [.ref sq, .int (nI B3.length)])), (sq, aB Z SL f3)]) (Wr := [(h, .inr (1, [.int P, .int (nI n), .ref qv, .ref qp, .ref ql, .ref qg])), (qv, aI Z 144 V), (qp, aI Z 3 pr), (ql, aI Z 3 le), (qg, aI Z 3 gr)]) G hX (krV 1 rfl (As := [.int (le c0)]) (rest := []) (ci := 7) (CC := RX6) (T := TX6) (N := 2) C G hX (c_X6_u4 Z l sh sq SL f3 B3 (le c0) hf3 (by omega) (by omega) _) (gdV ml_X0_76 im_X6_u4 se_X6_u4 ii_X6 co_X6_u4) (by decide +kernel) ⟨Nat.le_of_ble_eq_true rfl, Nat.le_of_ble_eq_true rfl⟩ rfl 0 rfl hl rfl (Nat.le_of_ble_eq_true rfl) ⟨hcm, hsm⟩ dX0_writeTo_90) (fun u H locs hu G => ?_)
        obtain ⟨f4, hf4, rfl⟩ := hu
        have G : wd Z A s ([(h, .inr (1, [.int P, .int (nI n), .ref qv, .ref qp, .ref ql, .ref qg])), (qv, aI Z 144 V), (qp, aI Z 3 pr), (ql, aI Z 3 le), (qg, aI Z 3 gr), (sh, .inr (7, [.ref sq, .int (nI (B3.length + 4))])), (sq, aB Z SL f4)]) H locs := G.perm (perm_ix [2, 3, 4, 5, 6, 0, 1] rfl 7 (by decide) rfl)
        obtain ⟨B4, eB4⟩ : ∃ b, b = B3 ++ u4b (le c0) := ⟨_, rfl⟩
        rw [← eB4] at hf4
        have lB4 : B3.length + 4 = B4.length := by rw [eB4, List.length_append]; rfl
        rw [lB4] at G
        refine lv_aload_n hx hb dX0_writeTo_93 rfl (lv_at hl 4 rfl) ?_
        refine lv_aload_n hx hb dX0_writeTo_94 rfl (lv_at hl 3 rfl) ?_
        refine k_get (ci := 1) (CC := RX0) (T := TX0) (N := 6) (v := .ref qg) C G 0 rfl rfl in_1 5 (by decide) fl_X0_21 rfl rfl dX0_writeTo_95 ?_
        refine lv_iload_n hx hb dX0_writeTo_98 rfl (lv_at hl 1 rfl) ?_
        have h_99 : vp_in (nI c0) 3 := by exact vp_in_nI (by omega) (by omega)
        refine k_iald C G 4 rfl h_99 dX0_writeTo_99 ?_
        refine k_topi (y := gr c0) (by rw [nI_clamp (by omega)]) ?_
        have hX : List.Perm ([(h, .inr (1, [.int P, .int (nI n), .ref qv, .ref qp, .ref ql, .ref qg])), (qv, aI Z 144 V), (qp, aI Z 3 pr), (ql, aI Z 3 le), (qg, aI Z 3 gr), (sh, .inr (7, [.ref sq, .int (nI B4.length)])), (sq, aB Z SL f4)]) ([(sh, .inr (7, [.ref sq, .int (nI B4.length)])), (sq, aB Z SL f4)] ++ ([(h, .inr (1, [.int P, .int (nI n), .ref qv, .ref qp, .ref ql, .ref qg])), (qv, aI Z 144 V), (qp, aI Z 3 pr), (ql, aI Z 3 le), (qg, aI Z 3 gr)])) := (perm_ix [5, 6, 0, 1, 2, 3, 4] rfl 7 (by decide) rfl)
        refine kc_v (Wc := [(sh, .inr (7, [.ref sq, .int (nI B4.length)])), (sq, aB Z SL f4)]) (Wr := [(h, .inr (1, [.int P, .int (nI n), .ref qv, .ref qp, .ref ql, .ref qg])), (qv, aI Z 144 V), (qp, aI Z 3 pr), (ql, aI Z 3 le), (qg, aI Z 3 gr)]) G hX (krV 1 rfl (As := [.int (gr c0)]) (rest := []) (ci := 7) (CC := RX6) (T := TX6) (N := 2) C G hX (c_X6_u4 Z l sh sq SL f4 B4 (gr c0) hf4 (by omega) (by omega) _) (gdV ml_X0_76 im_X6_u4 se_X6_u4 ii_X6 co_X6_u4) (by decide +kernel) ⟨Nat.le_of_ble_eq_true rfl, Nat.le_of_ble_eq_true rfl⟩ rfl 0 rfl hl rfl (Nat.le_of_ble_eq_true rfl) ⟨hcm, hsm⟩ dX0_writeTo_100) (fun u H locs hu G => ?_)
        obtain ⟨f5, hf5, rfl⟩ := hu
        have G : wd Z A s ([(h, .inr (1, [.int P, .int (nI n), .ref qv, .ref qp, .ref ql, .ref qg])), (qv, aI Z 144 V), (qp, aI Z 3 pr), (ql, aI Z 3 le), (qg, aI Z 3 gr), (sh, .inr (7, [.ref sq, .int (nI (B4.length + 4))])), (sq, aB Z SL f5)]) H locs := G.perm (perm_ix [2, 3, 4, 5, 6, 0, 1] rfl 7 (by decide) rfl)
        obtain ⟨B5, eB5⟩ : ∃ b, b = B4 ++ u4b (gr c0) := ⟨_, rfl⟩
        rw [← eB5] at hf5
        have lB5 : B4.length + 4 = B5.length := by rw [eB5, List.length_append]; rfl
        rw [lB5] at G
        refine lv_iinc (v := nI (c0 + 1)) (lv' := [(3, .int (nI (c0 + 1))), (4, .int (nI (swW (col V c0 n)))), (2, .int (nI bs.length)), (0, .ref h), (1, .ref sh)]) hx hb dX0_writeTo_103 hl (k := 1) rfl (nI_1 _) (by decide) rfl (fun ls hl => ?_)
        refine lv_goto (tgt := 36) hx hb dX0_writeTo_106 (by decide) ?_
        exact ih (c0 + 1) B5 f5 (by omega) (by rw [eB5, eB4, eB3, eB2, eB1, hB, colsE, encC, pay, if_neg hw1, List.append_assoc, List.append_assoc, List.append_assoc, List.append_assoc, List.append_assoc, List.append_assoc]; simp only [List.append_assoc]) hf5 _ _ _ G (lv_sub hl [0, 2, 3, 4] rfl)
      · have hw1 : swW (col V c0 n) = 1 := (nI_eq (by omega) (by omega)).mp c_63
        have hpy := pay_le V c0 n
        rw [pay, if_pos hw1] at hpy
        have hrn : (rnB (col V c0 n)).length = (swF (col V c0 n)).2.1 := (rn_sw n V c0).1
        refine lv_aload_n hx hb dX0_writeTo_66 rfl (lv_at hl 3 rfl) ?_
        refine lv_aload_n hx hb dX0_writeTo_67 rfl (lv_at hl 4 rfl) ?_
        refine lv_iload_n hx hb dX0_writeTo_68 rfl (lv_at hl 1 rfl) ?_
        have hX : List.Perm ([(h, .inr (1, [.int P, .int (nI n), .ref qv, .ref qp, .ref ql, .ref qg])), (qv, aI Z 144 V), (qp, aI Z 3 pr), (ql, aI Z 3 le), (qg, aI Z 3 gr), (sh, .inr (7, [.ref sq, .int (nI B2.length)])), (sq, aB Z SL f2)]) ([(h, .inr (1, [.int P, .int (nI n), .ref qv, .ref qp, .ref ql, .ref qg])), (qv, aI Z 144 V), (qp, aI Z 3 pr), (ql, aI Z 3 le), (qg, aI Z 3 gr), (sh, .inr (7, [.ref sq, .int (nI B2.length)])), (sq, aB Z SL f2)] ++ ([])) := (perm_ix [0, 1, 2, 3, 4, 5, 6] rfl 7 (by decide) rfl)
        refine kc_v (Wc := [(h, .inr (1, [.int P, .int (nI n), .ref qv, .ref qp, .ref ql, .ref qg])), (qv, aI Z 144 V), (qp, aI Z 3 pr), (ql, aI Z 3 le), (qg, aI Z 3 gr), (sh, .inr (7, [.ref sq, .int (nI B2.length)])), (sq, aB Z SL f2)]) (Wr := []) G hX (krV 2 rfl (As := [.ref sh, .int (nI c0)]) (rest := []) (ci := 1) (CC := RX0) (T := TX0) (N := 6) C G hX (c_X0_writeRuns Z l h qv qp ql qg c0 n sh sq SL P V pr le gr f2 B2 hc hn hf2 (by omega) (by omega) _) (gdV ml_X0_69 im_X0_writeRuns se_X0_writeRuns ii_X0 co_X0_writeRuns) (by decide +kernel) ⟨Nat.le_of_ble_eq_true rfl, Nat.le_of_ble_eq_true rfl⟩ rfl 0 rfl hl rfl (Nat.le_of_ble_eq_true rfl) ⟨hcm, hsm⟩ dX0_writeTo_69) (fun u H locs hu G => ?_)
        obtain ⟨f3, hf3, rfl⟩ := hu
        have G : wd Z A s ([(h, .inr (1, [.int P, .int (nI n), .ref qv, .ref qp, .ref ql, .ref qg])), (qv, aI Z 144 V), (qp, aI Z 3 pr), (ql, aI Z 3 le), (qg, aI Z 3 gr), (sh, .inr (7, [.ref sq, .int (nI (B2.length + (rnB (col V c0 n)).length))])), (sq, aB Z SL f3)]) H locs := G.perm (perm_ix [0, 1, 2, 3, 4, 5, 6] rfl 7 (by decide) rfl)
        obtain ⟨B3, eB3⟩ : ∃ b, b = B2 ++ rnB (col V c0 n) := ⟨_, rfl⟩
        rw [← eB3] at hf3
        have lB3 : B2.length + (rnB (col V c0 n)).length = B3.length := by rw [eB3, List.length_append]
        rw [lB3] at G
        refine lv_goto (tgt := 83) hx hb dX0_writeTo_72 (by decide) ?_
        refine lv_aload_n hx hb dX0_writeTo_83 rfl (lv_at hl 4 rfl) ?_
        refine lv_aload_n hx hb dX0_writeTo_84 rfl (lv_at hl 3 rfl) ?_
        refine k_get (ci := 1) (CC := RX0) (T := TX0) (N := 6) (v := .ref ql) C G 0 rfl rfl in_1 4 (by decide) fl_X0_18 rfl rfl dX0_writeTo_85 ?_
        refine lv_iload_n hx hb dX0_writeTo_88 rfl (lv_at hl 1 rfl) ?_
        have h_89 : vp_in (nI c0) 3 := by exact vp_in_nI (by omega) (by omega)
        refine k_iald C G 3 rfl h_89 dX0_writeTo_89 ?_
        refine k_topi (y := le c0) (by rw [nI_clamp (by omega)]) ?_
        have hX : List.Perm ([(h, .inr (1, [.int P, .int (nI n), .ref qv, .ref qp, .ref ql, .ref qg])), (qv, aI Z 144 V), (qp, aI Z 3 pr), (ql, aI Z 3 le), (qg, aI Z 3 gr), (sh, .inr (7, [.ref sq, .int (nI B3.length)])), (sq, aB Z SL f3)]) ([(sh, .inr (7, [.ref sq, .int (nI B3.length)])), (sq, aB Z SL f3)] ++ ([(h, .inr (1, [.int P, .int (nI n), .ref qv, .ref qp, .ref ql, .ref qg])), (qv, aI Z 144 V), (qp, aI Z 3 pr), (ql, aI Z 3 le), (qg, aI Z 3 gr)])) := (perm_ix [5, 6, 0, 1, 2, 3, 4] rfl 7 (by decide) rfl)
        refine kc_v (Wc := [(sh, .inr (7, [.ref sq, .int (nI B3.length)])), (sq, aB Z SL f3)]) (Wr := [(h, .inr (1, [.int P, .int (nI n), .ref qv, .ref qp, .ref ql, .ref qg])), (qv, aI Z 144 V), (qp, aI Z 3 pr), (ql, aI Z 3 le), (qg, aI Z 3 gr)]) G hX (krV 1 rfl (As := [.int (le c0)]) (rest := []) (ci := 7) (CC := RX6) (T := TX6) (N := 2) C G hX (c_X6_u4 Z l sh sq SL f3 B3 (le c0) hf3 (by omega) (by omega) _) (gdV ml_X0_76 im_X6_u4 se_X6_u4 ii_X6 co_X6_u4) (by decide +kernel) ⟨Nat.le_of_ble_eq_true rfl, Nat.le_of_ble_eq_true rfl⟩ rfl 0 rfl hl rfl (Nat.le_of_ble_eq_true rfl) ⟨hcm, hsm⟩ dX0_writeTo_90) (fun u H locs hu G => ?_)
        obtain ⟨f4, hf4, rfl⟩ := hu
        have G : wd Z A s ([(h, .inr (1, [.int P, .int (nI n), .ref qv, .ref qp, .ref ql, .ref qg])), (qv, aI Z 144 V), (qp, aI Z 3 pr), (ql, aI Z 3 le), (qg, aI Z 3 gr), (sh, .inr (7, [.ref sq, .int (nI (B3.length + 4))])), (sq, aB Z SL f4)]) H locs := G.perm (perm_ix [2, 3, 4, 5, 6, 0, 1] rfl 7 (by decide) rfl)
        obtain ⟨B4, eB4⟩ : ∃ b, b = B3 ++ u4b (le c0) := ⟨_, rfl⟩
        rw [← eB4] at hf4
        have lB4 : B3.length + 4 = B4.length := by rw [eB4, List.length_append]; rfl
        rw [lB4] at G
        refine lv_aload_n hx hb dX0_writeTo_93 rfl (lv_at hl 4 rfl) ?_
        refine lv_aload_n hx hb dX0_writeTo_94 rfl (lv_at hl 3 rfl) ?_
        refine k_get (ci := 1) (CC := RX0) (T := TX0) (N := 6) (v := .ref qg) C G 0 rfl rfl in_1 5 (by decide) fl_X0_21 rfl rfl dX0_writeTo_95 ?_
        refine lv_iload_n hx hb dX0_writeTo_98 rfl (lv_at hl 1 rfl) ?_
        have h_99 : vp_in (nI c0) 3 := by exact vp_in_nI (by omega) (by omega)
        refine k_iald C G 4 rfl h_99 dX0_writeTo_99 ?_
        refine k_topi (y := gr c0) (by rw [nI_clamp (by omega)]) ?_
        have hX : List.Perm ([(h, .inr (1, [.int P, .int (nI n), .ref qv, .ref qp, .ref ql, .ref qg])), (qv, aI Z 144 V), (qp, aI Z 3 pr), (ql, aI Z 3 le), (qg, aI Z 3 gr), (sh, .inr (7, [.ref sq, .int (nI B4.length)])), (sq, aB Z SL f4)]) ([(sh, .inr (7, [.ref sq, .int (nI B4.length)])), (sq, aB Z SL f4)] ++ ([(h, .inr (1, [.int P, .int (nI n), .ref qv, .ref qp, .ref ql, .ref qg])), (qv, aI Z 144 V), (qp, aI Z 3 pr), (ql, aI Z 3 le), (qg, aI Z 3 gr)])) := (perm_ix [5, 6, 0, 1, 2, 3, 4] rfl 7 (by decide) rfl)
        refine kc_v (Wc := [(sh, .inr (7, [.ref sq, .int (nI B4.length)])), (sq, aB Z SL f4)]) (Wr := [(h, .inr (1, [.int P, .int (nI n), .ref qv, .ref qp, .ref ql, .ref qg])), (qv, aI Z 144 V), (qp, aI Z 3 pr), (ql, aI Z 3 le), (qg, aI Z 3 gr)]) G hX (krV 1 rfl (As := [.int (gr c0)]) (rest := []) (ci := 7) (CC := RX6) (T := TX6) (N := 2) C G hX (c_X6_u4 Z l sh sq SL f4 B4 (gr c0) hf4 (by omega) (by omega) _) (gdV ml_X0_76 im_X6_u4 se_X6_u4 ii_X6 co_X6_u4) (by decide +kernel) ⟨Nat.le_of_ble_eq_true rfl, Nat.le_of_ble_eq_true rfl⟩ rfl 0 rfl hl rfl (Nat.le_of_ble_eq_true rfl) ⟨hcm, hsm⟩ dX0_writeTo_100) (fun u H locs hu G => ?_)
        obtain ⟨f5, hf5, rfl⟩ := hu
        have G : wd Z A s ([(h, .inr (1, [.int P, .int (nI n), .ref qv, .ref qp, .ref ql, .ref qg])), (qv, aI Z 144 V), (qp, aI Z 3 pr), (ql, aI Z 3 le), (qg, aI Z 3 gr), (sh, .inr (7, [.ref sq, .int (nI (B4.length + 4))])), (sq, aB Z SL f5)]) H locs := G.perm (perm_ix [2, 3, 4, 5, 6, 0, 1] rfl 7 (by decide) rfl)
        obtain ⟨B5, eB5⟩ : ∃ b, b = B4 ++ u4b (gr c0) := ⟨_, rfl⟩
        rw [← eB5] at hf5
        have lB5 : B4.length + 4 = B5.length := by rw [eB5, List.length_append]; rfl
        rw [lB5] at G
        refine lv_iinc (v := nI (c0 + 1)) (lv' := [(3, .int (nI (c0 + 1))), (4, .int (nI (swW (col V c0 n)))), (2, .int (nI bs.length)), (0, .ref h), (1, .ref sh)]) hx hb dX0_writeTo_103 hl (k := 1) rfl (nI_1 _) (by decide) rfl (fun ls hl => ?_)
        refine lv_goto (tgt := 36) hx hb dX0_writeTo_106 (by decide) ?_
        exact ih (c0 + 1) B5 f5 (by omega) (by rw [eB5, eB4, eB3, eB2, eB1, hB, colsE, encC, pay, if_pos hw1, List.append_assoc, List.append_assoc, List.append_assoc, List.append_assoc, List.append_assoc, List.append_assoc]; simp only [List.append_assoc]) hf5 _ _ _ G (lv_sub hl [0, 2, 3, 4] rfl)
set_option maxRecDepth 100000 in
set_option maxHeartbeats 4000000 in
theorem c_X0_writeTo (Z : zT) (l : Launch) (h qv qp ql qg n sh sq SL : Nat) (P : Int32) (V pr le gr f : Nat → Int32) (bs : List Int8) (hn : n ≤ 48) (hf : by_at f bs) (hl0 : bs.length ≤ SL) (hL : SL < 2 ^ 27) : Kv Z l yX0_writeTo cX0_writeTo 5 none ({ frames := 3, cells := gC SL (bs.length + 628), slots := gS SL (bs.length + 628), locals := 95 }) [.ref h, .ref sh] (btW Z h qv qp ql qg P (nI n) V pr le gr ++ skW Z sh sq SL f (nI bs.length)) (fun u => ∃ q2 f2, by_at f2 (bs ++ encB P n V le gr) ∧ u = btW Z h qv qp ql qg P (nI n) V pr le gr ++ skW Z sh q2 (gL SL (bs.length + 628)) f2 (nI (bs.length + (encB P n V le gr).length))) := by
  intro sz
  refine Met.ofK (cc := cX0_writeTo) (maxL := 5) (ret := none) (by decide) (Nat.le_of_ble_eq_true rfl) ?_
  intro p e s m below meth c ls C G hl
  generalize va_A _ sz = A at G ⊢
  have hx := C.1
  have hb := C.2.1
  have hown := C.2.2.2.2.2.1
  have hts := C.2.2.2.2.2.2.1
  refine lv_aload_n hx hb dX0_writeTo_0 rfl (lv_at hl 1 rfl) ?_
  refine k_get (ci := 7) (CC := RX6) (T := TX6) (N := 2) (v := .int (nI bs.length)) C G 5 rfl rfl in_7 1 (by decide) fl_X0_49 rfl rfl dX0_writeTo_1 ?_
  refine lv_istore_n (lv' := [(2, .int (nI bs.length)), (0, .ref h), (1, .ref sh)]) hx hb dX0_writeTo_4 rfl hl (by decide) rfl (fun ls hl => ?_)
  refine lv_aload_n hx hb dX0_writeTo_5 rfl (lv_at hl 2 rfl) ?_
  refine lv_sipush (v := 628) hx hb dX0_writeTo_6 (by decide) ?_
  have hX : List.Perm ([(h, .inr (1, [.int P, .int (nI n), .ref qv, .ref qp, .ref ql, .ref qg])), (qv, aI Z 144 V), (qp, aI Z 3 pr), (ql, aI Z 3 le), (qg, aI Z 3 gr), (sh, .inr (7, [.ref sq, .int (nI bs.length)])), (sq, aB Z SL f)]) ([(sh, .inr (7, [.ref sq, .int (nI bs.length)])), (sq, aB Z SL f)] ++ ([(h, .inr (1, [.int P, .int (nI n), .ref qv, .ref qp, .ref ql, .ref qg])), (qv, aI Z 144 V), (qp, aI Z 3 pr), (ql, aI Z 3 le), (qg, aI Z 3 gr)])) := (perm_ix [5, 6, 0, 1, 2, 3, 4] rfl 7 (by decide) rfl)
  refine kc_v (Wc := [(sh, .inr (7, [.ref sq, .int (nI bs.length)])), (sq, aB Z SL f)]) (Wr := [(h, .inr (1, [.int P, .int (nI n), .ref qv, .ref qp, .ref ql, .ref qg])), (qv, aI Z 144 V), (qp, aI Z 3 pr), (ql, aI Z 3 le), (qg, aI Z 3 gr)]) G hX (krV 1 rfl (As := [.int 628]) (rest := []) (ci := 7) (CC := RX6) (T := TX6) (N := 2) C G hX (c_X6_makePlace Z l sh sq SL 628 f bs hf hl0 hL (by omega) _) (gdV ml_X0_54 im_X6_makePlace se_X6_makePlace ii_X6 co_X6_makePlace) (by decide +kernel) ⟨Nat.le_of_ble_eq_true rfl, Nat.le_of_ble_eq_true rfl⟩ rfl 0 rfl hl rfl (Nat.le_of_ble_eq_true rfl) ⟨Nat.le_of_eq (Nat.zero_add _), Nat.le_of_eq (Nat.zero_add _)⟩ dX0_writeTo_9) (fun u H locs hu G => ?_)
  obtain ⟨q2, f0, hf0, rfl⟩ := hu
  have G : wd Z A s ([(h, .inr (1, [.int P, .int (nI n), .ref qv, .ref qp, .ref ql, .ref qg])), (qv, aI Z 144 V), (qp, aI Z 3 pr), (ql, aI Z 3 le), (qg, aI Z 3 gr), (sh, .inr (7, [.ref q2, .int (nI bs.length)])), (q2, aB Z (gL SL (bs.length + 628)) f0)]) H locs := G.perm (perm_ix [2, 3, 4, 5, 6, 0, 1] rfl 7 (by decide) rfl)
  obtain ⟨S2, eS2⟩ : ∃ b, b = gL SL (bs.length + 628) := ⟨_, rfl⟩
  rw [← eS2] at G
  have hk : bs.length + 628 ≤ S2 := by rw [eS2]; exact gL_ge _ _
  have hS2 : S2 < 2 ^ 30 := by rw [eS2]; unfold gL; split <;> omega
  refine lv_aload_n hx hb dX0_writeTo_12 rfl (lv_at hl 2 rfl) ?_
  refine lv_bipush (v := 84) hx hb dX0_writeTo_13 (by decide) ?_
  have hX : List.Perm ([(h, .inr (1, [.int P, .int (nI n), .ref qv, .ref qp, .ref ql, .ref qg])), (qv, aI Z 144 V), (qp, aI Z 3 pr), (ql, aI Z 3 le), (qg, aI Z 3 gr), (sh, .inr (7, [.ref q2, .int (nI bs.length)])), (q2, aB Z S2 f0)]) ([(sh, .inr (7, [.ref q2, .int (nI bs.length)])), (q2, aB Z S2 f0)] ++ ([(h, .inr (1, [.int P, .int (nI n), .ref qv, .ref qp, .ref ql, .ref qg])), (qv, aI Z 144 V), (qp, aI Z 3 pr), (ql, aI Z 3 le), (qg, aI Z 3 gr)])) := (perm_ix [5, 6, 0, 1, 2, 3, 4] rfl 7 (by decide) rfl)
  refine kc_v (Wc := [(sh, .inr (7, [.ref q2, .int (nI bs.length)])), (q2, aB Z S2 f0)]) (Wr := [(h, .inr (1, [.int P, .int (nI n), .ref qv, .ref qp, .ref ql, .ref qg])), (qv, aI Z 144 V), (qp, aI Z 3 pr), (ql, aI Z 3 le), (qg, aI Z 3 gr)]) G hX (krV 1 rfl (As := [.int 84]) (rest := []) (ci := 7) (CC := RX6) (T := TX6) (N := 2) C G hX (c_X6_u1 Z l sh q2 S2 f0 (bs) (84 : Int32) hf0 (by omega) (by omega) _) (gdV ml_X0_58 im_X6_u1 se_X6_u1 ii_X6 co_X6_u1) (by decide +kernel) ⟨Nat.le_of_ble_eq_true rfl, Nat.le_of_ble_eq_true rfl⟩ rfl 0 rfl hl rfl (Nat.le_of_ble_eq_true rfl) ⟨Nat.le_of_eq (Nat.zero_add _), Nat.le_of_eq (Nat.zero_add _)⟩ dX0_writeTo_15) (fun u H locs hu G => ?_)
  obtain ⟨g1, hg1, rfl⟩ := hu
  have G : wd Z A s ([(h, .inr (1, [.int P, .int (nI n), .ref qv, .ref qp, .ref ql, .ref qg])), (qv, aI Z 144 V), (qp, aI Z 3 pr), (ql, aI Z 3 le), (qg, aI Z 3 gr), (sh, .inr (7, [.ref q2, .int (nI (bs.length + 1))])), (q2, aB Z S2 g1)]) H locs := G.perm (perm_ix [2, 3, 4, 5, 6, 0, 1] rfl 7 (by decide) rfl)
  have lB : bs.length + 1 = (bs ++ [(84 : Int32).toInt8]).length := by simp
  rw [lB] at G
  refine lv_aload_n hx hb dX0_writeTo_18 rfl (lv_at hl 2 rfl) ?_
  refine lv_aload_n hx hb dX0_writeTo_19 rfl (lv_at hl 1 rfl) ?_
  refine k_get (ci := 1) (CC := RX0) (T := TX0) (N := 6) (v := .int P) C G 0 rfl rfl in_1 0 (by decide) fl_X0_24 rfl rfl dX0_writeTo_20 ?_
  have hX : List.Perm ([(h, .inr (1, [.int P, .int (nI n), .ref qv, .ref qp, .ref ql, .ref qg])), (qv, aI Z 144 V), (qp, aI Z 3 pr), (ql, aI Z 3 le), (qg, aI Z 3 gr), (sh, .inr (7, [.ref q2, .int (nI ((bs ++ [(84 : Int32).toInt8]).length))])), (q2, aB Z S2 g1)]) ([(sh, .inr (7, [.ref q2, .int (nI ((bs ++ [(84 : Int32).toInt8]).length))])), (q2, aB Z S2 g1)] ++ ([(h, .inr (1, [.int P, .int (nI n), .ref qv, .ref qp, .ref ql, .ref qg])), (qv, aI Z 144 V), (qp, aI Z 3 pr), (ql, aI Z 3 le), (qg, aI Z 3 gr)])) := (perm_ix [5, 6, 0, 1, 2, 3, 4] rfl 7 (by decide) rfl)
  refine kc_v (Wc := [(sh, .inr (7, [.ref q2, .int (nI ((bs ++ [(84 : Int32).toInt8]).length))])), (q2, aB Z S2 g1)]) (Wr := [(h, .inr (1, [.int P, .int (nI n), .ref qv, .ref qp, .ref ql, .ref qg])), (qv, aI Z 144 V), (qp, aI Z 3 pr), (ql, aI Z 3 le), (qg, aI Z 3 gr)]) G hX (krV 1 rfl (As := [.int P]) (rest := []) (ci := 7) (CC := RX6) (T := TX6) (N := 2) C G hX (c_X6_u1 Z l sh q2 S2 g1 (bs ++ [(84 : Int32).toInt8]) (P) hg1 (by simp; omega) (by omega) _) (gdV ml_X0_58 im_X6_u1 se_X6_u1 ii_X6 co_X6_u1) (by decide +kernel) ⟨Nat.le_of_ble_eq_true rfl, Nat.le_of_ble_eq_true rfl⟩ rfl 0 rfl hl rfl (Nat.le_of_ble_eq_true rfl) ⟨Nat.le_of_eq (Nat.zero_add _), Nat.le_of_eq (Nat.zero_add _)⟩ dX0_writeTo_23) (fun u H locs hu G => ?_)
  obtain ⟨g2, hg2, rfl⟩ := hu
  have G : wd Z A s ([(h, .inr (1, [.int P, .int (nI n), .ref qv, .ref qp, .ref ql, .ref qg])), (qv, aI Z 144 V), (qp, aI Z 3 pr), (ql, aI Z 3 le), (qg, aI Z 3 gr), (sh, .inr (7, [.ref q2, .int (nI ((bs ++ [(84 : Int32).toInt8]).length + 1))])), (q2, aB Z S2 g2)]) H locs := G.perm (perm_ix [2, 3, 4, 5, 6, 0, 1] rfl 7 (by decide) rfl)
  have lB : (bs ++ [(84 : Int32).toInt8]).length + 1 = (bs ++ [(84 : Int32).toInt8] ++ [(P).toInt8]).length := by simp
  rw [lB] at G
  refine lv_aload_n hx hb dX0_writeTo_26 rfl (lv_at hl 2 rfl) ?_
  refine lv_aload_n hx hb dX0_writeTo_27 rfl (lv_at hl 1 rfl) ?_
  refine k_get (ci := 1) (CC := RX0) (T := TX0) (N := 6) (v := .int (nI n)) C G 0 rfl rfl in_1 1 (by decide) fl_X0_28 rfl rfl dX0_writeTo_28 ?_
  have hX : List.Perm ([(h, .inr (1, [.int P, .int (nI n), .ref qv, .ref qp, .ref ql, .ref qg])), (qv, aI Z 144 V), (qp, aI Z 3 pr), (ql, aI Z 3 le), (qg, aI Z 3 gr), (sh, .inr (7, [.ref q2, .int (nI ((bs ++ [(84 : Int32).toInt8] ++ [(P).toInt8]).length))])), (q2, aB Z S2 g2)]) ([(sh, .inr (7, [.ref q2, .int (nI ((bs ++ [(84 : Int32).toInt8] ++ [(P).toInt8]).length))])), (q2, aB Z S2 g2)] ++ ([(h, .inr (1, [.int P, .int (nI n), .ref qv, .ref qp, .ref ql, .ref qg])), (qv, aI Z 144 V), (qp, aI Z 3 pr), (ql, aI Z 3 le), (qg, aI Z 3 gr)])) := (perm_ix [5, 6, 0, 1, 2, 3, 4] rfl 7 (by decide) rfl)
  refine kc_v (Wc := [(sh, .inr (7, [.ref q2, .int (nI ((bs ++ [(84 : Int32).toInt8] ++ [(P).toInt8]).length))])), (q2, aB Z S2 g2)]) (Wr := [(h, .inr (1, [.int P, .int (nI n), .ref qv, .ref qp, .ref ql, .ref qg])), (qv, aI Z 144 V), (qp, aI Z 3 pr), (ql, aI Z 3 le), (qg, aI Z 3 gr)]) G hX (krV 1 rfl (As := [.int (nI n)]) (rest := []) (ci := 7) (CC := RX6) (T := TX6) (N := 2) C G hX (c_X6_u1 Z l sh q2 S2 g2 (bs ++ [(84 : Int32).toInt8] ++ [P.toInt8]) (nI n) hg2 (by simp; omega) (by omega) _) (gdV ml_X0_58 im_X6_u1 se_X6_u1 ii_X6 co_X6_u1) (by decide +kernel) ⟨Nat.le_of_ble_eq_true rfl, Nat.le_of_ble_eq_true rfl⟩ rfl 0 rfl hl rfl (Nat.le_of_ble_eq_true rfl) ⟨Nat.le_of_eq (Nat.zero_add _), Nat.le_of_eq (Nat.zero_add _)⟩ dX0_writeTo_31) (fun u H locs hu G => ?_)
  obtain ⟨g3, hg3, rfl⟩ := hu
  have G : wd Z A s ([(h, .inr (1, [.int P, .int (nI n), .ref qv, .ref qp, .ref ql, .ref qg])), (qv, aI Z 144 V), (qp, aI Z 3 pr), (ql, aI Z 3 le), (qg, aI Z 3 gr), (sh, .inr (7, [.ref q2, .int (nI ((bs ++ [(84 : Int32).toInt8] ++ [P.toInt8]).length + 1))])), (q2, aB Z S2 g3)]) H locs := G.perm (perm_ix [2, 3, 4, 5, 6, 0, 1] rfl 7 (by decide) rfl)
  have lB : (bs ++ [(84 : Int32).toInt8] ++ [P.toInt8]).length + 1 = (bs ++ [(84 : Int32).toInt8] ++ [P.toInt8] ++ [(nI n).toInt8]).length := by simp
  rw [lB] at G
  refine lv_iconst (v := 0) hx hb dX0_writeTo_34 (by decide) ?_
  refine lv_istore_n (lv' := [(3, .int 0), (2, .int (nI bs.length)), (0, .ref h), (1, .ref sh)]) hx hb dX0_writeTo_35 rfl hl (by decide) rfl (fun ls hl => ?_)
  exact lp_X0_writeTo C hn hk hS2 (Nat.le_of_eq (Nat.zero_add _)) (Nat.le_of_eq (Nat.zero_add _)) (fun f B hf hB => ⟨q2, f, by rw [← hB]; exact hf, by rw [hB, List.length_append, eS2]⟩) 3 0 (bs ++ [(84 : Int32).toInt8] ++ [P.toInt8] ++ [(nI n).toInt8]) g3 (by omega) (by rw [colsE]; simp only [List.append_assoc, List.append_nil]; rfl) hg3 _ _ _ G (lv_sub hl [0, 1, 2, 3] rfl)
