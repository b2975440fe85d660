/-! MODEL (X11): makeData. -/
theorem l84 : (84 : Int64) = (84 : Int32).toInt64 := by decide
theorem app3 (a b c : Int8) (x y z : List Int8) : ([] ++ [a] ++ [b] ++ [c] ++ x ++ y ++ z) = [a, b, c] ++ ([] ++ x ++ y ++ z) := by simp
theorem cols3 (V le gr : Nat → Int32) (N : Nat) : colsE V le gr N 3 = [] ++ encC V le gr N 0 ++ encC V le gr N 1 ++ encC V le gr N 2 := by
  rw [colsE, colsE, colsE, colsE]
theorem body3 (P : Int32) (N : Nat) (V le gr : Nat → Int32) : ([] ++ [Int32.toInt8 84] ++ [P.toInt8] ++ [(nI N).toInt8] ++ encC V le gr N 0 ++ encC V le gr N 1 ++ encC V le gr N 2) = bodyB P N V le gr := (app3 _ _ _ _ _ _).trans (congrArg (fun q => [(84 : Int32).toInt8, P.toInt8, (nI N).toInt8] ++ q) (cols3 V le gr N).symm)
set_option maxRecDepth 100000 in
set_option maxHeartbeats 4000000 in
theorem c_X11_makeData (Z : zT) (l : Launch) (h : Nat) (ad : Nat → Nat) (iv : ivT) (av : avT) (P : Int32) (N : Nat) (q19_0 : iv 19 = P) (q20_0 : iv 20 = nI N) (hN : N ≤ 48) (hfit : ∀ i, fits .byte (.int (av 14 i)) = true) : Kv Z l yX11_makeData cX11_makeData 2 none ({ frames := 3, cells := 0, slots := 0, locals := 90 }) [.ref h] (mdW Z h ad iv av) (fun u => ∃ iv2 av2, u = mdW Z h ad iv2 av2 ∧ mk_at iv2 av2 (encB P N (mV av) (leF (mV av) N) (grF (mV av) N)) ∧ (∀ d, d < 3 → av2 22 d = (if (stF (col (mV av) d N)).1 = 0 then 0 else 1) ∧ av2 23 d = leF (mV av) N d ∧ av2 24 d = grF (mV av) N d) ∧ sI [15] iv iv2 ∧ sA [14, 22, 23, 24, 25] av av2) := by
  intro sz
  refine Met.ofK (cc := cX11_makeData) (maxL := 2) (ret := none) (by decide) (Nat.le_of_ble_eq_true rfl) ?_
  intro p e s m below meth c ls C G hl
  generalize va_A _ sz = A at G ⊢
  have hx := C.1
  have hb := C.2.1
  have hown := C.2.2.2.2.2.1
  have hts := C.2.2.2.2.2.2.1
  have qv_0 : av 21 = av 21 := rfl
  refine lv_aload_n hx hb dX11_makeData_0 rfl (lv_at hl 0 rfl) ?_
  refine lv_iconst (v := 0) hx hb dX11_makeData_1 (by decide) ?_
  refine k_mpi (v := 0) (ty := .int) C G 15 (by decide) mr_15 fl_X11_153 rfl rfl rfl rfl rfl dX11_makeData_2 (fun H locs (G : wd Z A s (mdW Z h ad (upd iv 15 0) av) H locs) => ?_)
  have hmz : mk_at (upd iv 15 0) av [] := ⟨rfl, by_nil hfit⟩
  refine lv_aload_n hx hb dX11_makeData_5 rfl (lv_at hl 0 rfl) ?_
  refine lv_ldc2 (v := 84) hx hb hown (hts _ kl_X11_191) dX11_makeData_6 ?_
  refine k_topl (y := (84 : Int32).toInt64) l84 ?_
  refine lv_iconst (v := 1) hx hb dX11_makeData_9 (by decide) ?_
  refine kcM_v G (krV 2 rfl (As := [.long ((84 : Int32).toInt64), .int 1]) (rest := []) (ci := 12) (CC := RX11) (T := TX11) (N := 61) C G pmN (c_mu1 Z l h ad (upd iv 15 0) av _ 84 hmz (by simp only [List.length_append, List.length_nil, List.length_singleton]; omega) _) (gdV ml_X11_161 im_X11_u se_X11_u ii_X11 co_X11_u) (by decide +kernel) ⟨Nat.le_of_ble_eq_true rfl, Nat.le_of_ble_eq_true rfl⟩ rfl 0 rfl hl rfl (Nat.le_of_ble_eq_true rfl) ⟨Nat.le_of_ble_eq_true rfl, Nat.le_of_ble_eq_true rfl⟩ dX11_makeData_10) (fun u H locs hu G => ?_)
  obtain ⟨iv1_, av1_, rfl, hm1, hs1, ha1⟩ := hu
  have q19_1 : iv1_ 19 = P := (hs1 19 (by decide)).trans q19_0
  have q20_1 : iv1_ 20 = nI N := (hs1 20 (by decide)).trans q20_0
  have qv_1 : av1_ 21 = av 21 := (ha1 21 (by decide)).trans qv_0
  refine lv_aload_n hx hb dX11_makeData_13 rfl (lv_at hl 0 rfl) ?_
  refine lv_aload_n hx hb dX11_makeData_14 rfl (lv_at hl 0 rfl) ?_
  refine k_mgi (v := P) C G 19 (by decide) mr_19 q19_1 fl_X11_193 rfl dX11_makeData_15 ?_
  refine lv_i2l (v := P.toInt64) hx hb dX11_makeData_18 rfl ?_
  refine lv_iconst (v := 1) hx hb dX11_makeData_19 (by decide) ?_
  refine kcM_v G (krV 2 rfl (As := [.long P.toInt64, .int 1]) (rest := []) (ci := 12) (CC := RX11) (T := TX11) (N := 61) C G pmN (c_mu1 Z l h ad iv1_ av1_ _ P hm1 (by simp only [List.length_append, List.length_nil, List.length_singleton]; omega) _) (gdV ml_X11_161 im_X11_u se_X11_u ii_X11 co_X11_u) (by decide +kernel) ⟨Nat.le_of_ble_eq_true rfl, Nat.le_of_ble_eq_true rfl⟩ rfl 0 rfl hl rfl (Nat.le_of_ble_eq_true rfl) ⟨Nat.le_of_ble_eq_true rfl, Nat.le_of_ble_eq_true rfl⟩ dX11_makeData_20) (fun u H locs hu G => ?_)
  obtain ⟨iv2_, av2_, rfl, hm2, hs2, ha2⟩ := hu
  have q19_2 : iv2_ 19 = P := (hs2 19 (by decide)).trans q19_1
  have q20_2 : iv2_ 20 = nI N := (hs2 20 (by decide)).trans q20_1
  have qv_2 : av2_ 21 = av 21 := (ha2 21 (by decide)).trans qv_1
  refine lv_aload_n hx hb dX11_makeData_23 rfl (lv_at hl 0 rfl) ?_
  refine lv_aload_n hx hb dX11_makeData_24 rfl (lv_at hl 0 rfl) ?_
  refine k_mgi (v := nI N) C G 20 (by decide) mr_20 q20_2 fl_X11_196 rfl dX11_makeData_25 ?_
  refine lv_i2l (v := (nI N).toInt64) hx hb dX11_makeData_28 rfl ?_
  refine lv_iconst (v := 1) hx hb dX11_makeData_29 (by decide) ?_
  refine kcM_v G (krV 2 rfl (As := [.long ((nI N).toInt64), .int 1]) (rest := []) (ci := 12) (CC := RX11) (T := TX11) (N := 61) C G pmN (c_mu1 Z l h ad iv2_ av2_ _ (nI N) hm2 (by simp only [List.length_append, List.length_nil, List.length_singleton]; omega) _) (gdV ml_X11_161 im_X11_u se_X11_u ii_X11 co_X11_u) (by decide +kernel) ⟨Nat.le_of_ble_eq_true rfl, Nat.le_of_ble_eq_true rfl⟩ rfl 0 rfl hl rfl (Nat.le_of_ble_eq_true rfl) ⟨Nat.le_of_ble_eq_true rfl, Nat.le_of_ble_eq_true rfl⟩ dX11_makeData_30) (fun u H locs hu G => ?_)
  obtain ⟨iv3_, av3_, rfl, hm3, hs3, ha3⟩ := hu
  have q19_3 : iv3_ 19 = P := (hs3 19 (by decide)).trans q19_2
  have q20_3 : iv3_ 20 = nI N := (hs3 20 (by decide)).trans q20_2
  have qv_3 : av3_ 21 = av 21 := (ha3 21 (by decide)).trans qv_2
  refine lv_iconst (v := 0) hx hb dX11_makeData_33 (by decide) ?_
  refine lv_istore_n (lv' := [(1, .int 0), (0, .ref h)]) hx hb dX11_makeData_34 rfl hl (by decide) rfl (fun ls hl => ?_)
  refine lv_iload_n hx hb dX11_makeData_35 rfl (lv_at hl 0 rfl) ?_
  refine lv_iconst (v := 3) hx hb dX11_makeData_36 (by decide) ?_
  refine lv_icmp_ge (tgt := 51) hx hb dX11_makeData_37 (by decide) (fun c_37 => ?_) (fun c_37 => ?_)
  · exact absurd c_37 (by decide)
  · have n_37 := nb_nle (a := 3) (b := 0) c_37 (by omega) (by omega)
    refine lv_aload_n hx hb dX11_makeData_40 rfl (lv_at hl 1 rfl) ?_
    refine lv_iload_n hx hb dX11_makeData_41 rfl (lv_at hl 0 rfl) ?_
    have hl3 : ([] ++ [(84 : Int32).toInt8] ++ [P.toInt8] ++ [(nI N).toInt8] : List Int8).length ≤ 3 := by simp
    refine kcM_v G (krV 1 rfl (As := [.int 0]) (rest := []) (ci := 12) (CC := RX11) (T := TX11) (N := 61) C G pmN (c_X11_makeColumn Z l h ad iv3_ av3_ _ 0 N q20_3 hN (by omega) hm3 (Nat.le_trans hl3 (by omega)) _) (gdV ml_X11_199 im_X11_makeColumn se_X11_makeColumn ii_X11 co_X11_makeColumn) (by decide +kernel) ⟨Nat.le_of_ble_eq_true rfl, Nat.le_of_ble_eq_true rfl⟩ rfl 0 rfl hl rfl (Nat.le_of_ble_eq_true rfl) ⟨Nat.le_of_ble_eq_true rfl, Nat.le_of_ble_eq_true rfl⟩ dX11_makeData_42) (fun u H locs hu G => ?_)
    obtain ⟨iv4_, av4_, rfl, hm4, hd4, hb4, hlo4, hgr4, hs4, ha4⟩ := hu
    have q19_4 : iv4_ 19 = P := (hs4 19 (by decide)).trans q19_3
    have q20_4 : iv4_ 20 = nI N := (hs4 20 (by decide)).trans q20_3
    have qv_4 : av4_ 21 = av 21 := (ha4 21 (by decide)).trans qv_3
    refine lv_iinc (v := 1) (lv' := [(1, .int 1), (0, .ref h)]) hx hb dX11_makeData_45 hl (k := 0) rfl (by decide) (by decide) rfl (fun ls hl => ?_)
    refine lv_goto (tgt := 35) hx hb dX11_makeData_48 (by decide) ?_
    refine lv_iload_n hx hb dX11_makeData_35 rfl (lv_at hl 0 rfl) ?_
    refine lv_iconst (v := 3) hx hb dX11_makeData_36 (by decide) ?_
    refine lv_icmp_ge (tgt := 51) hx hb dX11_makeData_37 (by decide) (fun c_37_1 => ?_) (fun c_37_1 => ?_)
    · exact absurd c_37_1 (by decide)
    · have n_37_1 := nb_nle (a := 3) (b := 1) c_37_1 (by omega) (by omega)
      refine lv_aload_n hx hb dX11_makeData_40 rfl (lv_at hl 1 rfl) ?_
      refine lv_iload_n hx hb dX11_makeData_41 rfl (lv_at hl 0 rfl) ?_
      have hl4 := Nat.le_trans (Nat.le_of_eq (List.length_append)) (Nat.add_le_add hl3 (encC_le (mV av3_) (leF (mV av3_) N) (grF (mV av3_) N) N 0 hN))
      refine kcM_v G (krV 1 rfl (As := [.int 1]) (rest := []) (ci := 12) (CC := RX11) (T := TX11) (N := 61) C G pmN (c_X11_makeColumn Z l h ad iv4_ av4_ _ 1 N q20_4 hN (by omega) hm4 (Nat.le_trans hl4 (by omega)) _) (gdV ml_X11_199 im_X11_makeColumn se_X11_makeColumn ii_X11 co_X11_makeColumn) (by decide +kernel) ⟨Nat.le_of_ble_eq_true rfl, Nat.le_of_ble_eq_true rfl⟩ rfl 0 rfl hl rfl (Nat.le_of_ble_eq_true rfl) ⟨Nat.le_of_ble_eq_true rfl, Nat.le_of_ble_eq_true rfl⟩ dX11_makeData_42) (fun u H locs hu G => ?_)
      obtain ⟨iv5_, av5_, rfl, hm5, hd5, hb5, hlo5, hgr5, hs5, ha5⟩ := hu
      have q19_5 : iv5_ 19 = P := (hs5 19 (by decide)).trans q19_4
      have q20_5 : iv5_ 20 = nI N := (hs5 20 (by decide)).trans q20_4
      have qv_5 : av5_ 21 = av 21 := (ha5 21 (by decide)).trans qv_4
      refine lv_iinc (v := 2) (lv' := [(1, .int 2), (0, .ref h)]) hx hb dX11_makeData_45 hl (k := 0) rfl (by decide) (by decide) rfl (fun ls hl => ?_)
      refine lv_goto (tgt := 35) hx hb dX11_makeData_48 (by decide) ?_
      refine lv_iload_n hx hb dX11_makeData_35 rfl (lv_at hl 0 rfl) ?_
      refine lv_iconst (v := 3) hx hb dX11_makeData_36 (by decide) ?_
      refine lv_icmp_ge (tgt := 51) hx hb dX11_makeData_37 (by decide) (fun c_37_2 => ?_) (fun c_37_2 => ?_)
      · exact absurd c_37_2 (by decide)
      · have n_37_2 := nb_nle (a := 3) (b := 2) c_37_2 (by omega) (by omega)
        refine lv_aload_n hx hb dX11_makeData_40 rfl (lv_at hl 1 rfl) ?_
        refine lv_iload_n hx hb dX11_makeData_41 rfl (lv_at hl 0 rfl) ?_
        have hl5 := Nat.le_trans (Nat.le_of_eq (List.length_append)) (Nat.add_le_add hl4 (encC_le (mV av4_) (leF (mV av4_) N) (grF (mV av4_) N) N 1 hN))
        refine kcM_v G (krV 1 rfl (As := [.int 2]) (rest := []) (ci := 12) (CC := RX11) (T := TX11) (N := 61) C G pmN (c_X11_makeColumn Z l h ad iv5_ av5_ _ 2 N q20_5 hN (by omega) hm5 (Nat.le_trans hl5 (by omega)) _) (gdV ml_X11_199 im_X11_makeColumn se_X11_makeColumn ii_X11 co_X11_makeColumn) (by decide +kernel) ⟨Nat.le_of_ble_eq_true rfl, Nat.le_of_ble_eq_true rfl⟩ rfl 0 rfl hl rfl (Nat.le_of_ble_eq_true rfl) ⟨Nat.le_of_ble_eq_true rfl, Nat.le_of_ble_eq_true rfl⟩ dX11_makeData_42) (fun u H locs hu G => ?_)
        obtain ⟨iv6_, av6_, rfl, hm6, hd6, hb6, hlo6, hgr6, hs6, ha6⟩ := hu
        have q19_6 : iv6_ 19 = P := (hs6 19 (by decide)).trans q19_5
        have q20_6 : iv6_ 20 = nI N := (hs6 20 (by decide)).trans q20_5
        have qv_6 : av6_ 21 = av 21 := (ha6 21 (by decide)).trans qv_5
        refine lv_iinc (v := 3) (lv' := [(1, .int 3), (0, .ref h)]) hx hb dX11_makeData_45 hl (k := 0) rfl (by decide) (by decide) rfl (fun ls hl => ?_)
        refine lv_goto (tgt := 35) hx hb dX11_makeData_48 (by decide) ?_
        refine lv_iload_n hx hb dX11_makeData_35 rfl (lv_at hl 0 rfl) ?_
        refine lv_iconst (v := 3) hx hb dX11_makeData_36 (by decide) ?_
        refine lv_icmp_ge (tgt := 51) hx hb dX11_makeData_37 (by decide) (fun c_37_3 => ?_) (fun c_37_3 => ?_)
        · have n_37_3 := nb_le (a := 3) (b := 3) c_37_3 (by omega) (by omega)
          refine lv_aload_n hx hb dX11_makeData_51 rfl (lv_at hl 1 rfl) ?_
          have hlz := Nat.le_trans (Nat.le_of_eq (List.length_append)) (Nat.add_le_add hl5 (encC_le (mV av5_) (leF (mV av5_) N) (grF (mV av5_) N) N 2 hN))
          refine kcM_v G (krV 0 rfl (As := []) (rest := []) (ci := 12) (CC := RX11) (T := TX11) (N := 61) C G pmN (c_X11_ends Z l h ad iv6_ av6_ _ hm6 (Nat.le_trans (Nat.add_le_add_right hlz 4) (by omega)) _) (gdV ml_X11_203 im_X11_ends se_X11_ends ii_X11 co_X11_ends) (by decide +kernel) ⟨Nat.le_of_ble_eq_true rfl, Nat.le_of_ble_eq_true rfl⟩ rfl 0 rfl hl rfl (Nat.le_of_ble_eq_true rfl) ⟨Nat.le_of_ble_eq_true rfl, Nat.le_of_ble_eq_true rfl⟩ dX11_makeData_52) (fun u H locs hu G => ?_)
          obtain ⟨iv7_, av7_, rfl, hm7, hs7, ha7⟩ := hu
          have q19_7 : iv7_ 19 = P := (hs7 19 (by decide)).trans q19_6
          have q20_7 : iv7_ 20 = nI N := (hs7 20 (by decide)).trans q20_6
          have qv_7 : av7_ 21 = av 21 := (ha7 21 (by decide)).trans qv_6
          have e3 : mV av3_ = mV av := mV_same qv_3
          have e4 : mV av4_ = mV av := mV_same qv_4
          have e5 : mV av5_ = mV av := mV_same qv_5
          rw [e3] at hm4 hb4 hlo4 hgr4
          rw [e4] at hm5 hb5 hlo5 hgr5
          rw [e5] at hm6 hb6 hlo6 hgr6
          rw [e3, e4, e5] at hm7
          rw [body3] at hm7
          refine kr_v C G ⟨_, _, rfl, hm7, fun d hd => ?_, (((((((sI.rf.up (by decide) _).tr hs1 (by decide)).tr hs2 (by decide)).tr hs3 (by decide)).tr hs4 (by decide)).tr hs5 (by decide)).tr hs6 (by decide)).tr hs7 (by decide), ((((((sA.rf.tr ha1 (by decide)).tr ha2 (by decide)).tr ha3 (by decide)).tr ha4 (by decide)).tr ha5 (by decide)).tr ha6 (by decide)).tr ha7 (by decide)⟩ (Nat.le_of_ble_eq_true rfl) (Nat.le_of_ble_eq_true rfl) dX11_makeData_55
          rw [ha7 22 (by decide), ha7 23 (by decide), ha7 24 (by decide)]
          rcases (show d = 0 ∨ d = 1 ∨ d = 2 by omega) with e | e | e
          · subst e; obtain ⟨a1, a2, a3⟩ := hd6 0 (by decide); obtain ⟨b1, b2, b3⟩ := hd5 0 (by decide); rw [a1, a2, a3, b1, b2, b3]; exact ⟨hb4, hlo4, hgr4⟩
          · subst e; obtain ⟨a1, a2, a3⟩ := hd6 1 (by decide); rw [a1, a2, a3]; exact ⟨hb5, hlo5, hgr5⟩
          · subst e; exact ⟨hb6, hlo6, hgr6⟩
        · exact absurd c_37_3 (by decide)
