/-! MODEL (X11): readEntry, readCheckpoint. -/
theorem bel_iff {x y : Int32} (hx : ¬ x < 0) (hy : ¬ y < 0) : x.toBitVec.toNat < y.toBitVec.toNat ↔ x < y := by
  obtain ⟨a, ha, ea⟩ := nI_of hx
  obtain ⟨b, hb, eb⟩ := nI_of hy
  subst ea; subst eb
  rw [pk_tn (by omega), pk_tn (by omega)]
  exact (nI_ltI ha hb).symm
theorem neg1_lt {x : Int32} : -1 < x ↔ ¬ x < 0 := by
  rw [Int32.lt_iff_toInt_lt, Int32.lt_iff_toInt_lt, show (-1 : Int32).toInt = -1 by decide, show (0 : Int32).toInt = 0 by decide]; omega
theorem mo_ub {av : avT} {ob : List obT} {k : Nat} {o : obT} (h : mo_at av ob) (hk : ob[k]? = some o) {i : Nat} (hi : i < o.2.2.length) : ub (av 3 (1400 * k + i)) = ub (fnB o.2.2 i) := by
  rw [(h.1 k o hk).2.2.2.2.2 i hi]; rfl
/-- the frame of a log's OBJECT, by its CHECK -/
theorem frm_ok {bs : List Int8} {be : Nat} {mk num : Int32} (h10 : 10 ≤ bs.length) : frm (fnB bs) bs.length be mk num ↔ okC bs ∧ nI (ub (fnB bs 0)) = mk ∧ r4 (fnB bs) 1 = num ∧ bs.length = 6 + be * ub (fnB bs 5) + 4 := by
  unfold frm okC
  have hc : ∀ n, n ≤ bs.length → crF (fnB bs) (-1) 0 n ^^^ (-1) = crc (bs.take n) := by
    intro n hn
    have h1 := crF_L (bs.take n) (fnB bs) (-1) 0 (fun i hi => by
      rw [List.length_take] at hi
      show (bs.getD (0 + i) 0).toInt32 = _
      rw [Nat.zero_add, List.getD_eq_getElem?_getD, List.getD_eq_getElem?_getD, List.getElem?_take_of_lt (by omega)])
    rw [List.length_take, Nat.min_eq_left hn] at h1
    rw [h1]; rfl
  constructor
  · rintro ⟨a, b, c, d⟩
    refine ⟨?_, b, c, a⟩
    rw [← hc _ (by omega), show bs.length - 4 = 6 + be * ub (fnB bs 5) by omega]
    exact d.symm
  · rintro ⟨a, b, c, d⟩
    refine ⟨d, b, c, ?_⟩
    rw [hc _ (by omega), show 6 + be * ub (fnB bs 5) = bs.length - 4 by omega]
    exact a.symm
set_option maxRecDepth 100000 in
set_option maxHeartbeats 4000000 in
theorem lp_mre0 {p : Program} {l : Launch} {e : Env} {s : State} {m : MethodId} {args : Array Value} {below : List Frame} {meth : Method} {c : Code} {Z : zT} {A : Nat → Prop} {h : Nat} {ad : Nat → Nat} {iv : ivT} {av : avT} {k : Nat} {ix v : Int32} {post : Int32 → va_W → Prop} (C : cx p s m args meth c cX11_readEntry 5 (some .boolean) RX11 "readEntry") (h18 : iv 18 = 0) (hp : post 0 (mdW Z h ad iv av)) {H : Heap} {locs : List Loc} {ls : Array Slot} (G : wd Z A s (mdW Z h ad iv av) H locs) (hl : lv_has ls 5 [(3, .int ix), (0, .ref h), (1, .int v), (2, .int (nI k))]) : W p l e ({ frames := 2, cells := 0, slots := 0, locals := 70 }) s m args below meth c H locs 0 0 (MQ below (va_Qi post (mB Z A) A) args s 0 0 A) (F0 m 68 ls []) := by
  have hx := C.1
  have hb := C.2.1
  have hown := C.2.2.2.2.2.1
  have hts := C.2.2.2.2.2.2.1
  refine lv_iload_n hx hb dX11_readEntry_68 rfl (lv_at hl 0 rfl) ?_
  refine lv_aload_n hx hb dX11_readEntry_69 rfl (lv_at hl 1 rfl) ?_
  refine k_mgi (v := iv 26) C G 26 (by decide) mr_26 rfl fl_X11_236 rfl dX11_readEntry_70 ?_
  refine lv_icmp_ge (tgt := 255) hx hb dX11_readEntry_73 (by decide) (fun c_73 => ?_) (fun c_73 => ?_)
  · refine lv_aload_n hx hb dX11_readEntry_255 rfl (lv_at hl 1 rfl) ?_
    refine k_mgi (v := 0) C G 18 (by decide) mr_18 h18 fl_X11_175 rfl dX11_readEntry_256 ?_
    refine lv_if_eq (tgt := 277) hx hb dX11_readEntry_259 (by decide) (fun c_259 => ?_) (fun c_259 => ?_)
    · have n_259 := nb_eq (a := 0) (b := 0) c_259 (by omega) (by omega)
      refine lv_iconst (v := 0) hx hb dX11_readEntry_277 (by decide) ?_
      exact kr_z C G (by decide) hp (Nat.le_of_ble_eq_true rfl) (Nat.le_of_ble_eq_true rfl) dX11_readEntry_278
    · exact absurd c_259 (by decide)
  · refine lv_aload_n hx hb dX11_readEntry_76 rfl (lv_at hl 1 rfl) ?_
    refine k_mgi (v := 0) C G 18 (by decide) mr_18 h18 fl_X11_175 rfl dX11_readEntry_77 ?_
    refine lv_if_eq (tgt := 255) hx hb dX11_readEntry_80 (by decide) (fun c_80 => ?_) (fun c_80 => ?_)
    · have n_80 := nb_eq (a := 0) (b := 0) c_80 (by omega) (by omega)
      refine lv_aload_n hx hb dX11_readEntry_255 rfl (lv_at hl 1 rfl) ?_
      refine k_mgi (v := 0) C G 18 (by decide) mr_18 h18 fl_X11_175 rfl dX11_readEntry_256 ?_
      refine lv_if_eq (tgt := 277) hx hb dX11_readEntry_259 (by decide) (fun c_259 => ?_) (fun c_259 => ?_)
      · have n_259 := nb_eq (a := 0) (b := 0) c_259 (by omega) (by omega)
        refine lv_iconst (v := 0) hx hb dX11_readEntry_277 (by decide) ?_
        exact kr_z C G (by decide) hp (Nat.le_of_ble_eq_true rfl) (Nat.le_of_ble_eq_true rfl) dX11_readEntry_278
      · exact absurd c_259 (by decide)
    · exact absurd c_80 (by decide)
set_option maxRecDepth 100000 in
set_option maxHeartbeats 4000000 in
theorem lp_mre {p : Program} {l : Launch} {e : Env} {s : State} {m : MethodId} {args : Array Value} {below : List Frame} {meth : Method} {c : Code} {Z : zT} {A : Nat → Prop} {h : Nat} {ad : Nat → Nat} {iv0 : ivT} {av0 : avT} {ob : List obT} {k nA : Nat} {o : obT} {v : Int32} {post : Int32 → va_W → Prop} (C : cx p s m args meth c cX11_readEntry 5 (some .boolean) RX11 "readEntry") (hat : mo_at av0 ob) (hob : ob.length ≤ 100) (hk : ob[k]? = some o) (hnA : nA < 256) (h17 : iv0 17 = nI (1400 * k + o.2.2.length - 4)) (h26 : iv0 26 = nI nA) (hp0 : ∀ (iv2 : ivT) (av2 : avT), sI [16, 18] iv0 iv2 → sA [27, 28, 29] av0 av2 → ¬ (o.2.2.length = 10 + 6 * nA ∧ ∀ j, j < nA → enC (fnB o.2.2) j) → post 0 (mdW Z h ad iv2 av2)) (hp1 : ∀ (iv2 : ivT) (av2 : avT), sI [16, 18] iv0 iv2 → sA [27, 28, 29] av0 av2 → (o.2.2.length = 10 + 6 * nA ∧ ∀ j, j < nA → enC (fnB o.2.2) j) → (∀ j, j < nA → av2 27 j = nI (aK (fnB o.2.2) j) ∧ av2 28 j = aN (fnB o.2.2) j ∧ av2 29 j = nI (aP (fnB o.2.2) j)) → post 1 (mdW Z h ad iv2 av2)) : ∀ (n i : Nat) (iv : ivT) (av : avT), i + n = nA → iv 16 = nI (1400 * k + (6 + 6 * i)) → iv 18 = 1 → sI [16, 18] iv0 iv → sA [27, 28, 29] av0 av → (∀ j, j < i → av 27 j = nI (aK (fnB o.2.2) j) ∧ av 28 j = aN (fnB o.2.2) j ∧ av 29 j = nI (aP (fnB o.2.2) j) ∧ enC (fnB o.2.2) j ∧ ¬ aN (fnB o.2.2) j < 0 ∧ aK (fnB o.2.2) j ≤ 2) → ∀ (H : Heap) (locs : List Loc) (ls : Array Slot), wd Z A s (mdW Z h ad iv av) H locs → lv_has ls 5 [(3, .int (nI i)), (0, .ref h), (1, .int v), (2, .int (nI k))] → W p l e ({ frames := 2, cells := 0, slots := 0, locals := 70 }) s m args below meth c H locs 0 0 (MQ below (va_Qi post (mB Z A) A) args s 0 0 A) (F0 m 68 ls []) := by
  have hx := C.1
  have hb := C.2.1
  have hown := C.2.2.2.2.2.1
  have hts := C.2.2.2.2.2.2.1
  have hkl := (List.getElem?_eq_some_iff.mp hk).1
  have hol := (hat.1 k o hk).2.2.2.1
  have hou := (hat.1 k o hk).2.2.2.2.1
  intro n
  induction n with
  | zero =>
    intro i iv av hin h16 h18 hsI hsA hA H locs ls G hl
    have h17v : iv 17 = nI (1400 * k + o.2.2.length - 4) := (hsI 17 (by decide)).trans h17
    have h26v : iv 26 = nI nA := (hsI 26 (by decide)).trans h26
    refine lv_iload_n hx hb dX11_readEntry_68 rfl (lv_at hl 0 rfl) ?_
    refine lv_aload_n hx hb dX11_readEntry_69 rfl (lv_at hl 1 rfl) ?_
    refine k_mgi (v := nI nA) C G 26 (by decide) mr_26 h26v fl_X11_236 rfl dX11_readEntry_70 ?_
    refine lv_icmp_ge (tgt := 255) hx hb dX11_readEntry_73 (by decide) (fun c_73 => ?_) (fun c_73 => ?_)
    · have n_73 := nb_le (a := nA) (b := i) c_73 (by omega) (by omega)
      refine lv_aload_n hx hb dX11_readEntry_255 rfl (lv_at hl 1 rfl) ?_
      refine k_mgi (v := 1) C G 18 (by decide) mr_18 h18 fl_X11_175 rfl dX11_readEntry_256 ?_
      refine lv_if_eq (tgt := 277) hx hb dX11_readEntry_259 (by decide) (fun c_259 => ?_) (fun c_259 => ?_)
      · exact absurd c_259 (by decide)
      · have n_259 := nb_ne (a := 1) (b := 0) c_259 (by omega) (by omega)
        refine lv_aload_n hx hb dX11_readEntry_262 rfl (lv_at hl 1 rfl) ?_
        refine k_mgi (v := nI (1400 * k + (6 + 6 * i))) C G 16 (by decide) mr_16 h16 fl_X11_179 rfl dX11_readEntry_263 ?_
        refine lv_aload_n hx hb dX11_readEntry_266 rfl (lv_at hl 1 rfl) ?_
        refine k_mgi (v := nI (1400 * k + o.2.2.length - 4)) C G 17 (by decide) mr_17 h17v fl_X11_182 rfl dX11_readEntry_267 ?_
        refine lv_icmp_ne (tgt := 277) hx hb dX11_readEntry_270 (by decide) (fun c_270 => ?_) (fun c_270 => ?_)
        · have n_270 := nb_ne (a := 1400 * k + (6 + 6 * i)) (b := 1400 * k + o.2.2.length - 4) c_270 (by omega) (by omega)
          refine lv_iconst (v := 0) hx hb dX11_readEntry_277 (by decide) ?_
          exact kr_z C G (by decide) (hp0 iv av hsI hsA (fun y => absurd y.1 (by omega))) (Nat.le_of_ble_eq_true rfl) (Nat.le_of_ble_eq_true rfl) dX11_readEntry_278
        · have n_270 := nb_eq (a := 1400 * k + (6 + 6 * i)) (b := 1400 * k + o.2.2.length - 4) c_270 (by omega) (by omega)
          refine lv_iconst (v := 1) hx hb dX11_readEntry_273 (by decide) ?_
          refine lv_goto (tgt := 278) hx hb dX11_readEntry_274 (by decide) ?_
          exact kr_z C G (by decide) (hp1 iv av hsI hsA ⟨by omega, fun j hj => (hA j (by omega)).2.2.2.1⟩ (fun j hj => ⟨(hA j (by omega)).1, (hA j (by omega)).2.1, (hA j (by omega)).2.2.1⟩)) (Nat.le_of_ble_eq_true rfl) (Nat.le_of_ble_eq_true rfl) dX11_readEntry_278
    · exact absurd (nb_nle (a := nA) (b := i) c_73 (by omega) (by omega)) (by omega)
  | succ n ih =>
    intro i iv av hin h16 h18 hsI hsA hA H locs ls G hl
    have h17v : iv 17 = nI (1400 * k + o.2.2.length - 4) := (hsI 17 (by decide)).trans h17
    have h26v : iv 26 = nI nA := (hsI 26 (by decide)).trans h26
    refine lv_iload_n hx hb dX11_readEntry_68 rfl (lv_at hl 0 rfl) ?_
    refine lv_aload_n hx hb dX11_readEntry_69 rfl (lv_at hl 1 rfl) ?_
    refine k_mgi (v := nI nA) C G 26 (by decide) mr_26 h26v fl_X11_236 rfl dX11_readEntry_70 ?_
    refine lv_icmp_ge (tgt := 255) hx hb dX11_readEntry_73 (by decide) (fun c_73 => ?_) (fun c_73 => ?_)
    · exact absurd (nb_le (a := nA) (b := i) c_73 (by omega) (by omega)) (by omega)
    · have n_73 := nb_nle (a := nA) (b := i) c_73 (by omega) (by omega)
      refine lv_aload_n hx hb dX11_readEntry_76 rfl (lv_at hl 1 rfl) ?_
      refine k_mgi (v := 1) C G 18 (by decide) mr_18 h18 fl_X11_175 rfl dX11_readEntry_77 ?_
      refine lv_if_eq (tgt := 255) hx hb dX11_readEntry_80 (by decide) (fun c_80 => ?_) (fun c_80 => ?_)
      · exact absurd c_80 (by decide)
      · have n_80 := nb_ne (a := 1) (b := 0) c_80 (by omega) (by omega)
        refine lv_aload_n hx hb dX11_readEntry_83 rfl (lv_at hl 1 rfl) ?_
        refine k_mga C G 27 (by decide) mr_27 fl_X11_50 rfl dX11_readEntry_84 ?_
        refine lv_iload_n hx hb dX11_readEntry_87 rfl (lv_at hl 0 rfl) ?_
        refine lv_aload_n hx hb dX11_readEntry_88 rfl (lv_at hl 1 rfl) ?_
        refine lv_iconst (v := 1) hx hb dX11_readEntry_89 (by decide) ?_
        refine kcM_l G (krV 1 rfl (As := [.int 1]) (rest := [.int (nI i), .ref (ad 27)]) (ci := 12) (CC := RX11) (T := TX11) (N := 61) C G pmN (c_mt1 Z l h ad iv av (1400 * k + (6 + 6 * i)) (1400 * k + o.2.2.length - 4) 1 h16 h17v h18 (Or.inr rfl) (by omega) (by omega) _) (gdV ml_X11_213 im_X11_take se_X11_take ii_X11 co_X11_take) (by decide +kernel) ⟨Nat.le_of_ble_eq_true rfl, Nat.le_of_ble_eq_true rfl⟩ rfl 0 rfl hl rfl (Nat.le_of_ble_eq_true rfl) ⟨Nat.le_of_ble_eq_true rfl, Nat.le_of_ble_eq_true rfl⟩ dX11_readEntry_90) (fun r_90 u H locs hu G => ?_)
        obtain ⟨iv1_, rfl, hs1, h16_1, hcs1⟩ := hu
        have h17_1 : iv1_ 17 = nI (1400 * k + o.2.2.length - 4) := (hs1 17 (by decide)).trans h17v
        have q26_1 : iv1_ 26 = nI nA := (hs1 26 (by decide)).trans h26v
        rcases hcs1 with ⟨hg_1, hle_1, h18_1, r_90_e⟩ | ⟨hno_1, h18_1, r_90_e⟩
        · obtain ⟨bb_1, hbb_1⟩ : ∃ b, b = ub ((av 3) (1400 * k + (6 + 6 * i))) := ⟨_, rfl⟩
          have hlbb_1 : bb_1 < 256 := by rw [hbb_1]; exact ub_lt _
          replace r_90_e : r_90 = (nI bb_1).toInt64 := by rw [hbb_1]; exact r_90_e
          subst r_90_e
          refine lv_l2i (v := ((nI bb_1).toInt64).toInt32) hx hb dX11_readEntry_93 rfl ?_
          refine k_topi (y := nI bb_1) (l2i_i2l _) ?_
          refine k_mis (x := nI bb_1) (i := i) C G 10 (k := 27) (n := 256) mp_27 (by decide) (by omega) dX11_readEntry_94 (fun H locs (G : wd Z A s (mdW Z h ad iv1_ (ua av 27 (upd (av 27) i (nI bb_1)))) H locs) => ?_)
          refine lv_aload_n hx hb dX11_readEntry_95 rfl (lv_at hl 1 rfl) ?_
          refine k_mga C G 28 (by decide) mr_28 fl_X11_53 rfl dX11_readEntry_96 ?_
          refine lv_iload_n hx hb dX11_readEntry_99 rfl (lv_at hl 0 rfl) ?_
          refine lv_aload_n hx hb dX11_readEntry_100 rfl (lv_at hl 1 rfl) ?_
          refine lv_iconst (v := 4) hx hb dX11_readEntry_101 (by decide) ?_
          refine kcM_l G (krV 1 rfl (As := [.int 4]) (rest := [.int (nI i), .ref (ad 28)]) (ci := 12) (CC := RX11) (T := TX11) (N := 61) C G pmN (c_mt4 Z l h ad iv1_ (ua av 27 (upd (av 27) i (nI bb_1))) (1400 * k + (6 + 6 * i) + 1) (1400 * k + o.2.2.length - 4) 1 h16_1 h17_1 h18_1 (Or.inr rfl) (by omega) (by omega) _) (gdV ml_X11_213 im_X11_take se_X11_take ii_X11 co_X11_take) (by decide +kernel) ⟨Nat.le_of_ble_eq_true rfl, Nat.le_of_ble_eq_true rfl⟩ rfl 0 rfl hl rfl (Nat.le_of_ble_eq_true rfl) ⟨Nat.le_of_ble_eq_true rfl, Nat.le_of_ble_eq_true rfl⟩ dX11_readEntry_102) (fun r_102 u H locs hu G => ?_)
          obtain ⟨iv2_, rfl, hs2, h16_2, hcs2⟩ := hu
          have h17_2 : iv2_ 17 = nI (1400 * k + o.2.2.length - 4) := (hs2 17 (by decide)).trans h17_1
          have q26_2 : iv2_ 26 = nI nA := (hs2 26 (by decide)).trans q26_1
          rcases hcs2 with ⟨hg_2, hle_2, h18_2, r_102_e⟩ | ⟨hno_2, h18_2⟩
          · refine lv_l2i (v := r_102.toInt32) hx hb dX11_readEntry_105 rfl ?_
            refine k_topi (y := r4 (av 3) (1400 * k + (6 + 6 * i) + 1)) r_102_e ?_
            refine k_mis (x := r4 (av 3) (1400 * k + (6 + 6 * i) + 1)) (i := i) C G 11 (k := 28) (n := 256) mp_28 (by decide) (by omega) dX11_readEntry_106 (fun H locs (G : wd Z A s (mdW Z h ad iv2_ (ua (ua av 27 (upd (av 27) i (nI bb_1))) 28 (upd (av 28) i (r4 (av 3) (1400 * k + (6 + 6 * i) + 1))))) H locs) => ?_)
            refine lv_aload_n hx hb dX11_readEntry_107 rfl (lv_at hl 1 rfl) ?_
            refine k_mga C G 29 (by decide) mr_29 fl_X11_56 rfl dX11_readEntry_108 ?_
            refine lv_iload_n hx hb dX11_readEntry_111 rfl (lv_at hl 0 rfl) ?_
            refine lv_aload_n hx hb dX11_readEntry_112 rfl (lv_at hl 1 rfl) ?_
            refine lv_iconst (v := 1) hx hb dX11_readEntry_113 (by decide) ?_
            refine kcM_l G (krV 1 rfl (As := [.int 1]) (rest := [.int (nI i), .ref (ad 29)]) (ci := 12) (CC := RX11) (T := TX11) (N := 61) C G pmN (c_mt1 Z l h ad iv2_ (ua (ua av 27 (upd (av 27) i (nI bb_1))) 28 (upd (av 28) i (r4 (av 3) (1400 * k + (6 + 6 * i) + 1)))) (1400 * k + (6 + 6 * i) + 1 + 4) (1400 * k + o.2.2.length - 4) 1 h16_2 h17_2 h18_2 (Or.inr rfl) (by omega) (by omega) _) (gdV ml_X11_213 im_X11_take se_X11_take ii_X11 co_X11_take) (by decide +kernel) ⟨Nat.le_of_ble_eq_true rfl, Nat.le_of_ble_eq_true rfl⟩ rfl 0 rfl hl rfl (Nat.le_of_ble_eq_true rfl) ⟨Nat.le_of_ble_eq_true rfl, Nat.le_of_ble_eq_true rfl⟩ dX11_readEntry_114) (fun r_114 u H locs hu G => ?_)
            obtain ⟨iv3_, rfl, hs3, h16_3, hcs3⟩ := hu
            have h17_3 : iv3_ 17 = nI (1400 * k + o.2.2.length - 4) := (hs3 17 (by decide)).trans h17_2
            have q26_3 : iv3_ 26 = nI nA := (hs3 26 (by decide)).trans q26_2
            rcases hcs3 with ⟨hg_3, hle_3, h18_3, r_114_e⟩ | ⟨hno_3, h18_3, r_114_e⟩
            · obtain ⟨bb_3, hbb_3⟩ : ∃ b, b = ub ((av 3) (1400 * k + (6 + 6 * i) + 1 + 4)) := ⟨_, rfl⟩
              have hlbb_3 : bb_3 < 256 := by rw [hbb_3]; exact ub_lt _
              replace r_114_e : r_114 = (nI bb_3).toInt64 := by rw [hbb_3]; exact r_114_e
              subst r_114_e
              refine lv_l2i (v := ((nI bb_3).toInt64).toInt32) hx hb dX11_readEntry_117 rfl ?_
              refine k_topi (y := nI bb_3) (l2i_i2l _) ?_
              refine k_mis (x := nI bb_3) (i := i) C G 12 (k := 29) (n := 256) mp_29 (by decide) (by omega) dX11_readEntry_118 (fun H locs (G : wd Z A s (mdW Z h ad iv3_ (ua (ua (ua av 27 (upd (av 27) i (nI bb_1))) 28 (upd (av 28) i (r4 (av 3) (1400 * k + (6 + 6 * i) + 1)))) 29 (upd (av 29) i (nI bb_3)))) H locs) => ?_)
              refine lv_aload_n hx hb dX11_readEntry_119 rfl (lv_at hl 1 rfl) ?_
              refine lv_aload_n hx hb dX11_readEntry_120 rfl (lv_at hl 1 rfl) ?_
              refine k_mgi (v := 1) C G 18 (by decide) mr_18 h18_3 fl_X11_175 rfl dX11_readEntry_121 ?_
              refine lv_if_eq (tgt := 171) hx hb dX11_readEntry_124 (by decide) (fun c_124 => ?_) (fun c_124 => ?_)
              · exact absurd c_124 (by decide)
              · have n_124 := nb_ne (a := 1) (b := 0) c_124 (by omega) (by omega)
                refine lv_aload_n hx hb dX11_readEntry_127 rfl (lv_at hl 1 rfl) ?_
                refine k_mga C G 27 (by decide) mr_27 fl_X11_50 rfl dX11_readEntry_128 ?_
                refine lv_iload_n hx hb dX11_readEntry_131 rfl (lv_at hl 0 rfl) ?_
                refine k_mil (v := nI bb_1) (i := i) C G 10 (k := 27) (n := 256) mp_27 (by decide) (by omega) pk_us dX11_readEntry_132 ?_
                refine lv_iconst (v := 1) hx hb dX11_readEntry_133 (by decide) ?_
                refine lv_icmp_eq (tgt := 147) hx hb dX11_readEntry_134 (by decide) (fun c_134 => ?_) (fun c_134 => ?_)
                · have n_134 := nb_eq (a := bb_1) (b := 1) c_134 (by omega) (by omega)
                  refine lv_aload_n hx hb dX11_readEntry_147 rfl (lv_at hl 1 rfl) ?_
                  refine k_mga C G 28 (by decide) mr_28 fl_X11_53 rfl dX11_readEntry_148 ?_
                  refine lv_iload_n hx hb dX11_readEntry_151 rfl (lv_at hl 0 rfl) ?_
                  refine k_mil (v := r4 (av 3) (1400 * k + (6 + 6 * i) + 1)) (i := i) C G 11 (k := 28) (n := 256) mp_28 (by decide) (by omega) pk_us dX11_readEntry_152 ?_
                  refine lv_if_lt (tgt := 171) hx hb dX11_readEntry_153 (by decide) (fun c_153 => ?_) (fun c_153 => ?_)
                  · refine lv_iconst (v := 0) hx hb dX11_readEntry_171 (by decide) ?_
                    refine k_mpi (v := 0) (ty := .boolean) C G 18 (by decide) mr_18 fl_X11_175 rfl rfl rfl rfl rfl dX11_readEntry_172 (fun H locs (G : wd Z A s (mdW Z h ad (upd iv3_ 18 0) (ua (ua (ua av 27 (upd (av 27) i (nI bb_1))) 28 (upd (av 28) i (r4 (av 3) (1400 * k + (6 + 6 * i) + 1)))) 29 (upd (av 29) i (nI bb_3)))) H locs) => ?_)
                    refine lv_iload_n hx hb dX11_readEntry_175 rfl (lv_at hl 0 rfl) ?_
                    refine lv_if_eq (tgt := 249) hx hb dX11_readEntry_176 (by decide) (fun c_176 => ?_) (fun c_176 => ?_)
                    · have n_176 := nb_eq (a := i) (b := 0) c_176 (by omega) (by omega)
                      refine lv_iinc (v := nI (i + 1)) (lv' := [(3, .int (nI (i + 1))), (0, .ref h), (1, .int v), (2, .int (nI k))]) hx hb dX11_readEntry_249 hl (k := 0) rfl (nI_1 _) (by decide) rfl (fun ls hl => ?_)
                      refine lv_goto (tgt := 68) hx hb dX11_readEntry_252 (by decide) ?_
                      have hiL : 6 + 6 * i + 6 ≤ o.2.2.length - 4 := by omega
                      have f1 : bb_1 = aK (fnB o.2.2) i := by rw [hbb_1, hsA 3 (by decide)]; exact mo_ub hat hk (by omega)
                      have f2 : r4 (av 3) (1400 * k + (6 + 6 * i) + 1) = aN (fnB o.2.2) i := by rw [hsA 3 (by decide), Nat.add_assoc]; exact mo_r4 hat hk (by omega)
                      have f3 : bb_3 = aP (fnB o.2.2) i := by rw [hbb_3, hsA 3 (by decide), show 1400 * k + (6 + 6 * i) + 1 + 4 = 1400 * k + (6 + 6 * i + 5) by omega]; exact mo_ub hat hk (by omega)
                      have hka : aKa (fnB o.2.2) i ≤ 2 := by
                        by_cases e0 : i = 0
                        · rw [e0]; exact Nat.le_refl _
                        · obtain ⟨i2, e2⟩ : ∃ i2, i = i2 + 1 := ⟨i - 1, by omega⟩
                          rw [e2]; exact (hA i2 (by omega)).2.2.2.2.2
                      have hna : -1 ≤ aNa (fnB o.2.2) i := by
                        by_cases e0 : i = 0
                        · rw [e0]; exact Int32.le_refl _
                        · obtain ⟨i2, e2⟩ : ∃ i2, i = i2 + 1 := ⟨i - 1, by omega⟩
                          rw [e2]; exact Int32.le_of_lt (neg1_lt.mpr (hA i2 (by omega)).2.2.2.2.1)
                      exact lp_mre0 C rfl (hp0 (upd iv3_ 18 0) (ua (ua (ua av 27 (upd (av 27) i (nI bb_1))) 28 (upd (av 28) i (r4 (av 3) (1400 * k + (6 + 6 * i) + 1)))) 29 (upd (av 29) i (nI bb_3))) ((((hsI.tr hs1 (by decide)).tr hs2 (by decide)).tr hs3 (by decide)).up (by decide) _) (((hsA.up (by decide) _).up (by decide) _).up (by decide) _) (fun y => by
                        exact absurd (show ¬ r4 (av 3) (1400 * k + (6 + 6 * i) + 1) < 0 by rw [f2]; exact neg1_lt.mp (by have h9 := (y.2 i (by omega)).2.2.1; split at h9; exact Int32.lt_of_le_of_lt hna h9; exact h9)) (fun z => z c_153))) G (lv_sub hl [0, 1, 2, 3] rfl)
                    · have n_176 := nb_ne (a := i) (b := 0) c_176 (by omega) (by omega)
                      refine lv_aload_n hx hb dX11_readEntry_179 rfl (lv_at hl 1 rfl) ?_
                      refine k_mgi (v := 0) C G 18 (by decide) mr_18 rfl fl_X11_175 rfl dX11_readEntry_180 ?_
                      refine lv_if_ne (tgt := 189) hx hb dX11_readEntry_183 (by decide) (fun c_183 => ?_) (fun c_183 => ?_)
                      · exact absurd c_183 (by decide)
                      · have n_183 := nb_eq (a := 0) (b := 0) c_183 (by omega) (by omega)
                        refine lv_goto (tgt := 249) hx hb dX11_readEntry_186 (by decide) ?_
                        refine lv_iinc (v := nI (i + 1)) (lv' := [(3, .int (nI (i + 1))), (0, .ref h), (1, .int v), (2, .int (nI k))]) hx hb dX11_readEntry_249 hl (k := 0) rfl (nI_1 _) (by decide) rfl (fun ls hl => ?_)
                        refine lv_goto (tgt := 68) hx hb dX11_readEntry_252 (by decide) ?_
                        have hiL : 6 + 6 * i + 6 ≤ o.2.2.length - 4 := by omega
                        have f1 : bb_1 = aK (fnB o.2.2) i := by rw [hbb_1, hsA 3 (by decide)]; exact mo_ub hat hk (by omega)
                        have f2 : r4 (av 3) (1400 * k + (6 + 6 * i) + 1) = aN (fnB o.2.2) i := by rw [hsA 3 (by decide), Nat.add_assoc]; exact mo_r4 hat hk (by omega)
                        have f3 : bb_3 = aP (fnB o.2.2) i := by rw [hbb_3, hsA 3 (by decide), show 1400 * k + (6 + 6 * i) + 1 + 4 = 1400 * k + (6 + 6 * i + 5) by omega]; exact mo_ub hat hk (by omega)
                        have hka : aKa (fnB o.2.2) i ≤ 2 := by
                          by_cases e0 : i = 0
                          · rw [e0]; exact Nat.le_refl _
                          · obtain ⟨i2, e2⟩ : ∃ i2, i = i2 + 1 := ⟨i - 1, by omega⟩
                            rw [e2]; exact (hA i2 (by omega)).2.2.2.2.2
                        have hna : -1 ≤ aNa (fnB o.2.2) i := by
                          by_cases e0 : i = 0
                          · rw [e0]; exact Int32.le_refl _
                          · obtain ⟨i2, e2⟩ : ∃ i2, i = i2 + 1 := ⟨i - 1, by omega⟩
                            rw [e2]; exact Int32.le_of_lt (neg1_lt.mpr (hA i2 (by omega)).2.2.2.2.1)
                        exact lp_mre0 C rfl (hp0 (upd iv3_ 18 0) (ua (ua (ua av 27 (upd (av 27) i (nI bb_1))) 28 (upd (av 28) i (r4 (av 3) (1400 * k + (6 + 6 * i) + 1)))) 29 (upd (av 29) i (nI bb_3))) ((((hsI.tr hs1 (by decide)).tr hs2 (by decide)).tr hs3 (by decide)).up (by decide) _) (((hsA.up (by decide) _).up (by decide) _).up (by decide) _) (fun y => by
                          exact absurd (show ¬ r4 (av 3) (1400 * k + (6 + 6 * i) + 1) < 0 by rw [f2]; exact neg1_lt.mp (by have h9 := (y.2 i (by omega)).2.2.1; split at h9; exact Int32.lt_of_le_of_lt hna h9; exact h9)) (fun z => z c_153))) G (lv_sub hl [0, 1, 2, 3] rfl)
                  · refine lv_aload_n hx hb dX11_readEntry_156 rfl (lv_at hl 1 rfl) ?_
                    refine k_mga C G 29 (by decide) mr_29 fl_X11_56 rfl dX11_readEntry_157 ?_
                    refine lv_iload_n hx hb dX11_readEntry_160 rfl (lv_at hl 0 rfl) ?_
                    refine k_mil (v := nI bb_3) (i := i) C G 12 (k := 29) (n := 256) mp_29 (by decide) (by omega) pk_us dX11_readEntry_161 ?_
                    refine lv_bipush (v := 8) hx hb dX11_readEntry_162 (by decide) ?_
                    refine lv_icmp_ge (tgt := 171) hx hb dX11_readEntry_164 (by decide) (fun c_164 => ?_) (fun c_164 => ?_)
                    · have n_164 := nb_le (a := 8) (b := bb_3) c_164 (by omega) (by omega)
                      refine lv_iconst (v := 0) hx hb dX11_readEntry_171 (by decide) ?_
                      refine k_mpi (v := 0) (ty := .boolean) C G 18 (by decide) mr_18 fl_X11_175 rfl rfl rfl rfl rfl dX11_readEntry_172 (fun H locs (G : wd Z A s (mdW Z h ad (upd iv3_ 18 0) (ua (ua (ua av 27 (upd (av 27) i (nI bb_1))) 28 (upd (av 28) i (r4 (av 3) (1400 * k + (6 + 6 * i) + 1)))) 29 (upd (av 29) i (nI bb_3)))) H locs) => ?_)
                      refine lv_iload_n hx hb dX11_readEntry_175 rfl (lv_at hl 0 rfl) ?_
                      refine lv_if_eq (tgt := 249) hx hb dX11_readEntry_176 (by decide) (fun c_176 => ?_) (fun c_176 => ?_)
                      · have n_176 := nb_eq (a := i) (b := 0) c_176 (by omega) (by omega)
                        refine lv_iinc (v := nI (i + 1)) (lv' := [(3, .int (nI (i + 1))), (0, .ref h), (1, .int v), (2, .int (nI k))]) hx hb dX11_readEntry_249 hl (k := 0) rfl (nI_1 _) (by decide) rfl (fun ls hl => ?_)
                        refine lv_goto (tgt := 68) hx hb dX11_readEntry_252 (by decide) ?_
                        have hiL : 6 + 6 * i + 6 ≤ o.2.2.length - 4 := by omega
                        have f1 : bb_1 = aK (fnB o.2.2) i := by rw [hbb_1, hsA 3 (by decide)]; exact mo_ub hat hk (by omega)
                        have f2 : r4 (av 3) (1400 * k + (6 + 6 * i) + 1) = aN (fnB o.2.2) i := by rw [hsA 3 (by decide), Nat.add_assoc]; exact mo_r4 hat hk (by omega)
                        have f3 : bb_3 = aP (fnB o.2.2) i := by rw [hbb_3, hsA 3 (by decide), show 1400 * k + (6 + 6 * i) + 1 + 4 = 1400 * k + (6 + 6 * i + 5) by omega]; exact mo_ub hat hk (by omega)
                        have hka : aKa (fnB o.2.2) i ≤ 2 := by
                          by_cases e0 : i = 0
                          · rw [e0]; exact Nat.le_refl _
                          · obtain ⟨i2, e2⟩ : ∃ i2, i = i2 + 1 := ⟨i - 1, by omega⟩
                            rw [e2]; exact (hA i2 (by omega)).2.2.2.2.2
                        have hna : -1 ≤ aNa (fnB o.2.2) i := by
                          by_cases e0 : i = 0
                          · rw [e0]; exact Int32.le_refl _
                          · obtain ⟨i2, e2⟩ : ∃ i2, i = i2 + 1 := ⟨i - 1, by omega⟩
                            rw [e2]; exact Int32.le_of_lt (neg1_lt.mpr (hA i2 (by omega)).2.2.2.2.1)
                        exact lp_mre0 C rfl (hp0 (upd iv3_ 18 0) (ua (ua (ua av 27 (upd (av 27) i (nI bb_1))) 28 (upd (av 28) i (r4 (av 3) (1400 * k + (6 + 6 * i) + 1)))) 29 (upd (av 29) i (nI bb_3))) ((((hsI.tr hs1 (by decide)).tr hs2 (by decide)).tr hs3 (by decide)).up (by decide) _) (((hsA.up (by decide) _).up (by decide) _).up (by decide) _) (fun y => by
                          have := (y.2 i (by omega)).2.2.2; omega)) G (lv_sub hl [0, 1, 2, 3] rfl)
                      · have n_176 := nb_ne (a := i) (b := 0) c_176 (by omega) (by omega)
                        refine lv_aload_n hx hb dX11_readEntry_179 rfl (lv_at hl 1 rfl) ?_
                        refine k_mgi (v := 0) C G 18 (by decide) mr_18 rfl fl_X11_175 rfl dX11_readEntry_180 ?_
                        refine lv_if_ne (tgt := 189) hx hb dX11_readEntry_183 (by decide) (fun c_183 => ?_) (fun c_183 => ?_)
                        · exact absurd c_183 (by decide)
                        · have n_183 := nb_eq (a := 0) (b := 0) c_183 (by omega) (by omega)
                          refine lv_goto (tgt := 249) hx hb dX11_readEntry_186 (by decide) ?_
                          refine lv_iinc (v := nI (i + 1)) (lv' := [(3, .int (nI (i + 1))), (0, .ref h), (1, .int v), (2, .int (nI k))]) hx hb dX11_readEntry_249 hl (k := 0) rfl (nI_1 _) (by decide) rfl (fun ls hl => ?_)
                          refine lv_goto (tgt := 68) hx hb dX11_readEntry_252 (by decide) ?_
                          have hiL : 6 + 6 * i + 6 ≤ o.2.2.length - 4 := by omega
                          have f1 : bb_1 = aK (fnB o.2.2) i := by rw [hbb_1, hsA 3 (by decide)]; exact mo_ub hat hk (by omega)
                          have f2 : r4 (av 3) (1400 * k + (6 + 6 * i) + 1) = aN (fnB o.2.2) i := by rw [hsA 3 (by decide), Nat.add_assoc]; exact mo_r4 hat hk (by omega)
                          have f3 : bb_3 = aP (fnB o.2.2) i := by rw [hbb_3, hsA 3 (by decide), show 1400 * k + (6 + 6 * i) + 1 + 4 = 1400 * k + (6 + 6 * i + 5) by omega]; exact mo_ub hat hk (by omega)
                          have hka : aKa (fnB o.2.2) i ≤ 2 := by
                            by_cases e0 : i = 0
                            · rw [e0]; exact Nat.le_refl _
                            · obtain ⟨i2, e2⟩ : ∃ i2, i = i2 + 1 := ⟨i - 1, by omega⟩
                              rw [e2]; exact (hA i2 (by omega)).2.2.2.2.2
                          have hna : -1 ≤ aNa (fnB o.2.2) i := by
                            by_cases e0 : i = 0
                            · rw [e0]; exact Int32.le_refl _
                            · obtain ⟨i2, e2⟩ : ∃ i2, i = i2 + 1 := ⟨i - 1, by omega⟩
                              rw [e2]; exact Int32.le_of_lt (neg1_lt.mpr (hA i2 (by omega)).2.2.2.2.1)
                          exact lp_mre0 C rfl (hp0 (upd iv3_ 18 0) (ua (ua (ua av 27 (upd (av 27) i (nI bb_1))) 28 (upd (av 28) i (r4 (av 3) (1400 * k + (6 + 6 * i) + 1)))) 29 (upd (av 29) i (nI bb_3))) ((((hsI.tr hs1 (by decide)).tr hs2 (by decide)).tr hs3 (by decide)).up (by decide) _) (((hsA.up (by decide) _).up (by decide) _).up (by decide) _) (fun y => by
                            have := (y.2 i (by omega)).2.2.2; omega)) G (lv_sub hl [0, 1, 2, 3] rfl)
                    · have n_164 := nb_nle (a := 8) (b := bb_3) c_164 (by omega) (by omega)
                      refine lv_iconst (v := 1) hx hb dX11_readEntry_167 (by decide) ?_
                      refine lv_goto (tgt := 172) hx hb dX11_readEntry_168 (by decide) ?_
                      refine k_mpi (v := 1) (ty := .boolean) C G 18 (by decide) mr_18 fl_X11_175 rfl rfl rfl rfl rfl dX11_readEntry_172 (fun H locs (G : wd Z A s (mdW Z h ad (upd iv3_ 18 1) (ua (ua (ua av 27 (upd (av 27) i (nI bb_1))) 28 (upd (av 28) i (r4 (av 3) (1400 * k + (6 + 6 * i) + 1)))) 29 (upd (av 29) i (nI bb_3)))) H locs) => ?_)
                      refine lv_iload_n hx hb dX11_readEntry_175 rfl (lv_at hl 0 rfl) ?_
                      refine lv_if_eq (tgt := 249) hx hb dX11_readEntry_176 (by decide) (fun c_176 => ?_) (fun c_176 => ?_)
                      · have n_176 := nb_eq (a := i) (b := 0) c_176 (by omega) (by omega)
                        refine lv_iinc (v := nI (i + 1)) (lv' := [(3, .int (nI (i + 1))), (0, .ref h), (1, .int v), (2, .int (nI k))]) hx hb dX11_readEntry_249 hl (k := 0) rfl (nI_1 _) (by decide) rfl (fun ls hl => ?_)
                        refine lv_goto (tgt := 68) hx hb dX11_readEntry_252 (by decide) ?_
                        have hiL : 6 + 6 * i + 6 ≤ o.2.2.length - 4 := by omega
                        have f1 : bb_1 = aK (fnB o.2.2) i := by rw [hbb_1, hsA 3 (by decide)]; exact mo_ub hat hk (by omega)
                        have f2 : r4 (av 3) (1400 * k + (6 + 6 * i) + 1) = aN (fnB o.2.2) i := by rw [hsA 3 (by decide), Nat.add_assoc]; exact mo_r4 hat hk (by omega)
                        have f3 : bb_3 = aP (fnB o.2.2) i := by rw [hbb_3, hsA 3 (by decide), show 1400 * k + (6 + 6 * i) + 1 + 4 = 1400 * k + (6 + 6 * i + 5) by omega]; exact mo_ub hat hk (by omega)
                        have hka : aKa (fnB o.2.2) i ≤ 2 := by
                          by_cases e0 : i = 0
                          · rw [e0]; exact Nat.le_refl _
                          · obtain ⟨i2, e2⟩ : ∃ i2, i = i2 + 1 := ⟨i - 1, by omega⟩
                            rw [e2]; exact (hA i2 (by omega)).2.2.2.2.2
                        have hna : -1 ≤ aNa (fnB o.2.2) i := by
                          by_cases e0 : i = 0
                          · rw [e0]; exact Int32.le_refl _
                          · obtain ⟨i2, e2⟩ : ∃ i2, i = i2 + 1 := ⟨i - 1, by omega⟩
                            rw [e2]; exact Int32.le_of_lt (neg1_lt.mpr (hA i2 (by omega)).2.2.2.2.1)
                        have hk12 : 1 ≤ aK (fnB o.2.2) i ∧ aK (fnB o.2.2) i ≤ 2 := by rw [← f1]; omega
                        have hnn : ¬ aN (fnB o.2.2) i < 0 := by rw [← f2]; exact c_153
                        have hp8 : aP (fnB o.2.2) i < 8 := by rw [← f3]; omega
                        have hen2 : enC (fnB o.2.2) i := by
                          have hi0 : i = 0 := by omega
                          refine ⟨hk12.1, by rw [hi0]; rw [hi0] at hk12; exact hk12.2, ?_, hp8⟩
                          split
                          · rw [hi0]; rw [hi0] at hnn; exact neg1_lt.mpr hnn
                          · exact neg1_lt.mpr hnn
                        exact ih (i + 1) (upd iv3_ 18 1) (ua (ua (ua av 27 (upd (av 27) i (nI bb_1))) 28 (upd (av 28) i (r4 (av 3) (1400 * k + (6 + 6 * i) + 1)))) 29 (upd (av 29) i (nI bb_3))) (by omega) (h16_3.trans (congrArg nI (by omega))) rfl ((((hsI.tr hs1 (by decide)).tr hs2 (by decide)).tr hs3 (by decide)).up (by decide) _) (((hsA.up (by decide) _).up (by decide) _).up (by decide) _) (fun j hj => by
                          by_cases e : j = i
                          · subst e
                            exact ⟨pk_us.trans (by rw [f1]), pk_us.trans f2, pk_us.trans (by rw [f3]), hen2, hnn, hk12.2⟩
                          · obtain ⟨a1, a2, a3, a4⟩ := hA j (by omega)
                            exact ⟨(pk_un e).trans a1, (pk_un e).trans a2, (pk_un e).trans a3, a4⟩) _ _ _ G (lv_sub hl [0, 1, 2, 3] rfl)
                      · have n_176 := nb_ne (a := i) (b := 0) c_176 (by omega) (by omega)
                        refine lv_aload_n hx hb dX11_readEntry_179 rfl (lv_at hl 1 rfl) ?_
                        refine k_mgi (v := 1) C G 18 (by decide) mr_18 rfl fl_X11_175 rfl dX11_readEntry_180 ?_
                        refine lv_if_ne (tgt := 189) hx hb dX11_readEntry_183 (by decide) (fun c_183 => ?_) (fun c_183 => ?_)
                        · have n_183 := nb_ne (a := 1) (b := 0) c_183 (by omega) (by omega)
                          refine lv_aload_n hx hb dX11_readEntry_189 rfl (lv_at hl 1 rfl) ?_
                          refine k_mga C G 27 (by decide) mr_27 fl_X11_50 rfl dX11_readEntry_190 ?_
                          refine lv_iload_n hx hb dX11_readEntry_193 rfl (lv_at hl 0 rfl) ?_
                          refine k_mil (v := nI bb_1) (i := i) C G 10 (k := 27) (n := 256) mp_27 (by decide) (by omega) pk_us dX11_readEntry_194 ?_
                          refine lv_aload_n hx hb dX11_readEntry_195 rfl (lv_at hl 1 rfl) ?_
                          refine k_mga C G 27 (by decide) mr_27 fl_X11_50 rfl dX11_readEntry_196 ?_
                          refine lv_iload_n hx hb dX11_readEntry_199 rfl (lv_at hl 0 rfl) ?_
                          refine lv_iconst (v := 1) hx hb dX11_readEntry_200 (by decide) ?_
                          refine lv_isub hx hb dX11_readEntry_201 ?_
                          refine k_topi (y := nI (i - 1)) (pk_sub (a := i) (b := 1) (by omega)) ?_
                          refine k_mil (v := nI (aK (fnB o.2.2) (i - 1))) (i := i - 1) C G 10 (k := 27) (n := 256) mp_27 (by decide) (by omega) ((pk_un (show i - 1 ≠ i by omega)).trans (hA (i - 1) (by omega)).1) dX11_readEntry_202 ?_
                          refine lv_icmp_ne (tgt := 226) hx hb dX11_readEntry_203 (by decide) (fun c_203 => ?_) (fun c_203 => ?_)
                          · have hkb := (hA (i - 1) (by omega)).2.2.2.2.2
                            have n_203 := nb_ne (a := bb_1) (b := aK (fnB o.2.2) (i - 1)) c_203 (by omega) (by omega)
                            refine lv_aload_n hx hb dX11_readEntry_226 rfl (lv_at hl 1 rfl) ?_
                            refine k_mga C G 27 (by decide) mr_27 fl_X11_50 rfl dX11_readEntry_227 ?_
                            refine lv_iload_n hx hb dX11_readEntry_230 rfl (lv_at hl 0 rfl) ?_
                            refine k_mil (v := nI bb_1) (i := i) C G 10 (k := 27) (n := 256) mp_27 (by decide) (by omega) pk_us dX11_readEntry_231 ?_
                            refine lv_iconst (v := 1) hx hb dX11_readEntry_232 (by decide) ?_
                            refine lv_icmp_ne (tgt := 240) hx hb dX11_readEntry_233 (by decide) (fun c_233 => ?_) (fun c_233 => ?_)
                            · have n_233 := nb_ne (a := bb_1) (b := 1) c_233 (by omega) (by omega)
                              refine lv_iconst (v := 0) hx hb dX11_readEntry_240 (by decide) ?_
                              refine lv_istore (lv' := [(4, .int 0), (3, .int (nI i)), (0, .ref h), (1, .int v), (2, .int (nI k))]) hx hb dX11_readEntry_241 hl (by decide) rfl (fun ls hl => ?_)
                              refine lv_aload_n hx hb dX11_readEntry_243 rfl (lv_at hl 2 rfl) ?_
                              refine lv_iload hx hb dX11_readEntry_244 (lv_at hl 0 rfl) ?_
                              refine k_mpi (v := 0) (ty := .boolean) C G 18 (by decide) mr_18 fl_X11_175 rfl rfl rfl rfl rfl dX11_readEntry_246 (fun H locs (G : wd Z A s (mdW Z h ad (upd (upd iv3_ 18 1) 18 0) (ua (ua (ua av 27 (upd (av 27) i (nI bb_1))) 28 (upd (av 28) i (r4 (av 3) (1400 * k + (6 + 6 * i) + 1)))) 29 (upd (av 29) i (nI bb_3)))) H locs) => ?_)
                              refine lv_iinc (v := nI (i + 1)) (lv' := [(3, .int (nI (i + 1))), (4, .int 0), (0, .ref h), (1, .int v), (2, .int (nI k))]) hx hb dX11_readEntry_249 hl (k := 1) rfl (nI_1 _) (by decide) rfl (fun ls hl => ?_)
                              refine lv_goto (tgt := 68) hx hb dX11_readEntry_252 (by decide) ?_
                              have hiL : 6 + 6 * i + 6 ≤ o.2.2.length - 4 := by omega
                              have f1 : bb_1 = aK (fnB o.2.2) i := by rw [hbb_1, hsA 3 (by decide)]; exact mo_ub hat hk (by omega)
                              have f2 : r4 (av 3) (1400 * k + (6 + 6 * i) + 1) = aN (fnB o.2.2) i := by rw [hsA 3 (by decide), Nat.add_assoc]; exact mo_r4 hat hk (by omega)
                              have f3 : bb_3 = aP (fnB o.2.2) i := by rw [hbb_3, hsA 3 (by decide), show 1400 * k + (6 + 6 * i) + 1 + 4 = 1400 * k + (6 + 6 * i + 5) by omega]; exact mo_ub hat hk (by omega)
                              have hka : aKa (fnB o.2.2) i ≤ 2 := by
                                by_cases e0 : i = 0
                                · rw [e0]; exact Nat.le_refl _
                                · obtain ⟨i2, e2⟩ : ∃ i2, i = i2 + 1 := ⟨i - 1, by omega⟩
                                  rw [e2]; exact (hA i2 (by omega)).2.2.2.2.2
                              have hna : -1 ≤ aNa (fnB o.2.2) i := by
                                by_cases e0 : i = 0
                                · rw [e0]; exact Int32.le_refl _
                                · obtain ⟨i2, e2⟩ : ∃ i2, i = i2 + 1 := ⟨i - 1, by omega⟩
                                  rw [e2]; exact Int32.le_of_lt (neg1_lt.mpr (hA i2 (by omega)).2.2.2.2.1)
                              exact lp_mre0 C rfl (hp0 (upd (upd iv3_ 18 1) 18 0) (ua (ua (ua av 27 (upd (av 27) i (nI bb_1))) 28 (upd (av 28) i (r4 (av 3) (1400 * k + (6 + 6 * i) + 1)))) 29 (upd (av 29) i (nI bb_3))) (((((hsI.tr hs1 (by decide)).tr hs2 (by decide)).tr hs3 (by decide)).up (by decide) _).up (by decide) _) (((hsA.up (by decide) _).up (by decide) _).up (by decide) _) (fun y => by
                                obtain ⟨i2, e2⟩ : ∃ i2, i = i2 + 1 := ⟨i - 1, by omega⟩
                                have h9 := (y.2 i (by omega)).2.1
                                have e5 : aKa (fnB o.2.2) i = aK (fnB o.2.2) (i - 1) := by rw [e2]; rfl
                                rw [e5] at h9
                                have h8 := (hA (i - 1) (by omega)).2.2.2.2.2
                                omega)) G (lv_sub hl [0, 2, 3, 4] rfl)
                            · have n_233 := nb_eq (a := bb_1) (b := 1) c_233 (by omega) (by omega)
                              refine lv_iconst (v := 1) hx hb dX11_readEntry_236 (by decide) ?_
                              refine lv_goto (tgt := 241) hx hb dX11_readEntry_237 (by decide) ?_
                              refine lv_istore (lv' := [(4, .int 1), (3, .int (nI i)), (0, .ref h), (1, .int v), (2, .int (nI k))]) hx hb dX11_readEntry_241 hl (by decide) rfl (fun ls hl => ?_)
                              refine lv_aload_n hx hb dX11_readEntry_243 rfl (lv_at hl 2 rfl) ?_
                              refine lv_iload hx hb dX11_readEntry_244 (lv_at hl 0 rfl) ?_
                              refine k_mpi (v := 1) (ty := .boolean) C G 18 (by decide) mr_18 fl_X11_175 rfl rfl rfl rfl rfl dX11_readEntry_246 (fun H locs (G : wd Z A s (mdW Z h ad (upd (upd iv3_ 18 1) 18 1) (ua (ua (ua av 27 (upd (av 27) i (nI bb_1))) 28 (upd (av 28) i (r4 (av 3) (1400 * k + (6 + 6 * i) + 1)))) 29 (upd (av 29) i (nI bb_3)))) H locs) => ?_)
                              refine lv_iinc (v := nI (i + 1)) (lv' := [(3, .int (nI (i + 1))), (4, .int 1), (0, .ref h), (1, .int v), (2, .int (nI k))]) hx hb dX11_readEntry_249 hl (k := 1) rfl (nI_1 _) (by decide) rfl (fun ls hl => ?_)
                              refine lv_goto (tgt := 68) hx hb dX11_readEntry_252 (by decide) ?_
                              have hiL : 6 + 6 * i + 6 ≤ o.2.2.length - 4 := by omega
                              have f1 : bb_1 = aK (fnB o.2.2) i := by rw [hbb_1, hsA 3 (by decide)]; exact mo_ub hat hk (by omega)
                              have f2 : r4 (av 3) (1400 * k + (6 + 6 * i) + 1) = aN (fnB o.2.2) i := by rw [hsA 3 (by decide), Nat.add_assoc]; exact mo_r4 hat hk (by omega)
                              have f3 : bb_3 = aP (fnB o.2.2) i := by rw [hbb_3, hsA 3 (by decide), show 1400 * k + (6 + 6 * i) + 1 + 4 = 1400 * k + (6 + 6 * i + 5) by omega]; exact mo_ub hat hk (by omega)
                              have hka : aKa (fnB o.2.2) i ≤ 2 := by
                                by_cases e0 : i = 0
                                · rw [e0]; exact Nat.le_refl _
                                · obtain ⟨i2, e2⟩ : ∃ i2, i = i2 + 1 := ⟨i - 1, by omega⟩
                                  rw [e2]; exact (hA i2 (by omega)).2.2.2.2.2
                              have hna : -1 ≤ aNa (fnB o.2.2) i := by
                                by_cases e0 : i = 0
                                · rw [e0]; exact Int32.le_refl _
                                · obtain ⟨i2, e2⟩ : ∃ i2, i = i2 + 1 := ⟨i - 1, by omega⟩
                                  rw [e2]; exact Int32.le_of_lt (neg1_lt.mpr (hA i2 (by omega)).2.2.2.2.1)
                              have hk12 : 1 ≤ aK (fnB o.2.2) i ∧ aK (fnB o.2.2) i ≤ 2 := by rw [← f1]; omega
                              have hnn : ¬ aN (fnB o.2.2) i < 0 := by rw [← f2]; exact c_153
                              have hp8 : aP (fnB o.2.2) i < 8 := by rw [← f3]; omega
                              have hen2 : enC (fnB o.2.2) i := by
                                obtain ⟨i2, e2⟩ : ∃ i2, i = i2 + 1 := ⟨i - 1, by omega⟩
                                have e5 : aKa (fnB o.2.2) i = aK (fnB o.2.2) (i - 1) := by rw [e2]; rfl
                                have h8 := (hA (i - 1) (by omega)).2.2.2.2.2
                                have h7 := (hA (i - 1) (by omega)).2.2.2.1.1
                                refine ⟨hk12.1, by rw [e5]; omega, ?_, hp8⟩
                                rw [if_neg (by rw [e5]; omega)]
                                exact neg1_lt.mpr hnn
                              exact ih (i + 1) (upd (upd iv3_ 18 1) 18 1) (ua (ua (ua av 27 (upd (av 27) i (nI bb_1))) 28 (upd (av 28) i (r4 (av 3) (1400 * k + (6 + 6 * i) + 1)))) 29 (upd (av 29) i (nI bb_3))) (by omega) (h16_3.trans (congrArg nI (by omega))) rfl (((((hsI.tr hs1 (by decide)).tr hs2 (by decide)).tr hs3 (by decide)).up (by decide) _).up (by decide) _) (((hsA.up (by decide) _).up (by decide) _).up (by decide) _) (fun j hj => by
                                by_cases e : j = i
                                · subst e
                                  exact ⟨pk_us.trans (by rw [f1]), pk_us.trans f2, pk_us.trans (by rw [f3]), hen2, hnn, hk12.2⟩
                                · obtain ⟨a1, a2, a3, a4⟩ := hA j (by omega)
                                  exact ⟨(pk_un e).trans a1, (pk_un e).trans a2, (pk_un e).trans a3, a4⟩) _ _ _ G (lv_sub hl [0, 2, 3, 4] rfl)
                          · have hkb := (hA (i - 1) (by omega)).2.2.2.2.2
                            have n_203 := nb_eq (a := bb_1) (b := aK (fnB o.2.2) (i - 1)) c_203 (by omega) (by omega)
                            refine lv_aload_n hx hb dX11_readEntry_206 rfl (lv_at hl 1 rfl) ?_
                            refine k_mga C G 28 (by decide) mr_28 fl_X11_53 rfl dX11_readEntry_207 ?_
                            refine lv_iload_n hx hb dX11_readEntry_210 rfl (lv_at hl 0 rfl) ?_
                            refine lv_iconst (v := 1) hx hb dX11_readEntry_211 (by decide) ?_
                            refine lv_isub hx hb dX11_readEntry_212 ?_
                            refine k_topi (y := nI (i - 1)) (pk_sub (a := i) (b := 1) (by omega)) ?_
                            refine k_mil (v := aN (fnB o.2.2) (i - 1)) (i := i - 1) C G 11 (k := 28) (n := 256) mp_28 (by decide) (by omega) ((pk_un (show i - 1 ≠ i by omega)).trans (hA (i - 1) (by omega)).2.1) dX11_readEntry_213 ?_
                            refine lv_aload_n hx hb dX11_readEntry_214 rfl (lv_at hl 1 rfl) ?_
                            refine k_mga C G 28 (by decide) mr_28 fl_X11_53 rfl dX11_readEntry_215 ?_
                            refine lv_iload_n hx hb dX11_readEntry_218 rfl (lv_at hl 0 rfl) ?_
                            refine k_mil (v := r4 (av 3) (1400 * k + (6 + 6 * i) + 1)) (i := i) C G 11 (k := 28) (n := 256) mp_28 (by decide) (by omega) pk_us dX11_readEntry_219 ?_
                            refine kcM_i G (krS 2 rfl (As := [.int (aN (fnB o.2.2) (i - 1)), .int (r4 (av 3) (1400 * k + (6 + 6 * i) + 1))]) (rest := []) C G pmN (c_X11_isBelow Z l h ad (upd iv3_ 18 1) (ua (ua (ua av 27 (upd (av 27) i (nI bb_1))) 28 (upd (av 28) i (r4 (av 3) (1400 * k + (6 + 6 * i) + 1)))) 29 (upd (av 29) i (nI bb_3))) (aN (fnB o.2.2) (i - 1)) (r4 (av 3) (1400 * k + (6 + 6 * i) + 1)) _) (gdS ml_X11_239 sm_X11_isBelow ii_X11 co_X11_isBelow) (by decide +kernel) ⟨Nat.le_of_ble_eq_true rfl, Nat.le_of_ble_eq_true rfl⟩ hl rfl (Nat.le_of_ble_eq_true rfl) ⟨Nat.le_of_ble_eq_true rfl, Nat.le_of_ble_eq_true rfl⟩ dX11_readEntry_220) (fun r_220 u H locs hu G => ?_)
                            obtain ⟨r_220_e, rfl⟩ := hu
                            by_cases hbe : (aN (fnB o.2.2) (i - 1)).toBitVec.toNat < (r4 (av 3) (1400 * k + (6 + 6 * i) + 1)).toBitVec.toNat
                            · rw [if_pos hbe] at r_220_e
                              subst r_220_e
                              refine lv_goto (tgt := 241) hx hb dX11_readEntry_223 (by decide) ?_
                              refine lv_istore (lv' := [(4, .int 1), (3, .int (nI i)), (0, .ref h), (1, .int v), (2, .int (nI k))]) hx hb dX11_readEntry_241 hl (by decide) rfl (fun ls hl => ?_)
                              refine lv_aload_n hx hb dX11_readEntry_243 rfl (lv_at hl 2 rfl) ?_
                              refine lv_iload hx hb dX11_readEntry_244 (lv_at hl 0 rfl) ?_
                              refine k_mpi (v := 1) (ty := .boolean) C G 18 (by decide) mr_18 fl_X11_175 rfl rfl rfl rfl rfl dX11_readEntry_246 (fun H locs (G : wd Z A s (mdW Z h ad (upd (upd iv3_ 18 1) 18 1) (ua (ua (ua av 27 (upd (av 27) i (nI bb_1))) 28 (upd (av 28) i (r4 (av 3) (1400 * k + (6 + 6 * i) + 1)))) 29 (upd (av 29) i (nI bb_3)))) H locs) => ?_)
                              refine lv_iinc (v := nI (i + 1)) (lv' := [(3, .int (nI (i + 1))), (4, .int 1), (0, .ref h), (1, .int v), (2, .int (nI k))]) hx hb dX11_readEntry_249 hl (k := 1) rfl (nI_1 _) (by decide) rfl (fun ls hl => ?_)
                              refine lv_goto (tgt := 68) hx hb dX11_readEntry_252 (by decide) ?_
                              have hiL : 6 + 6 * i + 6 ≤ o.2.2.length - 4 := by omega
                              have f1 : bb_1 = aK (fnB o.2.2) i := by rw [hbb_1, hsA 3 (by decide)]; exact mo_ub hat hk (by omega)
                              have f2 : r4 (av 3) (1400 * k + (6 + 6 * i) + 1) = aN (fnB o.2.2) i := by rw [hsA 3 (by decide), Nat.add_assoc]; exact mo_r4 hat hk (by omega)
                              have f3 : bb_3 = aP (fnB o.2.2) i := by rw [hbb_3, hsA 3 (by decide), show 1400 * k + (6 + 6 * i) + 1 + 4 = 1400 * k + (6 + 6 * i + 5) by omega]; exact mo_ub hat hk (by omega)
                              have hka : aKa (fnB o.2.2) i ≤ 2 := by
                                by_cases e0 : i = 0
                                · rw [e0]; exact Nat.le_refl _
                                · obtain ⟨i2, e2⟩ : ∃ i2, i = i2 + 1 := ⟨i - 1, by omega⟩
                                  rw [e2]; exact (hA i2 (by omega)).2.2.2.2.2
                              have hna : -1 ≤ aNa (fnB o.2.2) i := by
                                by_cases e0 : i = 0
                                · rw [e0]; exact Int32.le_refl _
                                · obtain ⟨i2, e2⟩ : ∃ i2, i = i2 + 1 := ⟨i - 1, by omega⟩
                                  rw [e2]; exact Int32.le_of_lt (neg1_lt.mpr (hA i2 (by omega)).2.2.2.2.1)
                              have hk12 : 1 ≤ aK (fnB o.2.2) i ∧ aK (fnB o.2.2) i ≤ 2 := by rw [← f1]; omega
                              have hnn : ¬ aN (fnB o.2.2) i < 0 := by rw [← f2]; exact c_153
                              have hp8 : aP (fnB o.2.2) i < 8 := by rw [← f3]; omega
                              have hen2 : enC (fnB o.2.2) i := by
                                obtain ⟨i2, e2⟩ : ∃ i2, i = i2 + 1 := ⟨i - 1, by omega⟩
                                have ek : aK (fnB o.2.2) i = aKa (fnB o.2.2) i := by rw [← f1, e2]; show _ = aK (fnB o.2.2) i2; rw [show i2 = i - 1 by omega]; exact n_203
                                have e4 : aNa (fnB o.2.2) i = aN (fnB o.2.2) (i - 1) := by rw [e2]; rfl
                                refine ⟨hk12.1, Nat.le_of_eq ek, ?_, hp8⟩
                                rw [if_pos ek, e4]
                                rw [f2] at hbe
                                exact (bel_iff (hA (i - 1) (by omega)).2.2.2.2.1 hnn).mp hbe
                              exact ih (i + 1) (upd (upd iv3_ 18 1) 18 1) (ua (ua (ua av 27 (upd (av 27) i (nI bb_1))) 28 (upd (av 28) i (r4 (av 3) (1400 * k + (6 + 6 * i) + 1)))) 29 (upd (av 29) i (nI bb_3))) (by omega) (h16_3.trans (congrArg nI (by omega))) rfl (((((hsI.tr hs1 (by decide)).tr hs2 (by decide)).tr hs3 (by decide)).up (by decide) _).up (by decide) _) (((hsA.up (by decide) _).up (by decide) _).up (by decide) _) (fun j hj => by
                                by_cases e : j = i
                                · subst e
                                  exact ⟨pk_us.trans (by rw [f1]), pk_us.trans f2, pk_us.trans (by rw [f3]), hen2, hnn, hk12.2⟩
                                · obtain ⟨a1, a2, a3, a4⟩ := hA j (by omega)
                                  exact ⟨(pk_un e).trans a1, (pk_un e).trans a2, (pk_un e).trans a3, a4⟩) _ _ _ G (lv_sub hl [0, 2, 3, 4] rfl)
                            · rw [if_neg hbe] at r_220_e
                              subst r_220_e
                              refine lv_goto (tgt := 241) hx hb dX11_readEntry_223 (by decide) ?_
                              refine lv_istore (lv' := [(4, .int 0), (3, .int (nI i)), (0, .ref h), (1, .int v), (2, .int (nI k))]) hx hb dX11_readEntry_241 hl (by decide) rfl (fun ls hl => ?_)
                              refine lv_aload_n hx hb dX11_readEntry_243 rfl (lv_at hl 2 rfl) ?_
                              refine lv_iload hx hb dX11_readEntry_244 (lv_at hl 0 rfl) ?_
                              refine k_mpi (v := 0) (ty := .boolean) C G 18 (by decide) mr_18 fl_X11_175 rfl rfl rfl rfl rfl dX11_readEntry_246 (fun H locs (G : wd Z A s (mdW Z h ad (upd (upd iv3_ 18 1) 18 0) (ua (ua (ua av 27 (upd (av 27) i (nI bb_1))) 28 (upd (av 28) i (r4 (av 3) (1400 * k + (6 + 6 * i) + 1)))) 29 (upd (av 29) i (nI bb_3)))) H locs) => ?_)
                              refine lv_iinc (v := nI (i + 1)) (lv' := [(3, .int (nI (i + 1))), (4, .int 0), (0, .ref h), (1, .int v), (2, .int (nI k))]) hx hb dX11_readEntry_249 hl (k := 1) rfl (nI_1 _) (by decide) rfl (fun ls hl => ?_)
                              refine lv_goto (tgt := 68) hx hb dX11_readEntry_252 (by decide) ?_
                              have hiL : 6 + 6 * i + 6 ≤ o.2.2.length - 4 := by omega
                              have f1 : bb_1 = aK (fnB o.2.2) i := by rw [hbb_1, hsA 3 (by decide)]; exact mo_ub hat hk (by omega)
                              have f2 : r4 (av 3) (1400 * k + (6 + 6 * i) + 1) = aN (fnB o.2.2) i := by rw [hsA 3 (by decide), Nat.add_assoc]; exact mo_r4 hat hk (by omega)
                              have f3 : bb_3 = aP (fnB o.2.2) i := by rw [hbb_3, hsA 3 (by decide), show 1400 * k + (6 + 6 * i) + 1 + 4 = 1400 * k + (6 + 6 * i + 5) by omega]; exact mo_ub hat hk (by omega)
                              have hka : aKa (fnB o.2.2) i ≤ 2 := by
                                by_cases e0 : i = 0
                                · rw [e0]; exact Nat.le_refl _
                                · obtain ⟨i2, e2⟩ : ∃ i2, i = i2 + 1 := ⟨i - 1, by omega⟩
                                  rw [e2]; exact (hA i2 (by omega)).2.2.2.2.2
                              have hna : -1 ≤ aNa (fnB o.2.2) i := by
                                by_cases e0 : i = 0
                                · rw [e0]; exact Int32.le_refl _
                                · obtain ⟨i2, e2⟩ : ∃ i2, i = i2 + 1 := ⟨i - 1, by omega⟩
                                  rw [e2]; exact Int32.le_of_lt (neg1_lt.mpr (hA i2 (by omega)).2.2.2.2.1)
                              exact lp_mre0 C rfl (hp0 (upd (upd iv3_ 18 1) 18 0) (ua (ua (ua av 27 (upd (av 27) i (nI bb_1))) 28 (upd (av 28) i (r4 (av 3) (1400 * k + (6 + 6 * i) + 1)))) 29 (upd (av 29) i (nI bb_3))) (((((hsI.tr hs1 (by decide)).tr hs2 (by decide)).tr hs3 (by decide)).up (by decide) _).up (by decide) _) (((hsA.up (by decide) _).up (by decide) _).up (by decide) _) (fun y => by
                                obtain ⟨i2, e2⟩ : ∃ i2, i = i2 + 1 := ⟨i - 1, by omega⟩
                                have h9 := (y.2 i (by omega)).2.2.1
                                have ek : aK (fnB o.2.2) i = aKa (fnB o.2.2) i := by rw [← f1, e2]; show _ = aK (fnB o.2.2) i2; rw [show i2 = i - 1 by omega]; exact n_203
                                rw [if_pos ek] at h9
                                have e4 : aNa (fnB o.2.2) i = aN (fnB o.2.2) (i - 1) := by rw [e2]; rfl
                                rw [e4] at h9
                                exact hbe (by rw [f2]; exact (bel_iff (hA (i - 1) (by omega)).2.2.2.2.1 (by rw [← f2]; exact Int32.not_lt.mpr (Int32.not_lt.mp c_153))).mpr h9))) G (lv_sub hl [0, 2, 3, 4] rfl)
                        · exact absurd c_183 (by decide)
                · have n_134 := nb_ne (a := bb_1) (b := 1) c_134 (by omega) (by omega)
                  refine lv_aload_n hx hb dX11_readEntry_137 rfl (lv_at hl 1 rfl) ?_
                  refine k_mga C G 27 (by decide) mr_27 fl_X11_50 rfl dX11_readEntry_138 ?_
                  refine lv_iload_n hx hb dX11_readEntry_141 rfl (lv_at hl 0 rfl) ?_
                  refine k_mil (v := nI bb_1) (i := i) C G 10 (k := 27) (n := 256) mp_27 (by decide) (by omega) pk_us dX11_readEntry_142 ?_
                  refine lv_iconst (v := 2) hx hb dX11_readEntry_143 (by decide) ?_
                  refine lv_icmp_ne (tgt := 171) hx hb dX11_readEntry_144 (by decide) (fun c_144 => ?_) (fun c_144 => ?_)
                  · have n_144 := nb_ne (a := bb_1) (b := 2) c_144 (by omega) (by omega)
                    refine lv_iconst (v := 0) hx hb dX11_readEntry_171 (by decide) ?_
                    refine k_mpi (v := 0) (ty := .boolean) C G 18 (by decide) mr_18 fl_X11_175 rfl rfl rfl rfl rfl dX11_readEntry_172 (fun H locs (G : wd Z A s (mdW Z h ad (upd iv3_ 18 0) (ua (ua (ua av 27 (upd (av 27) i (nI bb_1))) 28 (upd (av 28) i (r4 (av 3) (1400 * k + (6 + 6 * i) + 1)))) 29 (upd (av 29) i (nI bb_3)))) H locs) => ?_)
                    refine lv_iload_n hx hb dX11_readEntry_175 rfl (lv_at hl 0 rfl) ?_
                    refine lv_if_eq (tgt := 249) hx hb dX11_readEntry_176 (by decide) (fun c_176 => ?_) (fun c_176 => ?_)
                    · have n_176 := nb_eq (a := i) (b := 0) c_176 (by omega) (by omega)
                      refine lv_iinc (v := nI (i + 1)) (lv' := [(3, .int (nI (i + 1))), (0, .ref h), (1, .int v), (2, .int (nI k))]) hx hb dX11_readEntry_249 hl (k := 0) rfl (nI_1 _) (by decide) rfl (fun ls hl => ?_)
                      refine lv_goto (tgt := 68) hx hb dX11_readEntry_252 (by decide) ?_
                      have hiL : 6 + 6 * i + 6 ≤ o.2.2.length - 4 := by omega
                      have f1 : bb_1 = aK (fnB o.2.2) i := by rw [hbb_1, hsA 3 (by decide)]; exact mo_ub hat hk (by omega)
                      have f2 : r4 (av 3) (1400 * k + (6 + 6 * i) + 1) = aN (fnB o.2.2) i := by rw [hsA 3 (by decide), Nat.add_assoc]; exact mo_r4 hat hk (by omega)
                      have f3 : bb_3 = aP (fnB o.2.2) i := by rw [hbb_3, hsA 3 (by decide), show 1400 * k + (6 + 6 * i) + 1 + 4 = 1400 * k + (6 + 6 * i + 5) by omega]; exact mo_ub hat hk (by omega)
                      have hka : aKa (fnB o.2.2) i ≤ 2 := by
                        by_cases e0 : i = 0
                        · rw [e0]; exact Nat.le_refl _
                        · obtain ⟨i2, e2⟩ : ∃ i2, i = i2 + 1 := ⟨i - 1, by omega⟩
                          rw [e2]; exact (hA i2 (by omega)).2.2.2.2.2
                      have hna : -1 ≤ aNa (fnB o.2.2) i := by
                        by_cases e0 : i = 0
                        · rw [e0]; exact Int32.le_refl _
                        · obtain ⟨i2, e2⟩ : ∃ i2, i = i2 + 1 := ⟨i - 1, by omega⟩
                          rw [e2]; exact Int32.le_of_lt (neg1_lt.mpr (hA i2 (by omega)).2.2.2.2.1)
                      exact lp_mre0 C rfl (hp0 (upd iv3_ 18 0) (ua (ua (ua av 27 (upd (av 27) i (nI bb_1))) 28 (upd (av 28) i (r4 (av 3) (1400 * k + (6 + 6 * i) + 1)))) 29 (upd (av 29) i (nI bb_3))) ((((hsI.tr hs1 (by decide)).tr hs2 (by decide)).tr hs3 (by decide)).up (by decide) _) (((hsA.up (by decide) _).up (by decide) _).up (by decide) _) (fun y => by
                        have := (y.2 i (by omega)).1; have := (y.2 i (by omega)).2.1; omega)) G (lv_sub hl [0, 1, 2, 3] rfl)
                    · have n_176 := nb_ne (a := i) (b := 0) c_176 (by omega) (by omega)
                      refine lv_aload_n hx hb dX11_readEntry_179 rfl (lv_at hl 1 rfl) ?_
                      refine k_mgi (v := 0) C G 18 (by decide) mr_18 rfl fl_X11_175 rfl dX11_readEntry_180 ?_
                      refine lv_if_ne (tgt := 189) hx hb dX11_readEntry_183 (by decide) (fun c_183 => ?_) (fun c_183 => ?_)
                      · exact absurd c_183 (by decide)
                      · have n_183 := nb_eq (a := 0) (b := 0) c_183 (by omega) (by omega)
                        refine lv_goto (tgt := 249) hx hb dX11_readEntry_186 (by decide) ?_
                        refine lv_iinc (v := nI (i + 1)) (lv' := [(3, .int (nI (i + 1))), (0, .ref h), (1, .int v), (2, .int (nI k))]) hx hb dX11_readEntry_249 hl (k := 0) rfl (nI_1 _) (by decide) rfl (fun ls hl => ?_)
                        refine lv_goto (tgt := 68) hx hb dX11_readEntry_252 (by decide) ?_
                        have hiL : 6 + 6 * i + 6 ≤ o.2.2.length - 4 := by omega
                        have f1 : bb_1 = aK (fnB o.2.2) i := by rw [hbb_1, hsA 3 (by decide)]; exact mo_ub hat hk (by omega)
                        have f2 : r4 (av 3) (1400 * k + (6 + 6 * i) + 1) = aN (fnB o.2.2) i := by rw [hsA 3 (by decide), Nat.add_assoc]; exact mo_r4 hat hk (by omega)
                        have f3 : bb_3 = aP (fnB o.2.2) i := by rw [hbb_3, hsA 3 (by decide), show 1400 * k + (6 + 6 * i) + 1 + 4 = 1400 * k + (6 + 6 * i + 5) by omega]; exact mo_ub hat hk (by omega)
                        have hka : aKa (fnB o.2.2) i ≤ 2 := by
                          by_cases e0 : i = 0
                          · rw [e0]; exact Nat.le_refl _
                          · obtain ⟨i2, e2⟩ : ∃ i2, i = i2 + 1 := ⟨i - 1, by omega⟩
                            rw [e2]; exact (hA i2 (by omega)).2.2.2.2.2
                        have hna : -1 ≤ aNa (fnB o.2.2) i := by
                          by_cases e0 : i = 0
                          · rw [e0]; exact Int32.le_refl _
                          · obtain ⟨i2, e2⟩ : ∃ i2, i = i2 + 1 := ⟨i - 1, by omega⟩
                            rw [e2]; exact Int32.le_of_lt (neg1_lt.mpr (hA i2 (by omega)).2.2.2.2.1)
                        exact lp_mre0 C rfl (hp0 (upd iv3_ 18 0) (ua (ua (ua av 27 (upd (av 27) i (nI bb_1))) 28 (upd (av 28) i (r4 (av 3) (1400 * k + (6 + 6 * i) + 1)))) 29 (upd (av 29) i (nI bb_3))) ((((hsI.tr hs1 (by decide)).tr hs2 (by decide)).tr hs3 (by decide)).up (by decide) _) (((hsA.up (by decide) _).up (by decide) _).up (by decide) _) (fun y => by
                          have := (y.2 i (by omega)).1; have := (y.2 i (by omega)).2.1; omega)) G (lv_sub hl [0, 1, 2, 3] rfl)
                  · have n_144 := nb_eq (a := bb_1) (b := 2) c_144 (by omega) (by omega)
                    refine lv_aload_n hx hb dX11_readEntry_147 rfl (lv_at hl 1 rfl) ?_
                    refine k_mga C G 28 (by decide) mr_28 fl_X11_53 rfl dX11_readEntry_148 ?_
                    refine lv_iload_n hx hb dX11_readEntry_151 rfl (lv_at hl 0 rfl) ?_
                    refine k_mil (v := r4 (av 3) (1400 * k + (6 + 6 * i) + 1)) (i := i) C G 11 (k := 28) (n := 256) mp_28 (by decide) (by omega) pk_us dX11_readEntry_152 ?_
                    refine lv_if_lt (tgt := 171) hx hb dX11_readEntry_153 (by decide) (fun c_153 => ?_) (fun c_153 => ?_)
                    · refine lv_iconst (v := 0) hx hb dX11_readEntry_171 (by decide) ?_
                      refine k_mpi (v := 0) (ty := .boolean) C G 18 (by decide) mr_18 fl_X11_175 rfl rfl rfl rfl rfl dX11_readEntry_172 (fun H locs (G : wd Z A s (mdW Z h ad (upd iv3_ 18 0) (ua (ua (ua av 27 (upd (av 27) i (nI bb_1))) 28 (upd (av 28) i (r4 (av 3) (1400 * k + (6 + 6 * i) + 1)))) 29 (upd (av 29) i (nI bb_3)))) H locs) => ?_)
                      refine lv_iload_n hx hb dX11_readEntry_175 rfl (lv_at hl 0 rfl) ?_
                      refine lv_if_eq (tgt := 249) hx hb dX11_readEntry_176 (by decide) (fun c_176 => ?_) (fun c_176 => ?_)
                      · have n_176 := nb_eq (a := i) (b := 0) c_176 (by omega) (by omega)
                        refine lv_iinc (v := nI (i + 1)) (lv' := [(3, .int (nI (i + 1))), (0, .ref h), (1, .int v), (2, .int (nI k))]) hx hb dX11_readEntry_249 hl (k := 0) rfl (nI_1 _) (by decide) rfl (fun ls hl => ?_)
                        refine lv_goto (tgt := 68) hx hb dX11_readEntry_252 (by decide) ?_
                        have hiL : 6 + 6 * i + 6 ≤ o.2.2.length - 4 := by omega
                        have f1 : bb_1 = aK (fnB o.2.2) i := by rw [hbb_1, hsA 3 (by decide)]; exact mo_ub hat hk (by omega)
                        have f2 : r4 (av 3) (1400 * k + (6 + 6 * i) + 1) = aN (fnB o.2.2) i := by rw [hsA 3 (by decide), Nat.add_assoc]; exact mo_r4 hat hk (by omega)
                        have f3 : bb_3 = aP (fnB o.2.2) i := by rw [hbb_3, hsA 3 (by decide), show 1400 * k + (6 + 6 * i) + 1 + 4 = 1400 * k + (6 + 6 * i + 5) by omega]; exact mo_ub hat hk (by omega)
                        have hka : aKa (fnB o.2.2) i ≤ 2 := by
                          by_cases e0 : i = 0
                          · rw [e0]; exact Nat.le_refl _
                          · obtain ⟨i2, e2⟩ : ∃ i2, i = i2 + 1 := ⟨i - 1, by omega⟩
                            rw [e2]; exact (hA i2 (by omega)).2.2.2.2.2
                        have hna : -1 ≤ aNa (fnB o.2.2) i := by
                          by_cases e0 : i = 0
                          · rw [e0]; exact Int32.le_refl _
                          · obtain ⟨i2, e2⟩ : ∃ i2, i = i2 + 1 := ⟨i - 1, by omega⟩
                            rw [e2]; exact Int32.le_of_lt (neg1_lt.mpr (hA i2 (by omega)).2.2.2.2.1)
                        exact lp_mre0 C rfl (hp0 (upd iv3_ 18 0) (ua (ua (ua av 27 (upd (av 27) i (nI bb_1))) 28 (upd (av 28) i (r4 (av 3) (1400 * k + (6 + 6 * i) + 1)))) 29 (upd (av 29) i (nI bb_3))) ((((hsI.tr hs1 (by decide)).tr hs2 (by decide)).tr hs3 (by decide)).up (by decide) _) (((hsA.up (by decide) _).up (by decide) _).up (by decide) _) (fun y => by
                          exact absurd (show ¬ r4 (av 3) (1400 * k + (6 + 6 * i) + 1) < 0 by rw [f2]; exact neg1_lt.mp (by have h9 := (y.2 i (by omega)).2.2.1; split at h9; exact Int32.lt_of_le_of_lt hna h9; exact h9)) (fun z => z c_153))) G (lv_sub hl [0, 1, 2, 3] rfl)
                      · have n_176 := nb_ne (a := i) (b := 0) c_176 (by omega) (by omega)
                        refine lv_aload_n hx hb dX11_readEntry_179 rfl (lv_at hl 1 rfl) ?_
                        refine k_mgi (v := 0) C G 18 (by decide) mr_18 rfl fl_X11_175 rfl dX11_readEntry_180 ?_
                        refine lv_if_ne (tgt := 189) hx hb dX11_readEntry_183 (by decide) (fun c_183 => ?_) (fun c_183 => ?_)
                        · exact absurd c_183 (by decide)
                        · have n_183 := nb_eq (a := 0) (b := 0) c_183 (by omega) (by omega)
                          refine lv_goto (tgt := 249) hx hb dX11_readEntry_186 (by decide) ?_
                          refine lv_iinc (v := nI (i + 1)) (lv' := [(3, .int (nI (i + 1))), (0, .ref h), (1, .int v), (2, .int (nI k))]) hx hb dX11_readEntry_249 hl (k := 0) rfl (nI_1 _) (by decide) rfl (fun ls hl => ?_)
                          refine lv_goto (tgt := 68) hx hb dX11_readEntry_252 (by decide) ?_
                          have hiL : 6 + 6 * i + 6 ≤ o.2.2.length - 4 := by omega
                          have f1 : bb_1 = aK (fnB o.2.2) i := by rw [hbb_1, hsA 3 (by decide)]; exact mo_ub hat hk (by omega)
                          have f2 : r4 (av 3) (1400 * k + (6 + 6 * i) + 1) = aN (fnB o.2.2) i := by rw [hsA 3 (by decide), Nat.add_assoc]; exact mo_r4 hat hk (by omega)
                          have f3 : bb_3 = aP (fnB o.2.2) i := by rw [hbb_3, hsA 3 (by decide), show 1400 * k + (6 + 6 * i) + 1 + 4 = 1400 * k + (6 + 6 * i + 5) by omega]; exact mo_ub hat hk (by omega)
                          have hka : aKa (fnB o.2.2) i ≤ 2 := by
                            by_cases e0 : i = 0
                            · rw [e0]; exact Nat.le_refl _
                            · obtain ⟨i2, e2⟩ : ∃ i2, i = i2 + 1 := ⟨i - 1, by omega⟩
                              rw [e2]; exact (hA i2 (by omega)).2.2.2.2.2
                          have hna : -1 ≤ aNa (fnB o.2.2) i := by
                            by_cases e0 : i = 0
                            · rw [e0]; exact Int32.le_refl _
                            · obtain ⟨i2, e2⟩ : ∃ i2, i = i2 + 1 := ⟨i - 1, by omega⟩
                              rw [e2]; exact Int32.le_of_lt (neg1_lt.mpr (hA i2 (by omega)).2.2.2.2.1)
                          exact lp_mre0 C rfl (hp0 (upd iv3_ 18 0) (ua (ua (ua av 27 (upd (av 27) i (nI bb_1))) 28 (upd (av 28) i (r4 (av 3) (1400 * k + (6 + 6 * i) + 1)))) 29 (upd (av 29) i (nI bb_3))) ((((hsI.tr hs1 (by decide)).tr hs2 (by decide)).tr hs3 (by decide)).up (by decide) _) (((hsA.up (by decide) _).up (by decide) _).up (by decide) _) (fun y => by
                            exact absurd (show ¬ r4 (av 3) (1400 * k + (6 + 6 * i) + 1) < 0 by rw [f2]; exact neg1_lt.mp (by have h9 := (y.2 i (by omega)).2.2.1; split at h9; exact Int32.lt_of_le_of_lt hna h9; exact h9)) (fun z => z c_153))) G (lv_sub hl [0, 1, 2, 3] rfl)
                    · refine lv_aload_n hx hb dX11_readEntry_156 rfl (lv_at hl 1 rfl) ?_
                      refine k_mga C G 29 (by decide) mr_29 fl_X11_56 rfl dX11_readEntry_157 ?_
                      refine lv_iload_n hx hb dX11_readEntry_160 rfl (lv_at hl 0 rfl) ?_
                      refine k_mil (v := nI bb_3) (i := i) C G 12 (k := 29) (n := 256) mp_29 (by decide) (by omega) pk_us dX11_readEntry_161 ?_
                      refine lv_bipush (v := 8) hx hb dX11_readEntry_162 (by decide) ?_
                      refine lv_icmp_ge (tgt := 171) hx hb dX11_readEntry_164 (by decide) (fun c_164 => ?_) (fun c_164 => ?_)
                      · have n_164 := nb_le (a := 8) (b := bb_3) c_164 (by omega) (by omega)
                        refine lv_iconst (v := 0) hx hb dX11_readEntry_171 (by decide) ?_
                        refine k_mpi (v := 0) (ty := .boolean) C G 18 (by decide) mr_18 fl_X11_175 rfl rfl rfl rfl rfl dX11_readEntry_172 (fun H locs (G : wd Z A s (mdW Z h ad (upd iv3_ 18 0) (ua (ua (ua av 27 (upd (av 27) i (nI bb_1))) 28 (upd (av 28) i (r4 (av 3) (1400 * k + (6 + 6 * i) + 1)))) 29 (upd (av 29) i (nI bb_3)))) H locs) => ?_)
                        refine lv_iload_n hx hb dX11_readEntry_175 rfl (lv_at hl 0 rfl) ?_
                        refine lv_if_eq (tgt := 249) hx hb dX11_readEntry_176 (by decide) (fun c_176 => ?_) (fun c_176 => ?_)
                        · have n_176 := nb_eq (a := i) (b := 0) c_176 (by omega) (by omega)
                          refine lv_iinc (v := nI (i + 1)) (lv' := [(3, .int (nI (i + 1))), (0, .ref h), (1, .int v), (2, .int (nI k))]) hx hb dX11_readEntry_249 hl (k := 0) rfl (nI_1 _) (by decide) rfl (fun ls hl => ?_)
                          refine lv_goto (tgt := 68) hx hb dX11_readEntry_252 (by decide) ?_
                          have hiL : 6 + 6 * i + 6 ≤ o.2.2.length - 4 := by omega
                          have f1 : bb_1 = aK (fnB o.2.2) i := by rw [hbb_1, hsA 3 (by decide)]; exact mo_ub hat hk (by omega)
                          have f2 : r4 (av 3) (1400 * k + (6 + 6 * i) + 1) = aN (fnB o.2.2) i := by rw [hsA 3 (by decide), Nat.add_assoc]; exact mo_r4 hat hk (by omega)
                          have f3 : bb_3 = aP (fnB o.2.2) i := by rw [hbb_3, hsA 3 (by decide), show 1400 * k + (6 + 6 * i) + 1 + 4 = 1400 * k + (6 + 6 * i + 5) by omega]; exact mo_ub hat hk (by omega)
                          have hka : aKa (fnB o.2.2) i ≤ 2 := by
                            by_cases e0 : i = 0
                            · rw [e0]; exact Nat.le_refl _
                            · obtain ⟨i2, e2⟩ : ∃ i2, i = i2 + 1 := ⟨i - 1, by omega⟩
                              rw [e2]; exact (hA i2 (by omega)).2.2.2.2.2
                          have hna : -1 ≤ aNa (fnB o.2.2) i := by
                            by_cases e0 : i = 0
                            · rw [e0]; exact Int32.le_refl _
                            · obtain ⟨i2, e2⟩ : ∃ i2, i = i2 + 1 := ⟨i - 1, by omega⟩
                              rw [e2]; exact Int32.le_of_lt (neg1_lt.mpr (hA i2 (by omega)).2.2.2.2.1)
                          exact lp_mre0 C rfl (hp0 (upd iv3_ 18 0) (ua (ua (ua av 27 (upd (av 27) i (nI bb_1))) 28 (upd (av 28) i (r4 (av 3) (1400 * k + (6 + 6 * i) + 1)))) 29 (upd (av 29) i (nI bb_3))) ((((hsI.tr hs1 (by decide)).tr hs2 (by decide)).tr hs3 (by decide)).up (by decide) _) (((hsA.up (by decide) _).up (by decide) _).up (by decide) _) (fun y => by
                            have := (y.2 i (by omega)).2.2.2; omega)) G (lv_sub hl [0, 1, 2, 3] rfl)
                        · have n_176 := nb_ne (a := i) (b := 0) c_176 (by omega) (by omega)
                          refine lv_aload_n hx hb dX11_readEntry_179 rfl (lv_at hl 1 rfl) ?_
                          refine k_mgi (v := 0) C G 18 (by decide) mr_18 rfl fl_X11_175 rfl dX11_readEntry_180 ?_
                          refine lv_if_ne (tgt := 189) hx hb dX11_readEntry_183 (by decide) (fun c_183 => ?_) (fun c_183 => ?_)
                          · exact absurd c_183 (by decide)
                          · have n_183 := nb_eq (a := 0) (b := 0) c_183 (by omega) (by omega)
                            refine lv_goto (tgt := 249) hx hb dX11_readEntry_186 (by decide) ?_
                            refine lv_iinc (v := nI (i + 1)) (lv' := [(3, .int (nI (i + 1))), (0, .ref h), (1, .int v), (2, .int (nI k))]) hx hb dX11_readEntry_249 hl (k := 0) rfl (nI_1 _) (by decide) rfl (fun ls hl => ?_)
                            refine lv_goto (tgt := 68) hx hb dX11_readEntry_252 (by decide) ?_
                            have hiL : 6 + 6 * i + 6 ≤ o.2.2.length - 4 := by omega
                            have f1 : bb_1 = aK (fnB o.2.2) i := by rw [hbb_1, hsA 3 (by decide)]; exact mo_ub hat hk (by omega)
                            have f2 : r4 (av 3) (1400 * k + (6 + 6 * i) + 1) = aN (fnB o.2.2) i := by rw [hsA 3 (by decide), Nat.add_assoc]; exact mo_r4 hat hk (by omega)
                            have f3 : bb_3 = aP (fnB o.2.2) i := by rw [hbb_3, hsA 3 (by decide), show 1400 * k + (6 + 6 * i) + 1 + 4 = 1400 * k + (6 + 6 * i + 5) by omega]; exact mo_ub hat hk (by omega)
                            have hka : aKa (fnB o.2.2) i ≤ 2 := by
                              by_cases e0 : i = 0
                              · rw [e0]; exact Nat.le_refl _
                              · obtain ⟨i2, e2⟩ : ∃ i2, i = i2 + 1 := ⟨i - 1, by omega⟩
                                rw [e2]; exact (hA i2 (by omega)).2.2.2.2.2
                            have hna : -1 ≤ aNa (fnB o.2.2) i := by
                              by_cases e0 : i = 0
                              · rw [e0]; exact Int32.le_refl _
                              · obtain ⟨i2, e2⟩ : ∃ i2, i = i2 + 1 := ⟨i - 1, by omega⟩
                                rw [e2]; exact Int32.le_of_lt (neg1_lt.mpr (hA i2 (by omega)).2.2.2.2.1)
                            exact lp_mre0 C rfl (hp0 (upd iv3_ 18 0) (ua (ua (ua av 27 (upd (av 27) i (nI bb_1))) 28 (upd (av 28) i (r4 (av 3) (1400 * k + (6 + 6 * i) + 1)))) 29 (upd (av 29) i (nI bb_3))) ((((hsI.tr hs1 (by decide)).tr hs2 (by decide)).tr hs3 (by decide)).up (by decide) _) (((hsA.up (by decide) _).up (by decide) _).up (by decide) _) (fun y => by
                              have := (y.2 i (by omega)).2.2.2; omega)) G (lv_sub hl [0, 1, 2, 3] rfl)
                      · have n_164 := nb_nle (a := 8) (b := bb_3) c_164 (by omega) (by omega)
                        refine lv_iconst (v := 1) hx hb dX11_readEntry_167 (by decide) ?_
                        refine lv_goto (tgt := 172) hx hb dX11_readEntry_168 (by decide) ?_
                        refine k_mpi (v := 1) (ty := .boolean) C G 18 (by decide) mr_18 fl_X11_175 rfl rfl rfl rfl rfl dX11_readEntry_172 (fun H locs (G : wd Z A s (mdW Z h ad (upd iv3_ 18 1) (ua (ua (ua av 27 (upd (av 27) i (nI bb_1))) 28 (upd (av 28) i (r4 (av 3) (1400 * k + (6 + 6 * i) + 1)))) 29 (upd (av 29) i (nI bb_3)))) H locs) => ?_)
                        refine lv_iload_n hx hb dX11_readEntry_175 rfl (lv_at hl 0 rfl) ?_
                        refine lv_if_eq (tgt := 249) hx hb dX11_readEntry_176 (by decide) (fun c_176 => ?_) (fun c_176 => ?_)
                        · have n_176 := nb_eq (a := i) (b := 0) c_176 (by omega) (by omega)
                          refine lv_iinc (v := nI (i + 1)) (lv' := [(3, .int (nI (i + 1))), (0, .ref h), (1, .int v), (2, .int (nI k))]) hx hb dX11_readEntry_249 hl (k := 0) rfl (nI_1 _) (by decide) rfl (fun ls hl => ?_)
                          refine lv_goto (tgt := 68) hx hb dX11_readEntry_252 (by decide) ?_
                          have hiL : 6 + 6 * i + 6 ≤ o.2.2.length - 4 := by omega
                          have f1 : bb_1 = aK (fnB o.2.2) i := by rw [hbb_1, hsA 3 (by decide)]; exact mo_ub hat hk (by omega)
                          have f2 : r4 (av 3) (1400 * k + (6 + 6 * i) + 1) = aN (fnB o.2.2) i := by rw [hsA 3 (by decide), Nat.add_assoc]; exact mo_r4 hat hk (by omega)
                          have f3 : bb_3 = aP (fnB o.2.2) i := by rw [hbb_3, hsA 3 (by decide), show 1400 * k + (6 + 6 * i) + 1 + 4 = 1400 * k + (6 + 6 * i + 5) by omega]; exact mo_ub hat hk (by omega)
                          have hka : aKa (fnB o.2.2) i ≤ 2 := by
                            by_cases e0 : i = 0
                            · rw [e0]; exact Nat.le_refl _
                            · obtain ⟨i2, e2⟩ : ∃ i2, i = i2 + 1 := ⟨i - 1, by omega⟩
                              rw [e2]; exact (hA i2 (by omega)).2.2.2.2.2
                          have hna : -1 ≤ aNa (fnB o.2.2) i := by
                            by_cases e0 : i = 0
                            · rw [e0]; exact Int32.le_refl _
                            · obtain ⟨i2, e2⟩ : ∃ i2, i = i2 + 1 := ⟨i - 1, by omega⟩
                              rw [e2]; exact Int32.le_of_lt (neg1_lt.mpr (hA i2 (by omega)).2.2.2.2.1)
                          have hk12 : 1 ≤ aK (fnB o.2.2) i ∧ aK (fnB o.2.2) i ≤ 2 := by rw [← f1]; omega
                          have hnn : ¬ aN (fnB o.2.2) i < 0 := by rw [← f2]; exact c_153
                          have hp8 : aP (fnB o.2.2) i < 8 := by rw [← f3]; omega
                          have hen2 : enC (fnB o.2.2) i := by
                            have hi0 : i = 0 := by omega
                            refine ⟨hk12.1, by rw [hi0]; rw [hi0] at hk12; exact hk12.2, ?_, hp8⟩
                            split
                            · rw [hi0]; rw [hi0] at hnn; exact neg1_lt.mpr hnn
                            · exact neg1_lt.mpr hnn
                          exact ih (i + 1) (upd iv3_ 18 1) (ua (ua (ua av 27 (upd (av 27) i (nI bb_1))) 28 (upd (av 28) i (r4 (av 3) (1400 * k + (6 + 6 * i) + 1)))) 29 (upd (av 29) i (nI bb_3))) (by omega) (h16_3.trans (congrArg nI (by omega))) rfl ((((hsI.tr hs1 (by decide)).tr hs2 (by decide)).tr hs3 (by decide)).up (by decide) _) (((hsA.up (by decide) _).up (by decide) _).up (by decide) _) (fun j hj => by
                            by_cases e : j = i
                            · subst e
                              exact ⟨pk_us.trans (by rw [f1]), pk_us.trans f2, pk_us.trans (by rw [f3]), hen2, hnn, hk12.2⟩
                            · obtain ⟨a1, a2, a3, a4⟩ := hA j (by omega)
                              exact ⟨(pk_un e).trans a1, (pk_un e).trans a2, (pk_un e).trans a3, a4⟩) _ _ _ G (lv_sub hl [0, 1, 2, 3] rfl)
                        · have n_176 := nb_ne (a := i) (b := 0) c_176 (by omega) (by omega)
                          refine lv_aload_n hx hb dX11_readEntry_179 rfl (lv_at hl 1 rfl) ?_
                          refine k_mgi (v := 1) C G 18 (by decide) mr_18 rfl fl_X11_175 rfl dX11_readEntry_180 ?_
                          refine lv_if_ne (tgt := 189) hx hb dX11_readEntry_183 (by decide) (fun c_183 => ?_) (fun c_183 => ?_)
                          · have n_183 := nb_ne (a := 1) (b := 0) c_183 (by omega) (by omega)
                            refine lv_aload_n hx hb dX11_readEntry_189 rfl (lv_at hl 1 rfl) ?_
                            refine k_mga C G 27 (by decide) mr_27 fl_X11_50 rfl dX11_readEntry_190 ?_
                            refine lv_iload_n hx hb dX11_readEntry_193 rfl (lv_at hl 0 rfl) ?_
                            refine k_mil (v := nI bb_1) (i := i) C G 10 (k := 27) (n := 256) mp_27 (by decide) (by omega) pk_us dX11_readEntry_194 ?_
                            refine lv_aload_n hx hb dX11_readEntry_195 rfl (lv_at hl 1 rfl) ?_
                            refine k_mga C G 27 (by decide) mr_27 fl_X11_50 rfl dX11_readEntry_196 ?_
                            refine lv_iload_n hx hb dX11_readEntry_199 rfl (lv_at hl 0 rfl) ?_
                            refine lv_iconst (v := 1) hx hb dX11_readEntry_200 (by decide) ?_
                            refine lv_isub hx hb dX11_readEntry_201 ?_
                            refine k_topi (y := nI (i - 1)) (pk_sub (a := i) (b := 1) (by omega)) ?_
                            refine k_mil (v := nI (aK (fnB o.2.2) (i - 1))) (i := i - 1) C G 10 (k := 27) (n := 256) mp_27 (by decide) (by omega) ((pk_un (show i - 1 ≠ i by omega)).trans (hA (i - 1) (by omega)).1) dX11_readEntry_202 ?_
                            refine lv_icmp_ne (tgt := 226) hx hb dX11_readEntry_203 (by decide) (fun c_203 => ?_) (fun c_203 => ?_)
                            · have hkb := (hA (i - 1) (by omega)).2.2.2.2.2
                              have n_203 := nb_ne (a := bb_1) (b := aK (fnB o.2.2) (i - 1)) c_203 (by omega) (by omega)
                              refine lv_aload_n hx hb dX11_readEntry_226 rfl (lv_at hl 1 rfl) ?_
                              refine k_mga C G 27 (by decide) mr_27 fl_X11_50 rfl dX11_readEntry_227 ?_
                              refine lv_iload_n hx hb dX11_readEntry_230 rfl (lv_at hl 0 rfl) ?_
                              refine k_mil (v := nI bb_1) (i := i) C G 10 (k := 27) (n := 256) mp_27 (by decide) (by omega) pk_us dX11_readEntry_231 ?_
                              refine lv_iconst (v := 1) hx hb dX11_readEntry_232 (by decide) ?_
                              refine lv_icmp_ne (tgt := 240) hx hb dX11_readEntry_233 (by decide) (fun c_233 => ?_) (fun c_233 => ?_)
                              · have n_233 := nb_ne (a := bb_1) (b := 1) c_233 (by omega) (by omega)
                                refine lv_iconst (v := 0) hx hb dX11_readEntry_240 (by decide) ?_
                                refine lv_istore (lv' := [(4, .int 0), (3, .int (nI i)), (0, .ref h), (1, .int v), (2, .int (nI k))]) hx hb dX11_readEntry_241 hl (by decide) rfl (fun ls hl => ?_)
                                refine lv_aload_n hx hb dX11_readEntry_243 rfl (lv_at hl 2 rfl) ?_
                                refine lv_iload hx hb dX11_readEntry_244 (lv_at hl 0 rfl) ?_
                                refine k_mpi (v := 0) (ty := .boolean) C G 18 (by decide) mr_18 fl_X11_175 rfl rfl rfl rfl rfl dX11_readEntry_246 (fun H locs (G : wd Z A s (mdW Z h ad (upd (upd iv3_ 18 1) 18 0) (ua (ua (ua av 27 (upd (av 27) i (nI bb_1))) 28 (upd (av 28) i (r4 (av 3) (1400 * k + (6 + 6 * i) + 1)))) 29 (upd (av 29) i (nI bb_3)))) H locs) => ?_)
                                refine lv_iinc (v := nI (i + 1)) (lv' := [(3, .int (nI (i + 1))), (4, .int 0), (0, .ref h), (1, .int v), (2, .int (nI k))]) hx hb dX11_readEntry_249 hl (k := 1) rfl (nI_1 _) (by decide) rfl (fun ls hl => ?_)
                                refine lv_goto (tgt := 68) hx hb dX11_readEntry_252 (by decide) ?_
                                have hiL : 6 + 6 * i + 6 ≤ o.2.2.length - 4 := by omega
                                have f1 : bb_1 = aK (fnB o.2.2) i := by rw [hbb_1, hsA 3 (by decide)]; exact mo_ub hat hk (by omega)
                                have f2 : r4 (av 3) (1400 * k + (6 + 6 * i) + 1) = aN (fnB o.2.2) i := by rw [hsA 3 (by decide), Nat.add_assoc]; exact mo_r4 hat hk (by omega)
                                have f3 : bb_3 = aP (fnB o.2.2) i := by rw [hbb_3, hsA 3 (by decide), show 1400 * k + (6 + 6 * i) + 1 + 4 = 1400 * k + (6 + 6 * i + 5) by omega]; exact mo_ub hat hk (by omega)
                                have hka : aKa (fnB o.2.2) i ≤ 2 := by
                                  by_cases e0 : i = 0
                                  · rw [e0]; exact Nat.le_refl _
                                  · obtain ⟨i2, e2⟩ : ∃ i2, i = i2 + 1 := ⟨i - 1, by omega⟩
                                    rw [e2]; exact (hA i2 (by omega)).2.2.2.2.2
                                have hna : -1 ≤ aNa (fnB o.2.2) i := by
                                  by_cases e0 : i = 0
                                  · rw [e0]; exact Int32.le_refl _
                                  · obtain ⟨i2, e2⟩ : ∃ i2, i = i2 + 1 := ⟨i - 1, by omega⟩
                                    rw [e2]; exact Int32.le_of_lt (neg1_lt.mpr (hA i2 (by omega)).2.2.2.2.1)
                                exact lp_mre0 C rfl (hp0 (upd (upd iv3_ 18 1) 18 0) (ua (ua (ua av 27 (upd (av 27) i (nI bb_1))) 28 (upd (av 28) i (r4 (av 3) (1400 * k + (6 + 6 * i) + 1)))) 29 (upd (av 29) i (nI bb_3))) (((((hsI.tr hs1 (by decide)).tr hs2 (by decide)).tr hs3 (by decide)).up (by decide) _).up (by decide) _) (((hsA.up (by decide) _).up (by decide) _).up (by decide) _) (fun y => by
                                  obtain ⟨i2, e2⟩ : ∃ i2, i = i2 + 1 := ⟨i - 1, by omega⟩
                                  have h9 := (y.2 i (by omega)).2.1
                                  have e5 : aKa (fnB o.2.2) i = aK (fnB o.2.2) (i - 1) := by rw [e2]; rfl
                                  rw [e5] at h9
                                  have h8 := (hA (i - 1) (by omega)).2.2.2.2.2
                                  omega)) G (lv_sub hl [0, 2, 3, 4] rfl)
                              · have n_233 := nb_eq (a := bb_1) (b := 1) c_233 (by omega) (by omega)
                                refine lv_iconst (v := 1) hx hb dX11_readEntry_236 (by decide) ?_
                                refine lv_goto (tgt := 241) hx hb dX11_readEntry_237 (by decide) ?_
                                refine lv_istore (lv' := [(4, .int 1), (3, .int (nI i)), (0, .ref h), (1, .int v), (2, .int (nI k))]) hx hb dX11_readEntry_241 hl (by decide) rfl (fun ls hl => ?_)
                                refine lv_aload_n hx hb dX11_readEntry_243 rfl (lv_at hl 2 rfl) ?_
                                refine lv_iload hx hb dX11_readEntry_244 (lv_at hl 0 rfl) ?_
                                refine k_mpi (v := 1) (ty := .boolean) C G 18 (by decide) mr_18 fl_X11_175 rfl rfl rfl rfl rfl dX11_readEntry_246 (fun H locs (G : wd Z A s (mdW Z h ad (upd (upd iv3_ 18 1) 18 1) (ua (ua (ua av 27 (upd (av 27) i (nI bb_1))) 28 (upd (av 28) i (r4 (av 3) (1400 * k + (6 + 6 * i) + 1)))) 29 (upd (av 29) i (nI bb_3)))) H locs) => ?_)
                                refine lv_iinc (v := nI (i + 1)) (lv' := [(3, .int (nI (i + 1))), (4, .int 1), (0, .ref h), (1, .int v), (2, .int (nI k))]) hx hb dX11_readEntry_249 hl (k := 1) rfl (nI_1 _) (by decide) rfl (fun ls hl => ?_)
                                refine lv_goto (tgt := 68) hx hb dX11_readEntry_252 (by decide) ?_
                                have hiL : 6 + 6 * i + 6 ≤ o.2.2.length - 4 := by omega
                                have f1 : bb_1 = aK (fnB o.2.2) i := by rw [hbb_1, hsA 3 (by decide)]; exact mo_ub hat hk (by omega)
                                have f2 : r4 (av 3) (1400 * k + (6 + 6 * i) + 1) = aN (fnB o.2.2) i := by rw [hsA 3 (by decide), Nat.add_assoc]; exact mo_r4 hat hk (by omega)
                                have f3 : bb_3 = aP (fnB o.2.2) i := by rw [hbb_3, hsA 3 (by decide), show 1400 * k + (6 + 6 * i) + 1 + 4 = 1400 * k + (6 + 6 * i + 5) by omega]; exact mo_ub hat hk (by omega)
                                have hka : aKa (fnB o.2.2) i ≤ 2 := by
                                  by_cases e0 : i = 0
                                  · rw [e0]; exact Nat.le_refl _
                                  · obtain ⟨i2, e2⟩ : ∃ i2, i = i2 + 1 := ⟨i - 1, by omega⟩
                                    rw [e2]; exact (hA i2 (by omega)).2.2.2.2.2
                                have hna : -1 ≤ aNa (fnB o.2.2) i := by
                                  by_cases e0 : i = 0
                                  · rw [e0]; exact Int32.le_refl _
                                  · obtain ⟨i2, e2⟩ : ∃ i2, i = i2 + 1 := ⟨i - 1, by omega⟩
                                    rw [e2]; exact Int32.le_of_lt (neg1_lt.mpr (hA i2 (by omega)).2.2.2.2.1)
                                have hk12 : 1 ≤ aK (fnB o.2.2) i ∧ aK (fnB o.2.2) i ≤ 2 := by rw [← f1]; omega
                                have hnn : ¬ aN (fnB o.2.2) i < 0 := by rw [← f2]; exact c_153
                                have hp8 : aP (fnB o.2.2) i < 8 := by rw [← f3]; omega
                                have hen2 : enC (fnB o.2.2) i := by
                                  obtain ⟨i2, e2⟩ : ∃ i2, i = i2 + 1 := ⟨i - 1, by omega⟩
                                  have e5 : aKa (fnB o.2.2) i = aK (fnB o.2.2) (i - 1) := by rw [e2]; rfl
                                  have h8 := (hA (i - 1) (by omega)).2.2.2.2.2
                                  have h7 := (hA (i - 1) (by omega)).2.2.2.1.1
                                  refine ⟨hk12.1, by rw [e5]; omega, ?_, hp8⟩
                                  rw [if_neg (by rw [e5]; omega)]
                                  exact neg1_lt.mpr hnn
                                exact ih (i + 1) (upd (upd iv3_ 18 1) 18 1) (ua (ua (ua av 27 (upd (av 27) i (nI bb_1))) 28 (upd (av 28) i (r4 (av 3) (1400 * k + (6 + 6 * i) + 1)))) 29 (upd (av 29) i (nI bb_3))) (by omega) (h16_3.trans (congrArg nI (by omega))) rfl (((((hsI.tr hs1 (by decide)).tr hs2 (by decide)).tr hs3 (by decide)).up (by decide) _).up (by decide) _) (((hsA.up (by decide) _).up (by decide) _).up (by decide) _) (fun j hj => by
                                  by_cases e : j = i
                                  · subst e
                                    exact ⟨pk_us.trans (by rw [f1]), pk_us.trans f2, pk_us.trans (by rw [f3]), hen2, hnn, hk12.2⟩
                                  · obtain ⟨a1, a2, a3, a4⟩ := hA j (by omega)
                                    exact ⟨(pk_un e).trans a1, (pk_un e).trans a2, (pk_un e).trans a3, a4⟩) _ _ _ G (lv_sub hl [0, 2, 3, 4] rfl)
                            · have hkb := (hA (i - 1) (by omega)).2.2.2.2.2
                              have n_203 := nb_eq (a := bb_1) (b := aK (fnB o.2.2) (i - 1)) c_203 (by omega) (by omega)
                              refine lv_aload_n hx hb dX11_readEntry_206 rfl (lv_at hl 1 rfl) ?_
                              refine k_mga C G 28 (by decide) mr_28 fl_X11_53 rfl dX11_readEntry_207 ?_
                              refine lv_iload_n hx hb dX11_readEntry_210 rfl (lv_at hl 0 rfl) ?_
                              refine lv_iconst (v := 1) hx hb dX11_readEntry_211 (by decide) ?_
                              refine lv_isub hx hb dX11_readEntry_212 ?_
                              refine k_topi (y := nI (i - 1)) (pk_sub (a := i) (b := 1) (by omega)) ?_
                              refine k_mil (v := aN (fnB o.2.2) (i - 1)) (i := i - 1) C G 11 (k := 28) (n := 256) mp_28 (by decide) (by omega) ((pk_un (show i - 1 ≠ i by omega)).trans (hA (i - 1) (by omega)).2.1) dX11_readEntry_213 ?_
                              refine lv_aload_n hx hb dX11_readEntry_214 rfl (lv_at hl 1 rfl) ?_
                              refine k_mga C G 28 (by decide) mr_28 fl_X11_53 rfl dX11_readEntry_215 ?_
                              refine lv_iload_n hx hb dX11_readEntry_218 rfl (lv_at hl 0 rfl) ?_
                              refine k_mil (v := r4 (av 3) (1400 * k + (6 + 6 * i) + 1)) (i := i) C G 11 (k := 28) (n := 256) mp_28 (by decide) (by omega) pk_us dX11_readEntry_219 ?_
                              refine kcM_i G (krS 2 rfl (As := [.int (aN (fnB o.2.2) (i - 1)), .int (r4 (av 3) (1400 * k + (6 + 6 * i) + 1))]) (rest := []) C G pmN (c_X11_isBelow Z l h ad (upd iv3_ 18 1) (ua (ua (ua av 27 (upd (av 27) i (nI bb_1))) 28 (upd (av 28) i (r4 (av 3) (1400 * k + (6 + 6 * i) + 1)))) 29 (upd (av 29) i (nI bb_3))) (aN (fnB o.2.2) (i - 1)) (r4 (av 3) (1400 * k + (6 + 6 * i) + 1)) _) (gdS ml_X11_239 sm_X11_isBelow ii_X11 co_X11_isBelow) (by decide +kernel) ⟨Nat.le_of_ble_eq_true rfl, Nat.le_of_ble_eq_true rfl⟩ hl rfl (Nat.le_of_ble_eq_true rfl) ⟨Nat.le_of_ble_eq_true rfl, Nat.le_of_ble_eq_true rfl⟩ dX11_readEntry_220) (fun r_220_1 u H locs hu G => ?_)
                              obtain ⟨r_220_1_e, rfl⟩ := hu
                              by_cases hbe : (aN (fnB o.2.2) (i - 1)).toBitVec.toNat < (r4 (av 3) (1400 * k + (6 + 6 * i) + 1)).toBitVec.toNat
                              · rw [if_pos hbe] at r_220_1_e
                                subst r_220_1_e
                                refine lv_goto (tgt := 241) hx hb dX11_readEntry_223 (by decide) ?_
                                refine lv_istore (lv' := [(4, .int 1), (3, .int (nI i)), (0, .ref h), (1, .int v), (2, .int (nI k))]) hx hb dX11_readEntry_241 hl (by decide) rfl (fun ls hl => ?_)
                                refine lv_aload_n hx hb dX11_readEntry_243 rfl (lv_at hl 2 rfl) ?_
                                refine lv_iload hx hb dX11_readEntry_244 (lv_at hl 0 rfl) ?_
                                refine k_mpi (v := 1) (ty := .boolean) C G 18 (by decide) mr_18 fl_X11_175 rfl rfl rfl rfl rfl dX11_readEntry_246 (fun H locs (G : wd Z A s (mdW Z h ad (upd (upd iv3_ 18 1) 18 1) (ua (ua (ua av 27 (upd (av 27) i (nI bb_1))) 28 (upd (av 28) i (r4 (av 3) (1400 * k + (6 + 6 * i) + 1)))) 29 (upd (av 29) i (nI bb_3)))) H locs) => ?_)
                                refine lv_iinc (v := nI (i + 1)) (lv' := [(3, .int (nI (i + 1))), (4, .int 1), (0, .ref h), (1, .int v), (2, .int (nI k))]) hx hb dX11_readEntry_249 hl (k := 1) rfl (nI_1 _) (by decide) rfl (fun ls hl => ?_)
                                refine lv_goto (tgt := 68) hx hb dX11_readEntry_252 (by decide) ?_
                                have hiL : 6 + 6 * i + 6 ≤ o.2.2.length - 4 := by omega
                                have f1 : bb_1 = aK (fnB o.2.2) i := by rw [hbb_1, hsA 3 (by decide)]; exact mo_ub hat hk (by omega)
                                have f2 : r4 (av 3) (1400 * k + (6 + 6 * i) + 1) = aN (fnB o.2.2) i := by rw [hsA 3 (by decide), Nat.add_assoc]; exact mo_r4 hat hk (by omega)
                                have f3 : bb_3 = aP (fnB o.2.2) i := by rw [hbb_3, hsA 3 (by decide), show 1400 * k + (6 + 6 * i) + 1 + 4 = 1400 * k + (6 + 6 * i + 5) by omega]; exact mo_ub hat hk (by omega)
                                have hka : aKa (fnB o.2.2) i ≤ 2 := by
                                  by_cases e0 : i = 0
                                  · rw [e0]; exact Nat.le_refl _
                                  · obtain ⟨i2, e2⟩ : ∃ i2, i = i2 + 1 := ⟨i - 1, by omega⟩
                                    rw [e2]; exact (hA i2 (by omega)).2.2.2.2.2
                                have hna : -1 ≤ aNa (fnB o.2.2) i := by
                                  by_cases e0 : i = 0
                                  · rw [e0]; exact Int32.le_refl _
                                  · obtain ⟨i2, e2⟩ : ∃ i2, i = i2 + 1 := ⟨i - 1, by omega⟩
                                    rw [e2]; exact Int32.le_of_lt (neg1_lt.mpr (hA i2 (by omega)).2.2.2.2.1)
                                have hk12 : 1 ≤ aK (fnB o.2.2) i ∧ aK (fnB o.2.2) i ≤ 2 := by rw [← f1]; omega
                                have hnn : ¬ aN (fnB o.2.2) i < 0 := by rw [← f2]; exact c_153
                                have hp8 : aP (fnB o.2.2) i < 8 := by rw [← f3]; omega
                                have hen2 : enC (fnB o.2.2) i := by
                                  obtain ⟨i2, e2⟩ : ∃ i2, i = i2 + 1 := ⟨i - 1, by omega⟩
                                  have ek : aK (fnB o.2.2) i = aKa (fnB o.2.2) i := by rw [← f1, e2]; show _ = aK (fnB o.2.2) i2; rw [show i2 = i - 1 by omega]; exact n_203
                                  have e4 : aNa (fnB o.2.2) i = aN (fnB o.2.2) (i - 1) := by rw [e2]; rfl
                                  refine ⟨hk12.1, Nat.le_of_eq ek, ?_, hp8⟩
                                  rw [if_pos ek, e4]
                                  rw [f2] at hbe
                                  exact (bel_iff (hA (i - 1) (by omega)).2.2.2.2.1 hnn).mp hbe
                                exact ih (i + 1) (upd (upd iv3_ 18 1) 18 1) (ua (ua (ua av 27 (upd (av 27) i (nI bb_1))) 28 (upd (av 28) i (r4 (av 3) (1400 * k + (6 + 6 * i) + 1)))) 29 (upd (av 29) i (nI bb_3))) (by omega) (h16_3.trans (congrArg nI (by omega))) rfl (((((hsI.tr hs1 (by decide)).tr hs2 (by decide)).tr hs3 (by decide)).up (by decide) _).up (by decide) _) (((hsA.up (by decide) _).up (by decide) _).up (by decide) _) (fun j hj => by
                                  by_cases e : j = i
                                  · subst e
                                    exact ⟨pk_us.trans (by rw [f1]), pk_us.trans f2, pk_us.trans (by rw [f3]), hen2, hnn, hk12.2⟩
                                  · obtain ⟨a1, a2, a3, a4⟩ := hA j (by omega)
                                    exact ⟨(pk_un e).trans a1, (pk_un e).trans a2, (pk_un e).trans a3, a4⟩) _ _ _ G (lv_sub hl [0, 2, 3, 4] rfl)
                              · rw [if_neg hbe] at r_220_1_e
                                subst r_220_1_e
                                refine lv_goto (tgt := 241) hx hb dX11_readEntry_223 (by decide) ?_
                                refine lv_istore (lv' := [(4, .int 0), (3, .int (nI i)), (0, .ref h), (1, .int v), (2, .int (nI k))]) hx hb dX11_readEntry_241 hl (by decide) rfl (fun ls hl => ?_)
                                refine lv_aload_n hx hb dX11_readEntry_243 rfl (lv_at hl 2 rfl) ?_
                                refine lv_iload hx hb dX11_readEntry_244 (lv_at hl 0 rfl) ?_
                                refine k_mpi (v := 0) (ty := .boolean) C G 18 (by decide) mr_18 fl_X11_175 rfl rfl rfl rfl rfl dX11_readEntry_246 (fun H locs (G : wd Z A s (mdW Z h ad (upd (upd iv3_ 18 1) 18 0) (ua (ua (ua av 27 (upd (av 27) i (nI bb_1))) 28 (upd (av 28) i (r4 (av 3) (1400 * k + (6 + 6 * i) + 1)))) 29 (upd (av 29) i (nI bb_3)))) H locs) => ?_)
                                refine lv_iinc (v := nI (i + 1)) (lv' := [(3, .int (nI (i + 1))), (4, .int 0), (0, .ref h), (1, .int v), (2, .int (nI k))]) hx hb dX11_readEntry_249 hl (k := 1) rfl (nI_1 _) (by decide) rfl (fun ls hl => ?_)
                                refine lv_goto (tgt := 68) hx hb dX11_readEntry_252 (by decide) ?_
                                have hiL : 6 + 6 * i + 6 ≤ o.2.2.length - 4 := by omega
                                have f1 : bb_1 = aK (fnB o.2.2) i := by rw [hbb_1, hsA 3 (by decide)]; exact mo_ub hat hk (by omega)
                                have f2 : r4 (av 3) (1400 * k + (6 + 6 * i) + 1) = aN (fnB o.2.2) i := by rw [hsA 3 (by decide), Nat.add_assoc]; exact mo_r4 hat hk (by omega)
                                have f3 : bb_3 = aP (fnB o.2.2) i := by rw [hbb_3, hsA 3 (by decide), show 1400 * k + (6 + 6 * i) + 1 + 4 = 1400 * k + (6 + 6 * i + 5) by omega]; exact mo_ub hat hk (by omega)
                                have hka : aKa (fnB o.2.2) i ≤ 2 := by
                                  by_cases e0 : i = 0
                                  · rw [e0]; exact Nat.le_refl _
                                  · obtain ⟨i2, e2⟩ : ∃ i2, i = i2 + 1 := ⟨i - 1, by omega⟩
                                    rw [e2]; exact (hA i2 (by omega)).2.2.2.2.2
                                have hna : -1 ≤ aNa (fnB o.2.2) i := by
                                  by_cases e0 : i = 0
                                  · rw [e0]; exact Int32.le_refl _
                                  · obtain ⟨i2, e2⟩ : ∃ i2, i = i2 + 1 := ⟨i - 1, by omega⟩
                                    rw [e2]; exact Int32.le_of_lt (neg1_lt.mpr (hA i2 (by omega)).2.2.2.2.1)
                                exact lp_mre0 C rfl (hp0 (upd (upd iv3_ 18 1) 18 0) (ua (ua (ua av 27 (upd (av 27) i (nI bb_1))) 28 (upd (av 28) i (r4 (av 3) (1400 * k + (6 + 6 * i) + 1)))) 29 (upd (av 29) i (nI bb_3))) (((((hsI.tr hs1 (by decide)).tr hs2 (by decide)).tr hs3 (by decide)).up (by decide) _).up (by decide) _) (((hsA.up (by decide) _).up (by decide) _).up (by decide) _) (fun y => by
                                  obtain ⟨i2, e2⟩ : ∃ i2, i = i2 + 1 := ⟨i - 1, by omega⟩
                                  have h9 := (y.2 i (by omega)).2.2.1
                                  have ek : aK (fnB o.2.2) i = aKa (fnB o.2.2) i := by rw [← f1, e2]; show _ = aK (fnB o.2.2) i2; rw [show i2 = i - 1 by omega]; exact n_203
                                  rw [if_pos ek] at h9
                                  have e4 : aNa (fnB o.2.2) i = aN (fnB o.2.2) (i - 1) := by rw [e2]; rfl
                                  rw [e4] at h9
                                  exact hbe (by rw [f2]; exact (bel_iff (hA (i - 1) (by omega)).2.2.2.2.1 (by rw [← f2]; exact Int32.not_lt.mpr (Int32.not_lt.mp c_153))).mpr h9))) G (lv_sub hl [0, 2, 3, 4] rfl)
                          · exact absurd c_183 (by decide)
            · subst r_114_e
              refine lv_l2i (v := (0 : Int64).toInt32) hx hb dX11_readEntry_117 rfl ?_
              refine k_topi (y := nI 0) (by decide) ?_
              refine k_mis (x := nI 0) (i := i) C G 12 (k := 29) (n := 256) mp_29 (by decide) (by omega) dX11_readEntry_118 (fun H locs (G : wd Z A s (mdW Z h ad iv3_ (ua (ua (ua av 27 (upd (av 27) i (nI bb_1))) 28 (upd (av 28) i (r4 (av 3) (1400 * k + (6 + 6 * i) + 1)))) 29 (upd (av 29) i (nI 0)))) H locs) => ?_)
              refine lv_aload_n hx hb dX11_readEntry_119 rfl (lv_at hl 1 rfl) ?_
              refine lv_aload_n hx hb dX11_readEntry_120 rfl (lv_at hl 1 rfl) ?_
              refine k_mgi (v := 0) C G 18 (by decide) mr_18 h18_3 fl_X11_175 rfl dX11_readEntry_121 ?_
              refine lv_if_eq (tgt := 171) hx hb dX11_readEntry_124 (by decide) (fun c_124 => ?_) (fun c_124 => ?_)
              · have n_124 := nb_eq (a := 0) (b := 0) c_124 (by omega) (by omega)
                refine lv_iconst (v := 0) hx hb dX11_readEntry_171 (by decide) ?_
                refine k_mpi (v := 0) (ty := .boolean) C G 18 (by decide) mr_18 fl_X11_175 rfl rfl rfl rfl rfl dX11_readEntry_172 (fun H locs (G : wd Z A s (mdW Z h ad (upd iv3_ 18 0) (ua (ua (ua av 27 (upd (av 27) i (nI bb_1))) 28 (upd (av 28) i (r4 (av 3) (1400 * k + (6 + 6 * i) + 1)))) 29 (upd (av 29) i (nI 0)))) H locs) => ?_)
                refine lv_iload_n hx hb dX11_readEntry_175 rfl (lv_at hl 0 rfl) ?_
                refine lv_if_eq (tgt := 249) hx hb dX11_readEntry_176 (by decide) (fun c_176 => ?_) (fun c_176 => ?_)
                · have n_176 := nb_eq (a := i) (b := 0) c_176 (by omega) (by omega)
                  refine lv_iinc (v := nI (i + 1)) (lv' := [(3, .int (nI (i + 1))), (0, .ref h), (1, .int v), (2, .int (nI k))]) hx hb dX11_readEntry_249 hl (k := 0) rfl (nI_1 _) (by decide) rfl (fun ls hl => ?_)
                  refine lv_goto (tgt := 68) hx hb dX11_readEntry_252 (by decide) ?_
                  exact lp_mre0 C rfl (hp0 (upd iv3_ 18 0) (ua (ua (ua av 27 (upd (av 27) i (nI bb_1))) 28 (upd (av 28) i (r4 (av 3) (1400 * k + (6 + 6 * i) + 1)))) 29 (upd (av 29) i (nI 0))) ((((hsI.tr hs1 (by decide)).tr hs2 (by decide)).tr hs3 (by decide)).up (by decide) _) (((hsA.up (by decide) _).up (by decide) _).up (by decide) _) (fun y => absurd ⟨rfl, by have := y.1; omega⟩ hno_3)) G (lv_sub hl [0, 1, 2, 3] rfl)
                · have n_176 := nb_ne (a := i) (b := 0) c_176 (by omega) (by omega)
                  refine lv_aload_n hx hb dX11_readEntry_179 rfl (lv_at hl 1 rfl) ?_
                  refine k_mgi (v := 0) C G 18 (by decide) mr_18 rfl fl_X11_175 rfl dX11_readEntry_180 ?_
                  refine lv_if_ne (tgt := 189) hx hb dX11_readEntry_183 (by decide) (fun c_183 => ?_) (fun c_183 => ?_)
                  · exact absurd c_183 (by decide)
                  · have n_183 := nb_eq (a := 0) (b := 0) c_183 (by omega) (by omega)
                    refine lv_goto (tgt := 249) hx hb dX11_readEntry_186 (by decide) ?_
                    refine lv_iinc (v := nI (i + 1)) (lv' := [(3, .int (nI (i + 1))), (0, .ref h), (1, .int v), (2, .int (nI k))]) hx hb dX11_readEntry_249 hl (k := 0) rfl (nI_1 _) (by decide) rfl (fun ls hl => ?_)
                    refine lv_goto (tgt := 68) hx hb dX11_readEntry_252 (by decide) ?_
                    exact lp_mre0 C rfl (hp0 (upd iv3_ 18 0) (ua (ua (ua av 27 (upd (av 27) i (nI bb_1))) 28 (upd (av 28) i (r4 (av 3) (1400 * k + (6 + 6 * i) + 1)))) 29 (upd (av 29) i (nI 0))) ((((hsI.tr hs1 (by decide)).tr hs2 (by decide)).tr hs3 (by decide)).up (by decide) _) (((hsA.up (by decide) _).up (by decide) _).up (by decide) _) (fun y => absurd ⟨rfl, by have := y.1; omega⟩ hno_3)) G (lv_sub hl [0, 1, 2, 3] rfl)
              · exact absurd c_124 (by decide)
          · refine lv_l2i (v := r_102.toInt32) hx hb dX11_readEntry_105 rfl ?_
            refine lv_topi (fun x4_2 ex4_2 => ?_)
            refine k_mis (x := x4_2) (i := i) C G 11 (k := 28) (n := 256) mp_28 (by decide) (by omega) dX11_readEntry_106 (fun H locs (G : wd Z A s (mdW Z h ad iv2_ (ua (ua av 27 (upd (av 27) i (nI bb_1))) 28 (upd (av 28) i x4_2))) H locs) => ?_)
            refine lv_aload_n hx hb dX11_readEntry_107 rfl (lv_at hl 1 rfl) ?_
            refine k_mga C G 29 (by decide) mr_29 fl_X11_56 rfl dX11_readEntry_108 ?_
            refine lv_iload_n hx hb dX11_readEntry_111 rfl (lv_at hl 0 rfl) ?_
            refine lv_aload_n hx hb dX11_readEntry_112 rfl (lv_at hl 1 rfl) ?_
            refine lv_iconst (v := 1) hx hb dX11_readEntry_113 (by decide) ?_
            refine kcM_l G (krV 1 rfl (As := [.int 1]) (rest := [.int (nI i), .ref (ad 29)]) (ci := 12) (CC := RX11) (T := TX11) (N := 61) C G pmN (c_mt1 Z l h ad iv2_ (ua (ua av 27 (upd (av 27) i (nI bb_1))) 28 (upd (av 28) i x4_2)) (1400 * k + (6 + 6 * i) + 1 + 4) (1400 * k + o.2.2.length - 4) 0 h16_2 h17_2 h18_2 (Or.inl rfl) (by omega) (by omega) _) (gdV ml_X11_213 im_X11_take se_X11_take ii_X11 co_X11_take) (by decide +kernel) ⟨Nat.le_of_ble_eq_true rfl, Nat.le_of_ble_eq_true rfl⟩ rfl 0 rfl hl rfl (Nat.le_of_ble_eq_true rfl) ⟨Nat.le_of_ble_eq_true rfl, Nat.le_of_ble_eq_true rfl⟩ dX11_readEntry_114) (fun r_114_1 u H locs hu G => ?_)
            obtain ⟨iv4_, rfl, hs4, h16_4, hcs4⟩ := hu
            have h17_4 : iv4_ 17 = nI (1400 * k + o.2.2.length - 4) := (hs4 17 (by decide)).trans h17_2
            have q26_4 : iv4_ 26 = nI nA := (hs4 26 (by decide)).trans q26_2
            rcases hcs4 with ⟨hg_4, _, _, _⟩ | ⟨hno_4, h18_4, r_114_1_e⟩
            · exact absurd hg_4 (by decide)
            · subst r_114_1_e
              refine lv_l2i (v := (0 : Int64).toInt32) hx hb dX11_readEntry_117 rfl ?_
              refine k_topi (y := nI 0) (by decide) ?_
              refine k_mis (x := nI 0) (i := i) C G 12 (k := 29) (n := 256) mp_29 (by decide) (by omega) dX11_readEntry_118 (fun H locs (G : wd Z A s (mdW Z h ad iv4_ (ua (ua (ua av 27 (upd (av 27) i (nI bb_1))) 28 (upd (av 28) i x4_2)) 29 (upd (av 29) i (nI 0)))) H locs) => ?_)
              refine lv_aload_n hx hb dX11_readEntry_119 rfl (lv_at hl 1 rfl) ?_
              refine lv_aload_n hx hb dX11_readEntry_120 rfl (lv_at hl 1 rfl) ?_
              refine k_mgi (v := 0) C G 18 (by decide) mr_18 h18_4 fl_X11_175 rfl dX11_readEntry_121 ?_
              refine lv_if_eq (tgt := 171) hx hb dX11_readEntry_124 (by decide) (fun c_124 => ?_) (fun c_124 => ?_)
              · have n_124 := nb_eq (a := 0) (b := 0) c_124 (by omega) (by omega)
                refine lv_iconst (v := 0) hx hb dX11_readEntry_171 (by decide) ?_
                refine k_mpi (v := 0) (ty := .boolean) C G 18 (by decide) mr_18 fl_X11_175 rfl rfl rfl rfl rfl dX11_readEntry_172 (fun H locs (G : wd Z A s (mdW Z h ad (upd iv4_ 18 0) (ua (ua (ua av 27 (upd (av 27) i (nI bb_1))) 28 (upd (av 28) i x4_2)) 29 (upd (av 29) i (nI 0)))) H locs) => ?_)
                refine lv_iload_n hx hb dX11_readEntry_175 rfl (lv_at hl 0 rfl) ?_
                refine lv_if_eq (tgt := 249) hx hb dX11_readEntry_176 (by decide) (fun c_176 => ?_) (fun c_176 => ?_)
                · have n_176 := nb_eq (a := i) (b := 0) c_176 (by omega) (by omega)
                  refine lv_iinc (v := nI (i + 1)) (lv' := [(3, .int (nI (i + 1))), (0, .ref h), (1, .int v), (2, .int (nI k))]) hx hb dX11_readEntry_249 hl (k := 0) rfl (nI_1 _) (by decide) rfl (fun ls hl => ?_)
                  refine lv_goto (tgt := 68) hx hb dX11_readEntry_252 (by decide) ?_
                  exact lp_mre0 C rfl (hp0 (upd iv4_ 18 0) (ua (ua (ua av 27 (upd (av 27) i (nI bb_1))) 28 (upd (av 28) i x4_2)) 29 (upd (av 29) i (nI 0))) ((((hsI.tr hs1 (by decide)).tr hs2 (by decide)).tr hs4 (by decide)).up (by decide) _) (((hsA.up (by decide) _).up (by decide) _).up (by decide) _) (fun y => absurd ⟨rfl, by have := y.1; omega⟩ hno_2)) G (lv_sub hl [0, 1, 2, 3] rfl)
                · have n_176 := nb_ne (a := i) (b := 0) c_176 (by omega) (by omega)
                  refine lv_aload_n hx hb dX11_readEntry_179 rfl (lv_at hl 1 rfl) ?_
                  refine k_mgi (v := 0) C G 18 (by decide) mr_18 rfl fl_X11_175 rfl dX11_readEntry_180 ?_
                  refine lv_if_ne (tgt := 189) hx hb dX11_readEntry_183 (by decide) (fun c_183 => ?_) (fun c_183 => ?_)
                  · exact absurd c_183 (by decide)
                  · have n_183 := nb_eq (a := 0) (b := 0) c_183 (by omega) (by omega)
                    refine lv_goto (tgt := 249) hx hb dX11_readEntry_186 (by decide) ?_
                    refine lv_iinc (v := nI (i + 1)) (lv' := [(3, .int (nI (i + 1))), (0, .ref h), (1, .int v), (2, .int (nI k))]) hx hb dX11_readEntry_249 hl (k := 0) rfl (nI_1 _) (by decide) rfl (fun ls hl => ?_)
                    refine lv_goto (tgt := 68) hx hb dX11_readEntry_252 (by decide) ?_
                    exact lp_mre0 C rfl (hp0 (upd iv4_ 18 0) (ua (ua (ua av 27 (upd (av 27) i (nI bb_1))) 28 (upd (av 28) i x4_2)) 29 (upd (av 29) i (nI 0))) ((((hsI.tr hs1 (by decide)).tr hs2 (by decide)).tr hs4 (by decide)).up (by decide) _) (((hsA.up (by decide) _).up (by decide) _).up (by decide) _) (fun y => absurd ⟨rfl, by have := y.1; omega⟩ hno_2)) G (lv_sub hl [0, 1, 2, 3] rfl)
              · exact absurd c_124 (by decide)
        · subst r_90_e
          refine lv_l2i (v := (0 : Int64).toInt32) hx hb dX11_readEntry_93 rfl ?_
          refine k_topi (y := nI 0) (by decide) ?_
          refine k_mis (x := nI 0) (i := i) C G 10 (k := 27) (n := 256) mp_27 (by decide) (by omega) dX11_readEntry_94 (fun H locs (G : wd Z A s (mdW Z h ad iv1_ (ua av 27 (upd (av 27) i (nI 0)))) H locs) => ?_)
          refine lv_aload_n hx hb dX11_readEntry_95 rfl (lv_at hl 1 rfl) ?_
          refine k_mga C G 28 (by decide) mr_28 fl_X11_53 rfl dX11_readEntry_96 ?_
          refine lv_iload_n hx hb dX11_readEntry_99 rfl (lv_at hl 0 rfl) ?_
          refine lv_aload_n hx hb dX11_readEntry_100 rfl (lv_at hl 1 rfl) ?_
          refine lv_iconst (v := 4) hx hb dX11_readEntry_101 (by decide) ?_
          refine kcM_l G (krV 1 rfl (As := [.int 4]) (rest := [.int (nI i), .ref (ad 28)]) (ci := 12) (CC := RX11) (T := TX11) (N := 61) C G pmN (c_mt4 Z l h ad iv1_ (ua av 27 (upd (av 27) i (nI 0))) (1400 * k + (6 + 6 * i) + 1) (1400 * k + o.2.2.length - 4) 0 h16_1 h17_1 h18_1 (Or.inl rfl) (by omega) (by omega) _) (gdV ml_X11_213 im_X11_take se_X11_take ii_X11 co_X11_take) (by decide +kernel) ⟨Nat.le_of_ble_eq_true rfl, Nat.le_of_ble_eq_true rfl⟩ rfl 0 rfl hl rfl (Nat.le_of_ble_eq_true rfl) ⟨Nat.le_of_ble_eq_true rfl, Nat.le_of_ble_eq_true rfl⟩ dX11_readEntry_102) (fun r_102_1 u H locs hu G => ?_)
          obtain ⟨iv5_, rfl, hs5, h16_5, hcs5⟩ := hu
          have h17_5 : iv5_ 17 = nI (1400 * k + o.2.2.length - 4) := (hs5 17 (by decide)).trans h17_1
          have q26_5 : iv5_ 26 = nI nA := (hs5 26 (by decide)).trans q26_1
          rcases hcs5 with ⟨hg_5, _, _, _⟩ | ⟨hno_5, h18_5⟩
          · exact absurd hg_5 (by decide)
          · refine lv_l2i (v := r_102_1.toInt32) hx hb dX11_readEntry_105 rfl ?_
            refine lv_topi (fun x4_5 ex4_5 => ?_)
            refine k_mis (x := x4_5) (i := i) C G 11 (k := 28) (n := 256) mp_28 (by decide) (by omega) dX11_readEntry_106 (fun H locs (G : wd Z A s (mdW Z h ad iv5_ (ua (ua av 27 (upd (av 27) i (nI 0))) 28 (upd (av 28) i x4_5))) H locs) => ?_)
            refine lv_aload_n hx hb dX11_readEntry_107 rfl (lv_at hl 1 rfl) ?_
            refine k_mga C G 29 (by decide) mr_29 fl_X11_56 rfl dX11_readEntry_108 ?_
            refine lv_iload_n hx hb dX11_readEntry_111 rfl (lv_at hl 0 rfl) ?_
            refine lv_aload_n hx hb dX11_readEntry_112 rfl (lv_at hl 1 rfl) ?_
            refine lv_iconst (v := 1) hx hb dX11_readEntry_113 (by decide) ?_
            refine kcM_l G (krV 1 rfl (As := [.int 1]) (rest := [.int (nI i), .ref (ad 29)]) (ci := 12) (CC := RX11) (T := TX11) (N := 61) C G pmN (c_mt1 Z l h ad iv5_ (ua (ua av 27 (upd (av 27) i (nI 0))) 28 (upd (av 28) i x4_5)) (1400 * k + (6 + 6 * i) + 1 + 4) (1400 * k + o.2.2.length - 4) 0 h16_5 h17_5 h18_5 (Or.inl rfl) (by omega) (by omega) _) (gdV ml_X11_213 im_X11_take se_X11_take ii_X11 co_X11_take) (by decide +kernel) ⟨Nat.le_of_ble_eq_true rfl, Nat.le_of_ble_eq_true rfl⟩ rfl 0 rfl hl rfl (Nat.le_of_ble_eq_true rfl) ⟨Nat.le_of_ble_eq_true rfl, Nat.le_of_ble_eq_true rfl⟩ dX11_readEntry_114) (fun r_114_2 u H locs hu G => ?_)
            obtain ⟨iv6_, rfl, hs6, h16_6, hcs6⟩ := hu
            have h17_6 : iv6_ 17 = nI (1400 * k + o.2.2.length - 4) := (hs6 17 (by decide)).trans h17_5
            have q26_6 : iv6_ 26 = nI nA := (hs6 26 (by decide)).trans q26_5
            rcases hcs6 with ⟨hg_6, _, _, _⟩ | ⟨hno_6, h18_6, r_114_2_e⟩
            · exact absurd hg_6 (by decide)
            · subst r_114_2_e
              refine lv_l2i (v := (0 : Int64).toInt32) hx hb dX11_readEntry_117 rfl ?_
              refine k_topi (y := nI 0) (by decide) ?_
              refine k_mis (x := nI 0) (i := i) C G 12 (k := 29) (n := 256) mp_29 (by decide) (by omega) dX11_readEntry_118 (fun H locs (G : wd Z A s (mdW Z h ad iv6_ (ua (ua (ua av 27 (upd (av 27) i (nI 0))) 28 (upd (av 28) i x4_5)) 29 (upd (av 29) i (nI 0)))) H locs) => ?_)
              refine lv_aload_n hx hb dX11_readEntry_119 rfl (lv_at hl 1 rfl) ?_
              refine lv_aload_n hx hb dX11_readEntry_120 rfl (lv_at hl 1 rfl) ?_
              refine k_mgi (v := 0) C G 18 (by decide) mr_18 h18_6 fl_X11_175 rfl dX11_readEntry_121 ?_
              refine lv_if_eq (tgt := 171) hx hb dX11_readEntry_124 (by decide) (fun c_124 => ?_) (fun c_124 => ?_)
              · have n_124 := nb_eq (a := 0) (b := 0) c_124 (by omega) (by omega)
                refine lv_iconst (v := 0) hx hb dX11_readEntry_171 (by decide) ?_
                refine k_mpi (v := 0) (ty := .boolean) C G 18 (by decide) mr_18 fl_X11_175 rfl rfl rfl rfl rfl dX11_readEntry_172 (fun H locs (G : wd Z A s (mdW Z h ad (upd iv6_ 18 0) (ua (ua (ua av 27 (upd (av 27) i (nI 0))) 28 (upd (av 28) i x4_5)) 29 (upd (av 29) i (nI 0)))) H locs) => ?_)
                refine lv_iload_n hx hb dX11_readEntry_175 rfl (lv_at hl 0 rfl) ?_
                refine lv_if_eq (tgt := 249) hx hb dX11_readEntry_176 (by decide) (fun c_176 => ?_) (fun c_176 => ?_)
                · have n_176 := nb_eq (a := i) (b := 0) c_176 (by omega) (by omega)
                  refine lv_iinc (v := nI (i + 1)) (lv' := [(3, .int (nI (i + 1))), (0, .ref h), (1, .int v), (2, .int (nI k))]) hx hb dX11_readEntry_249 hl (k := 0) rfl (nI_1 _) (by decide) rfl (fun ls hl => ?_)
                  refine lv_goto (tgt := 68) hx hb dX11_readEntry_252 (by decide) ?_
                  exact lp_mre0 C rfl (hp0 (upd iv6_ 18 0) (ua (ua (ua av 27 (upd (av 27) i (nI 0))) 28 (upd (av 28) i x4_5)) 29 (upd (av 29) i (nI 0))) ((((hsI.tr hs1 (by decide)).tr hs5 (by decide)).tr hs6 (by decide)).up (by decide) _) (((hsA.up (by decide) _).up (by decide) _).up (by decide) _) (fun y => absurd ⟨rfl, by have := y.1; omega⟩ hno_1)) G (lv_sub hl [0, 1, 2, 3] rfl)
                · have n_176 := nb_ne (a := i) (b := 0) c_176 (by omega) (by omega)
                  refine lv_aload_n hx hb dX11_readEntry_179 rfl (lv_at hl 1 rfl) ?_
                  refine k_mgi (v := 0) C G 18 (by decide) mr_18 rfl fl_X11_175 rfl dX11_readEntry_180 ?_
                  refine lv_if_ne (tgt := 189) hx hb dX11_readEntry_183 (by decide) (fun c_183 => ?_) (fun c_183 => ?_)
                  · exact absurd c_183 (by decide)
                  · have n_183 := nb_eq (a := 0) (b := 0) c_183 (by omega) (by omega)
                    refine lv_goto (tgt := 249) hx hb dX11_readEntry_186 (by decide) ?_
                    refine lv_iinc (v := nI (i + 1)) (lv' := [(3, .int (nI (i + 1))), (0, .ref h), (1, .int v), (2, .int (nI k))]) hx hb dX11_readEntry_249 hl (k := 0) rfl (nI_1 _) (by decide) rfl (fun ls hl => ?_)
                    refine lv_goto (tgt := 68) hx hb dX11_readEntry_252 (by decide) ?_
                    exact lp_mre0 C rfl (hp0 (upd iv6_ 18 0) (ua (ua (ua av 27 (upd (av 27) i (nI 0))) 28 (upd (av 28) i x4_5)) 29 (upd (av 29) i (nI 0))) ((((hsI.tr hs1 (by decide)).tr hs5 (by decide)).tr hs6 (by decide)).up (by decide) _) (((hsA.up (by decide) _).up (by decide) _).up (by decide) _) (fun y => absurd ⟨rfl, by have := y.1; omega⟩ hno_1)) G (lv_sub hl [0, 1, 2, 3] rfl)
              · exact absurd c_124 (by decide)
