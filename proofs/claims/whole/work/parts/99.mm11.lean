/-! MODEL (X11): readData, readFile. -/
theorem enc_okC (P : Int32) (N : Nat) (V le gr : Nat → Int32) : okC (encB P N V le gr) := by
  unfold okC encB
  have hl : (bodyB P N V le gr ++ u4b (crc (bodyB P N V le gr))).length = (bodyB P N V le gr).length + 4 := by rw [List.length_append, u4b_len]
  rw [hl, Nat.add_sub_cancel, List.take_left]
  have h1 : bat (fnB (bodyB P N V le gr ++ u4b (crc (bodyB P N V le gr)))) 0 (bodyB P N V le gr ++ u4b (crc (bodyB P N V le gr))) := fun i _ => by rw [Nat.zero_add]; rfl
  have h2 := h1.right
  rw [Nat.zero_add] at h2
  exact (r4_u4 h2).symm
theorem encB_len (P : Int32) (N : Nat) (V le gr : Nat → Int32) : (encB P N V le gr).length = 3 + (encC V le gr N 0).length + (encC V le gr N 1).length + (encC V le gr N 2).length + 4 := by
  unfold encB bodyB
  rw [cols3]
  simp only [List.length_append, List.length_cons, List.length_nil, u4b_len]
  omega
theorem encB_bat {f : Nat → Int32} {a : Nat} {p N : Nat} {V le gr : Nat → Int32} (hp : p < 256) (hN : N < 256) (h : bat f a (encB (nI p) N V le gr)) : ub (f a) = 84 ∧ ub (f (a + 1)) = p ∧ ub (f (a + 2)) = N ∧ bat f (a + 3) (encC V le gr N 0) ∧ bat f (a + 3 + (encC V le gr N 0).length) (encC V le gr N 1) ∧ bat f (a + 3 + (encC V le gr N 0).length + (encC V le gr N 1).length) (encC V le gr N 2) := by
  unfold encB at h
  have h1 := h.left
  unfold bodyB at h1
  have h2 := h1.left
  have h3 := h1.right
  rw [cols3, List.nil_append] at h3
  refine ⟨?_, ?_, ?_, h3.left.left, h3.left.right, ?_⟩
  · rw [h2.one]; exact ub_8 (n := 84) (by decide)
  · rw [h2.tl.one, ub_8 hp]
  · rw [h2.tl.tl.one, ub_8 hN]
  · have h4 := h3.right
    rw [List.length_append, ← Nat.add_assoc] at h4
    exact h4
theorem lcm_84 {b : Nat} (hb : b < 256) : lcm (nI b).toInt64 84 = 0 ↔ b = 84 := by
  rw [lcm_z, l84]
  constructor
  · intro h
    exact (nI_eq (a := b) (b := 84) (by omega) (by omega)).mp (i2l_inj h)
  · intro h; rw [h]; rfl
set_option maxRecDepth 100000 in
set_option maxHeartbeats 4000000 in
theorem c_X11_readData (Z : zT) (l : Launch) (h : Nat) (ad : Nat → Nat) (iv : ivT) (av : avT) (ob : List obT) (k : Nat) (o : obT) (ho : mo_ok iv av ob) (hk : ob[k]? = some o) (hf14 : ∀ i, fits .byte (.int (av 14 i)) = true) : Ki Z l yX11_readData cX11_readData 5 (some .boolean) ({ frames := 4, cells := 0, slots := 0, locals := 120 }) [.ref h, .int (nI k)] (mdW Z h ad iv av) (fun r u => ∃ (iv2 : ivT) (av2 : avT), u = mdW Z h ad iv2 av2 ∧ sI [15, 16, 17, 18, 19, 20] iv iv2 ∧ sA [14, 21, 22, 23, 24, 25] av av2 ∧ (∀ i, fits .byte (.int (av2 14 i)) = true) ∧ ((r = 1 ∧ ∃ (p N : Nat), p < 8 ∧ 1 ≤ N ∧ N ≤ 48 ∧ iv2 19 = nI p ∧ iv2 20 = nI N ∧ o.2.2 = encB (nI p) N (mV av2) (leF (mV av2) N) (grF (mV av2) N) ∧ ∀ d, d < 3 → av2 22 d = (if (stF (col (mV av2) d N)).1 = 0 then 0 else 1) ∧ av2 23 d = leF (mV av2) N d ∧ av2 24 d = grF (mV av2) N d) ∨ (r = 0 ∧ ∀ (p N : Nat) (V1 : Nat → Int32), p < 8 → 1 ≤ N → N ≤ 48 → ¬ o.2.2 = encB (nI p) N V1 (leF V1 N) (grF V1 N)))) := by
  intro sz
  refine Met.ofK (cc := cX11_readData) (maxL := 5) (ret := (some .boolean)) (by decide) (Nat.le_of_ble_eq_true rfl) ?_
  intro p e s m below meth c ls C G hl
  generalize va_A _ sz = A at G ⊢
  have hx := C.1
  have hb := C.2.1
  have hown := C.2.2.2.2.2.1
  have hts := C.2.2.2.2.2.2.1
  have hob := ho.2.1
  have hkl := (List.getElem?_eq_some_iff.mp hk).1
  have hol := (ho.2.2.2.1 k o hk).2.2.2.1
  have hou := (ho.2.2.2.1 k o hk).2.2.2.2.1
  have hfb := ho.2.2.2.2
  obtain ⟨p0, N0, V, hYc0⟩ : ∃ (p0 N0 : Nat) (V : Nat → Int32), (∃ (p N : Nat) (V1 : Nat → Int32), p < 8 ∧ 1 ≤ N ∧ N ≤ 48 ∧ o.2.2 = encB (nI p) N V1 (leF V1 N) (grF V1 N)) → (p0 < 8 ∧ 1 ≤ N0 ∧ N0 ≤ 48 ∧ o.2.2 = encB (nI p0) N0 V (leF V N0) (grF V N0)) := by
    by_cases hex : ∃ (p N : Nat) (V1 : Nat → Int32), p < 8 ∧ 1 ≤ N ∧ N ≤ 48 ∧ o.2.2 = encB (nI p) N V1 (leF V1 N) (grF V1 N)
    · obtain ⟨p, N, V1, hz⟩ := hex
      exact ⟨p, N, V1, fun _ => hz⟩
    · exact ⟨0, 0, fun _ => 0, fun z => absurd z hex⟩
  refine lv_aload_n hx hb dX11_readData_0 rfl (lv_at hl 0 rfl) ?_
  refine lv_iload_n hx hb dX11_readData_1 rfl (lv_at hl 1 rfl) ?_
  refine kcM_v G (krV 1 rfl (As := [.int (nI k)]) (rest := []) (ci := 12) (CC := RX11) (T := TX11) (N := 61) C G pmN (c_X11_opens Z l h ad iv av ob k o ho.2.2.2 hob hk _) (gdV ml_X11_217 im_X11_opens se_X11_opens ii_X11 co_X11_opens) (by decide +kernel) ⟨Nat.le_of_ble_eq_true rfl, Nat.le_of_ble_eq_true rfl⟩ rfl 0 rfl hl rfl (Nat.le_of_ble_eq_true rfl) ⟨Nat.le_of_ble_eq_true rfl, Nat.le_of_ble_eq_true rfl⟩ dX11_readData_2) (fun u H locs hu G => ?_)
  obtain ⟨iv1_, rfl, hs1, h16_1, h17_1, hcs1⟩ := hu
  rcases hcs1 with ⟨hok, h18_1⟩ | ⟨hok, h18_1⟩
  · have hz1 := trivial
    refine lv_aload_n hx hb dX11_readData_5 rfl (lv_at hl 0 rfl) ?_
    refine lv_iconst (v := 1) hx hb dX11_readData_6 (by decide) ?_
    refine kcM_l G (krV 1 rfl (As := [.int 1]) (rest := []) (ci := 12) (CC := RX11) (T := TX11) (N := 61) C G pmN (c_mt1 Z l h ad iv1_ av (1400 * k) (1400 * k + o.2.2.length - 4) 1 h16_1 h17_1 h18_1 (Or.inr rfl) (by omega) (by omega) _) (gdV ml_X11_213 im_X11_take se_X11_take ii_X11 co_X11_take) (by decide +kernel) ⟨Nat.le_of_ble_eq_true rfl, Nat.le_of_ble_eq_true rfl⟩ rfl 0 rfl hl rfl (Nat.le_of_ble_eq_true rfl) ⟨Nat.le_of_ble_eq_true rfl, Nat.le_of_ble_eq_true rfl⟩ dX11_readData_7) (fun r_7 u H locs hu G => ?_)
    obtain ⟨iv2_, rfl, hs2, h16_2, hcs2⟩ := hu
    have h17_2 : iv2_ 17 = nI (1400 * k + o.2.2.length - 4) := (hs2 17 (by decide)).trans h17_1
    rcases hcs2 with ⟨hg_2, hle_2, h18_2, r_7_e⟩ | ⟨hno_2, h18_2, r_7_e⟩
    · obtain ⟨bb_2, hbb_2⟩ : ∃ b, b = ub ((av 3) (1400 * k)) := ⟨_, rfl⟩
      have hlbb_2 : bb_2 < 256 := by rw [hbb_2]; exact ub_lt _
      replace r_7_e : r_7 = (nI bb_2).toInt64 := by rw [hbb_2]; exact r_7_e
      subst r_7_e
      refine lv_lstore_n (lv' := [(2, .long ((nI bb_2).toInt64)), (0, .ref h), (1, .int (nI k))]) hx hb dX11_readData_10 rfl hl (by decide) rfl (fun ls hl => ?_)
      refine lv_aload_n hx hb dX11_readData_11 rfl (lv_at hl 1 rfl) ?_
      refine lv_aload_n hx hb dX11_readData_12 rfl (lv_at hl 1 rfl) ?_
      refine lv_iconst (v := 1) hx hb dX11_readData_13 (by decide) ?_
      refine kcM_l G (krV 1 rfl (As := [.int 1]) (rest := [.ref h]) (ci := 12) (CC := RX11) (T := TX11) (N := 61) C G pmN (c_mt1 Z l h ad iv2_ av (1400 * k + 1) (1400 * k + o.2.2.length - 4) 1 h16_2 h17_2 h18_2 (Or.inr rfl) (by omega) (by omega) _) (gdV ml_X11_213 im_X11_take se_X11_take ii_X11 co_X11_take) (by decide +kernel) ⟨Nat.le_of_ble_eq_true rfl, Nat.le_of_ble_eq_true rfl⟩ rfl 0 rfl hl rfl (Nat.le_of_ble_eq_true rfl) ⟨Nat.le_of_ble_eq_true rfl, Nat.le_of_ble_eq_true rfl⟩ dX11_readData_14) (fun r_14 u H locs hu G => ?_)
      obtain ⟨iv3_, rfl, hs3, h16_3, hcs3⟩ := hu
      have h17_3 : iv3_ 17 = nI (1400 * k + o.2.2.length - 4) := (hs3 17 (by decide)).trans h17_2
      rcases hcs3 with ⟨hg_3, hle_3, h18_3, r_14_e⟩ | ⟨hno_3, h18_3, r_14_e⟩
      · obtain ⟨bb_3, hbb_3⟩ : ∃ b, b = ub ((av 3) (1400 * k + 1)) := ⟨_, rfl⟩
        have hlbb_3 : bb_3 < 256 := by rw [hbb_3]; exact ub_lt _
        replace r_14_e : r_14 = (nI bb_3).toInt64 := by rw [hbb_3]; exact r_14_e
        subst r_14_e
        refine lv_l2i (v := ((nI bb_3).toInt64).toInt32) hx hb dX11_readData_17 rfl ?_
        refine k_topi (y := nI bb_3) (l2i_i2l _) ?_
        refine k_mpi (v := nI bb_3) (ty := .int) C G 19 (by decide) mr_19 fl_X11_193 rfl rfl rfl rfl rfl dX11_readData_18 (fun H locs (G : wd Z A s (mdW Z h ad (upd iv3_ 19 (nI bb_3)) av) H locs) => ?_)
        refine lv_aload_n hx hb dX11_readData_21 rfl (lv_at hl 1 rfl) ?_
        refine lv_aload_n hx hb dX11_readData_22 rfl (lv_at hl 1 rfl) ?_
        refine lv_iconst (v := 1) hx hb dX11_readData_23 (by decide) ?_
        refine kcM_l G (krV 1 rfl (As := [.int 1]) (rest := [.ref h]) (ci := 12) (CC := RX11) (T := TX11) (N := 61) C G pmN (c_mt1 Z l h ad (upd iv3_ 19 (nI bb_3)) av (1400 * k + 1 + 1) (1400 * k + o.2.2.length - 4) 1 h16_3 h17_3 h18_3 (Or.inr rfl) (by omega) (by omega) _) (gdV ml_X11_213 im_X11_take se_X11_take ii_X11 co_X11_take) (by decide +kernel) ⟨Nat.le_of_ble_eq_true rfl, Nat.le_of_ble_eq_true rfl⟩ rfl 0 rfl hl rfl (Nat.le_of_ble_eq_true rfl) ⟨Nat.le_of_ble_eq_true rfl, Nat.le_of_ble_eq_true rfl⟩ dX11_readData_24) (fun r_24 u H locs hu G => ?_)
        obtain ⟨iv4_, rfl, hs4, h16_4, hcs4⟩ := hu
        have h17_4 : iv4_ 17 = nI (1400 * k + o.2.2.length - 4) := (hs4 17 (by decide)).trans h17_3
        have q19_4 : iv4_ 19 = nI bb_3 := (hs4 19 (by decide)).trans rfl
        rcases hcs4 with ⟨hg_4, hle_4, h18_4, r_24_e⟩ | ⟨hno_4, h18_4, r_24_e⟩
        · obtain ⟨bb_4, hbb_4⟩ : ∃ b, b = ub ((av 3) (1400 * k + 1 + 1)) := ⟨_, rfl⟩
          have hlbb_4 : bb_4 < 256 := by rw [hbb_4]; exact ub_lt _
          replace r_24_e : r_24 = (nI bb_4).toInt64 := by rw [hbb_4]; exact r_24_e
          subst r_24_e
          refine lv_l2i (v := ((nI bb_4).toInt64).toInt32) hx hb dX11_readData_27 rfl ?_
          refine k_topi (y := nI bb_4) (l2i_i2l _) ?_
          refine k_mpi (v := nI bb_4) (ty := .int) C G 20 (by decide) mr_20 fl_X11_196 rfl rfl rfl rfl rfl dX11_readData_28 (fun H locs (G : wd Z A s (mdW Z h ad (upd iv4_ 20 (nI bb_4)) av) H locs) => ?_)
          refine lv_aload_n hx hb dX11_readData_31 rfl (lv_at hl 1 rfl) ?_
          refine lv_aload_n hx hb dX11_readData_32 rfl (lv_at hl 1 rfl) ?_
          refine k_mgi (v := 1) C G 18 (by decide) mr_18 h18_4 fl_X11_175 rfl dX11_readData_33 ?_
          refine lv_if_eq (tgt := 77) hx hb dX11_readData_36 (by decide) (fun c_36 => ?_) (fun c_36 => ?_)
          · exact absurd c_36 (by decide)
          · have n_36 := nb_ne (a := 1) (b := 0) c_36 (by omega) (by omega)
            refine lv_lload_n hx hb dX11_readData_39 rfl (lv_at hl 0 rfl) ?_
            refine lv_ldc2 (v := 84) hx hb hown (hts _ kl_X11_191) dX11_readData_40 ?_
            refine W.lcmp hx hb dX11_readData_43 ?_
            refine lv_if_ne (tgt := 77) hx hb dX11_readData_44 (by decide) (fun c_44 => ?_) (fun c_44 => ?_)
            · refine lv_iconst (v := 0) hx hb dX11_readData_77 (by decide) ?_
              refine k_mpi (v := 0) (ty := .boolean) C G 18 (by decide) mr_18 fl_X11_175 rfl rfl rfl rfl rfl dX11_readData_78 (fun H locs (G : wd Z A s (mdW Z h ad (upd (upd iv4_ 20 (nI bb_4)) 18 0) av) H locs) => ?_)
              refine lv_iconst (v := 0) hx hb dX11_readData_81 (by decide) ?_
              refine lv_istore (lv' := [(4, .int 0), (2, .long ((nI bb_2).toInt64)), (0, .ref h), (1, .int (nI k))]) hx hb dX11_readData_82 hl (by decide) rfl (fun ls hl => ?_)
              refine lv_iload hx hb dX11_readData_84 (lv_at hl 0 rfl) ?_
              refine lv_iconst (v := 3) hx hb dX11_readData_86 (by decide) ?_
              refine lv_icmp_ge (tgt := 109) hx hb dX11_readData_87 (by decide) (fun c_87 => ?_) (fun c_87 => ?_)
              · exact absurd c_87 (by decide)
              · have n_87 := nb_nle (a := 3) (b := 0) c_87 (by omega) (by omega)
                refine lv_aload_n hx hb dX11_readData_90 rfl (lv_at hl 2 rfl) ?_
                refine k_mgi (v := 0) C G 18 (by decide) mr_18 rfl fl_X11_175 rfl dX11_readData_91 ?_
                refine lv_if_eq (tgt := 109) hx hb dX11_readData_94 (by decide) (fun c_94 => ?_) (fun c_94 => ?_)
                · have n_94 := nb_eq (a := 0) (b := 0) c_94 (by omega) (by omega)
                  refine lv_aload_n hx hb dX11_readData_109 rfl (lv_at hl 2 rfl) ?_
                  refine k_mgi (v := 0) C G 18 (by decide) mr_18 rfl fl_X11_175 rfl dX11_readData_110 ?_
                  refine lv_if_ne (tgt := 118) hx hb dX11_readData_113 (by decide) (fun c_113 => ?_) (fun c_113 => ?_)
                  · exact absurd c_113 (by decide)
                  · have n_113 := nb_eq (a := 0) (b := 0) c_113 (by omega) (by omega)
                    refine lv_iconst (v := 0) hx hb dX11_readData_116 (by decide) ?_
                    exact kr_z C G (by decide) ⟨_, _, rfl, (((((((sI.rf.tr hs1 (by decide)).tr hs2 (by decide)).tr hs3 (by decide)).up (by decide) _).tr hs4 (by decide)).up (by decide) _).up (by decide) _), sA.rf, hf14, Or.inr ⟨rfl, fun p N V1 z1 z2 z3 z4 => by
                      have y := hYc0 ⟨p, N, V1, z1, z2, z3, z4⟩
                      obtain ⟨y1, y2, y3, y4⟩ := y
                      have hbt : bat (av 3) (1400 * k) (encB (nI p0) N0 V (leF V N0) (grF V N0)) := by rw [← y4]; exact (ho.2.2.2.1 k o hk).2.2.2.2.2
                      obtain ⟨b1, b2, b3, b4, b5, b6⟩ := encB_bat (by omega) (by omega) hbt
                      have hlen : o.2.2.length = _ := (congrArg List.length y4).trans (encB_len _ _ _ _ _)
                      exact c_44 ((lcm_84 hlbb_2).mpr (by rw [hbb_2]; exact b1))⟩⟩ (Nat.le_of_ble_eq_true rfl) (Nat.le_of_ble_eq_true rfl) dX11_readData_117
                · exact absurd c_94 (by decide)
            · refine lv_aload_n hx hb dX11_readData_47 rfl (lv_at hl 1 rfl) ?_
              refine k_mgi (v := nI bb_3) C G 19 (by decide) mr_19 q19_4 fl_X11_193 rfl dX11_readData_48 ?_
              refine lv_bipush (v := 8) hx hb dX11_readData_51 (by decide) ?_
              refine lv_icmp_ge (tgt := 77) hx hb dX11_readData_53 (by decide) (fun c_53 => ?_) (fun c_53 => ?_)
              · have n_53 := nb_le (a := 8) (b := bb_3) c_53 (by omega) (by omega)
                refine lv_iconst (v := 0) hx hb dX11_readData_77 (by decide) ?_
                refine k_mpi (v := 0) (ty := .boolean) C G 18 (by decide) mr_18 fl_X11_175 rfl rfl rfl rfl rfl dX11_readData_78 (fun H locs (G : wd Z A s (mdW Z h ad (upd (upd iv4_ 20 (nI bb_4)) 18 0) av) H locs) => ?_)
                refine lv_iconst (v := 0) hx hb dX11_readData_81 (by decide) ?_
                refine lv_istore (lv' := [(4, .int 0), (2, .long ((nI bb_2).toInt64)), (0, .ref h), (1, .int (nI k))]) hx hb dX11_readData_82 hl (by decide) rfl (fun ls hl => ?_)
                refine lv_iload hx hb dX11_readData_84 (lv_at hl 0 rfl) ?_
                refine lv_iconst (v := 3) hx hb dX11_readData_86 (by decide) ?_
                refine lv_icmp_ge (tgt := 109) hx hb dX11_readData_87 (by decide) (fun c_87 => ?_) (fun c_87 => ?_)
                · exact absurd c_87 (by decide)
                · have n_87 := nb_nle (a := 3) (b := 0) c_87 (by omega) (by omega)
                  refine lv_aload_n hx hb dX11_readData_90 rfl (lv_at hl 2 rfl) ?_
                  refine k_mgi (v := 0) C G 18 (by decide) mr_18 rfl fl_X11_175 rfl dX11_readData_91 ?_
                  refine lv_if_eq (tgt := 109) hx hb dX11_readData_94 (by decide) (fun c_94 => ?_) (fun c_94 => ?_)
                  · have n_94 := nb_eq (a := 0) (b := 0) c_94 (by omega) (by omega)
                    refine lv_aload_n hx hb dX11_readData_109 rfl (lv_at hl 2 rfl) ?_
                    refine k_mgi (v := 0) C G 18 (by decide) mr_18 rfl fl_X11_175 rfl dX11_readData_110 ?_
                    refine lv_if_ne (tgt := 118) hx hb dX11_readData_113 (by decide) (fun c_113 => ?_) (fun c_113 => ?_)
                    · exact absurd c_113 (by decide)
                    · have n_113 := nb_eq (a := 0) (b := 0) c_113 (by omega) (by omega)
                      refine lv_iconst (v := 0) hx hb dX11_readData_116 (by decide) ?_
                      exact kr_z C G (by decide) ⟨_, _, rfl, (((((((sI.rf.tr hs1 (by decide)).tr hs2 (by decide)).tr hs3 (by decide)).up (by decide) _).tr hs4 (by decide)).up (by decide) _).up (by decide) _), sA.rf, hf14, Or.inr ⟨rfl, fun p N V1 z1 z2 z3 z4 => by
                        have y := hYc0 ⟨p, N, V1, z1, z2, z3, z4⟩
                        obtain ⟨y1, y2, y3, y4⟩ := y
                        have hbt : bat (av 3) (1400 * k) (encB (nI p0) N0 V (leF V N0) (grF V N0)) := by rw [← y4]; exact (ho.2.2.2.1 k o hk).2.2.2.2.2
                        obtain ⟨b1, b2, b3, b4, b5, b6⟩ := encB_bat (by omega) (by omega) hbt
                        have hlen : o.2.2.length = _ := (congrArg List.length y4).trans (encB_len _ _ _ _ _)
                        exact absurd (show bb_3 = p0 by rw [hbb_3]; exact b2) (by omega)⟩⟩ (Nat.le_of_ble_eq_true rfl) (Nat.le_of_ble_eq_true rfl) dX11_readData_117
                  · exact absurd c_94 (by decide)
              · have n_53 := nb_nle (a := 8) (b := bb_3) c_53 (by omega) (by omega)
                refine lv_aload_n hx hb dX11_readData_56 rfl (lv_at hl 1 rfl) ?_
                refine k_mgi (v := nI bb_4) C G 20 (by decide) mr_20 rfl fl_X11_196 rfl dX11_readData_57 ?_
                refine lv_iconst (v := 1) hx hb dX11_readData_60 (by decide) ?_
                refine lv_icmp_lt (tgt := 77) hx hb dX11_readData_61 (by decide) (fun c_61 => ?_) (fun c_61 => ?_)
                · have n_61 := nb_lt (a := bb_4) (b := 1) c_61 (by omega) (by omega)
                  refine lv_iconst (v := 0) hx hb dX11_readData_77 (by decide) ?_
                  refine k_mpi (v := 0) (ty := .boolean) C G 18 (by decide) mr_18 fl_X11_175 rfl rfl rfl rfl rfl dX11_readData_78 (fun H locs (G : wd Z A s (mdW Z h ad (upd (upd iv4_ 20 (nI bb_4)) 18 0) av) H locs) => ?_)
                  refine lv_iconst (v := 0) hx hb dX11_readData_81 (by decide) ?_
                  refine lv_istore (lv' := [(4, .int 0), (2, .long ((nI bb_2).toInt64)), (0, .ref h), (1, .int (nI k))]) hx hb dX11_readData_82 hl (by decide) rfl (fun ls hl => ?_)
                  refine lv_iload hx hb dX11_readData_84 (lv_at hl 0 rfl) ?_
                  refine lv_iconst (v := 3) hx hb dX11_readData_86 (by decide) ?_
                  refine lv_icmp_ge (tgt := 109) hx hb dX11_readData_87 (by decide) (fun c_87 => ?_) (fun c_87 => ?_)
                  · exact absurd c_87 (by decide)
                  · have n_87 := nb_nle (a := 3) (b := 0) c_87 (by omega) (by omega)
                    refine lv_aload_n hx hb dX11_readData_90 rfl (lv_at hl 2 rfl) ?_
                    refine k_mgi (v := 0) C G 18 (by decide) mr_18 rfl fl_X11_175 rfl dX11_readData_91 ?_
                    refine lv_if_eq (tgt := 109) hx hb dX11_readData_94 (by decide) (fun c_94 => ?_) (fun c_94 => ?_)
                    · have n_94 := nb_eq (a := 0) (b := 0) c_94 (by omega) (by omega)
                      refine lv_aload_n hx hb dX11_readData_109 rfl (lv_at hl 2 rfl) ?_
                      refine k_mgi (v := 0) C G 18 (by decide) mr_18 rfl fl_X11_175 rfl dX11_readData_110 ?_
                      refine lv_if_ne (tgt := 118) hx hb dX11_readData_113 (by decide) (fun c_113 => ?_) (fun c_113 => ?_)
                      · exact absurd c_113 (by decide)
                      · have n_113 := nb_eq (a := 0) (b := 0) c_113 (by omega) (by omega)
                        refine lv_iconst (v := 0) hx hb dX11_readData_116 (by decide) ?_
                        exact kr_z C G (by decide) ⟨_, _, rfl, (((((((sI.rf.tr hs1 (by decide)).tr hs2 (by decide)).tr hs3 (by decide)).up (by decide) _).tr hs4 (by decide)).up (by decide) _).up (by decide) _), sA.rf, hf14, Or.inr ⟨rfl, fun p N V1 z1 z2 z3 z4 => by
                          have y := hYc0 ⟨p, N, V1, z1, z2, z3, z4⟩
                          obtain ⟨y1, y2, y3, y4⟩ := y
                          have hbt : bat (av 3) (1400 * k) (encB (nI p0) N0 V (leF V N0) (grF V N0)) := by rw [← y4]; exact (ho.2.2.2.1 k o hk).2.2.2.2.2
                          obtain ⟨b1, b2, b3, b4, b5, b6⟩ := encB_bat (by omega) (by omega) hbt
                          have hlen : o.2.2.length = _ := (congrArg List.length y4).trans (encB_len _ _ _ _ _)
                          exact absurd (show bb_4 = N0 by rw [hbb_4]; exact b3) (by omega)⟩⟩ (Nat.le_of_ble_eq_true rfl) (Nat.le_of_ble_eq_true rfl) dX11_readData_117
                    · exact absurd c_94 (by decide)
                · have n_61 := nb_nlt (a := bb_4) (b := 1) c_61 (by omega) (by omega)
                  refine lv_aload_n hx hb dX11_readData_64 rfl (lv_at hl 1 rfl) ?_
                  refine k_mgi (v := nI bb_4) C G 20 (by decide) mr_20 rfl fl_X11_196 rfl dX11_readData_65 ?_
                  refine lv_bipush (v := 48) hx hb dX11_readData_68 (by decide) ?_
                  refine lv_icmp_gt (tgt := 77) hx hb dX11_readData_70 (by decide) (fun c_70 => ?_) (fun c_70 => ?_)
                  · have n_70 := nb_lt (a := 48) (b := bb_4) c_70 (by omega) (by omega)
                    refine lv_iconst (v := 0) hx hb dX11_readData_77 (by decide) ?_
                    refine k_mpi (v := 0) (ty := .boolean) C G 18 (by decide) mr_18 fl_X11_175 rfl rfl rfl rfl rfl dX11_readData_78 (fun H locs (G : wd Z A s (mdW Z h ad (upd (upd iv4_ 20 (nI bb_4)) 18 0) av) H locs) => ?_)
                    refine lv_iconst (v := 0) hx hb dX11_readData_81 (by decide) ?_
                    refine lv_istore (lv' := [(4, .int 0), (2, .long ((nI bb_2).toInt64)), (0, .ref h), (1, .int (nI k))]) hx hb dX11_readData_82 hl (by decide) rfl (fun ls hl => ?_)
                    refine lv_iload hx hb dX11_readData_84 (lv_at hl 0 rfl) ?_
                    refine lv_iconst (v := 3) hx hb dX11_readData_86 (by decide) ?_
                    refine lv_icmp_ge (tgt := 109) hx hb dX11_readData_87 (by decide) (fun c_87 => ?_) (fun c_87 => ?_)
                    · exact absurd c_87 (by decide)
                    · have n_87 := nb_nle (a := 3) (b := 0) c_87 (by omega) (by omega)
                      refine lv_aload_n hx hb dX11_readData_90 rfl (lv_at hl 2 rfl) ?_
                      refine k_mgi (v := 0) C G 18 (by decide) mr_18 rfl fl_X11_175 rfl dX11_readData_91 ?_
                      refine lv_if_eq (tgt := 109) hx hb dX11_readData_94 (by decide) (fun c_94 => ?_) (fun c_94 => ?_)
                      · have n_94 := nb_eq (a := 0) (b := 0) c_94 (by omega) (by omega)
                        refine lv_aload_n hx hb dX11_readData_109 rfl (lv_at hl 2 rfl) ?_
                        refine k_mgi (v := 0) C G 18 (by decide) mr_18 rfl fl_X11_175 rfl dX11_readData_110 ?_
                        refine lv_if_ne (tgt := 118) hx hb dX11_readData_113 (by decide) (fun c_113 => ?_) (fun c_113 => ?_)
                        · exact absurd c_113 (by decide)
                        · have n_113 := nb_eq (a := 0) (b := 0) c_113 (by omega) (by omega)
                          refine lv_iconst (v := 0) hx hb dX11_readData_116 (by decide) ?_
                          exact kr_z C G (by decide) ⟨_, _, rfl, (((((((sI.rf.tr hs1 (by decide)).tr hs2 (by decide)).tr hs3 (by decide)).up (by decide) _).tr hs4 (by decide)).up (by decide) _).up (by decide) _), sA.rf, hf14, Or.inr ⟨rfl, fun p N V1 z1 z2 z3 z4 => by
                            have y := hYc0 ⟨p, N, V1, z1, z2, z3, z4⟩
                            obtain ⟨y1, y2, y3, y4⟩ := y
                            have hbt : bat (av 3) (1400 * k) (encB (nI p0) N0 V (leF V N0) (grF V N0)) := by rw [← y4]; exact (ho.2.2.2.1 k o hk).2.2.2.2.2
                            obtain ⟨b1, b2, b3, b4, b5, b6⟩ := encB_bat (by omega) (by omega) hbt
                            have hlen : o.2.2.length = _ := (congrArg List.length y4).trans (encB_len _ _ _ _ _)
                            exact absurd (show bb_4 = N0 by rw [hbb_4]; exact b3) (by omega)⟩⟩ (Nat.le_of_ble_eq_true rfl) (Nat.le_of_ble_eq_true rfl) dX11_readData_117
                      · exact absurd c_94 (by decide)
                  · have n_70 := nb_nlt (a := 48) (b := bb_4) c_70 (by omega) (by omega)
                    refine lv_iconst (v := 1) hx hb dX11_readData_73 (by decide) ?_
                    refine lv_goto (tgt := 78) hx hb dX11_readData_74 (by decide) ?_
                    refine k_mpi (v := 1) (ty := .boolean) C G 18 (by decide) mr_18 fl_X11_175 rfl rfl rfl rfl rfl dX11_readData_78 (fun H locs (G : wd Z A s (mdW Z h ad (upd (upd iv4_ 20 (nI bb_4)) 18 1) av) H locs) => ?_)
                    refine lv_iconst (v := 0) hx hb dX11_readData_81 (by decide) ?_
                    refine lv_istore (lv' := [(4, .int 0), (2, .long ((nI bb_2).toInt64)), (0, .ref h), (1, .int (nI k))]) hx hb dX11_readData_82 hl (by decide) rfl (fun ls hl => ?_)
                    refine lv_iload hx hb dX11_readData_84 (lv_at hl 0 rfl) ?_
                    refine lv_iconst (v := 3) hx hb dX11_readData_86 (by decide) ?_
                    refine lv_icmp_ge (tgt := 109) hx hb dX11_readData_87 (by decide) (fun c_87 => ?_) (fun c_87 => ?_)
                    · exact absurd c_87 (by decide)
                    · have n_87 := nb_nle (a := 3) (b := 0) c_87 (by omega) (by omega)
                      refine lv_aload_n hx hb dX11_readData_90 rfl (lv_at hl 2 rfl) ?_
                      refine k_mgi (v := 1) C G 18 (by decide) mr_18 rfl fl_X11_175 rfl dX11_readData_91 ?_
                      refine lv_if_eq (tgt := 109) hx hb dX11_readData_94 (by decide) (fun c_94 => ?_) (fun c_94 => ?_)
                      · exact absurd c_94 (by decide)
                      · have n_94 := nb_ne (a := 1) (b := 0) c_94 (by omega) (by omega)
                        refine lv_aload_n hx hb dX11_readData_97 rfl (lv_at hl 2 rfl) ?_
                        refine lv_iload hx hb dX11_readData_98 (lv_at hl 0 rfl) ?_
                        refine kcM_v G (krV 1 rfl (As := [.int 0]) (rest := []) (ci := 12) (CC := RX11) (T := TX11) (N := 61) C G pmN (c_X11_takeColumn Z l h ad (upd (upd iv4_ 20 (nI bb_4)) 18 1) av 0 bb_4 (1400 * k + 1 + 1 + 1) (1400 * k + o.2.2.length - 4) V (leF V N0) (grF V N0) hfb h16_4 h17_4 rfl rfl (by omega) (by omega) (by omega) (by omega) _) (gdV ml_X11_220 im_X11_takeColumn se_X11_takeColumn ii_X11 co_X11_takeColumn) (by decide +kernel) ⟨Nat.le_of_ble_eq_true rfl, Nat.le_of_ble_eq_true rfl⟩ rfl 0 rfl hl rfl (Nat.le_of_ble_eq_true rfl) ⟨Nat.le_of_ble_eq_true rfl, Nat.le_of_ble_eq_true rfl⟩ dX11_readData_100) (fun u H locs hu G => ?_)
                        obtain ⟨iv5_, av5_, a_5, rfl, hs5, ha5, h16_5, hbd5, hgg5, hT5, hYc5⟩ := hu
                        have h17_5 : iv5_ 17 = nI (1400 * k + o.2.2.length - 4) := (hs5 17 (by decide)).trans h17_4
                        have q19_5 : iv5_ 19 = nI bb_3 := (hs5 19 (by decide)).trans q19_4
                        have q20_5 : iv5_ 20 = nI bb_4 := (hs5 20 (by decide)).trans rfl
                        rcases hgg5 with h18_5 | h18_5
                        · have hz1 := trivial
                          refine lv_iinc (v := 1) (lv' := [(4, .int 1), (2, .long ((nI bb_2).toInt64)), (0, .ref h), (1, .int (nI k))]) hx hb dX11_readData_103 hl (k := 0) rfl (by decide) (by decide) rfl (fun ls hl => ?_)
                          refine lv_goto (tgt := 84) hx hb dX11_readData_106 (by decide) ?_
                          refine lv_iload hx hb dX11_readData_84 (lv_at hl 0 rfl) ?_
                          refine lv_iconst (v := 3) hx hb dX11_readData_86 (by decide) ?_
                          refine lv_icmp_ge (tgt := 109) hx hb dX11_readData_87 (by decide) (fun c_87_1 => ?_) (fun c_87_1 => ?_)
                          · exact absurd c_87_1 (by decide)
                          · have n_87_1 := nb_nle (a := 3) (b := 1) c_87_1 (by omega) (by omega)
                            refine lv_aload_n hx hb dX11_readData_90 rfl (lv_at hl 2 rfl) ?_
                            refine k_mgi (v := 0) C G 18 (by decide) mr_18 h18_5 fl_X11_175 rfl dX11_readData_91 ?_
                            refine lv_if_eq (tgt := 109) hx hb dX11_readData_94 (by decide) (fun c_94_1 => ?_) (fun c_94_1 => ?_)
                            · have n_94_1 := nb_eq (a := 0) (b := 0) c_94_1 (by omega) (by omega)
                              refine lv_aload_n hx hb dX11_readData_109 rfl (lv_at hl 2 rfl) ?_
                              refine k_mgi (v := 0) C G 18 (by decide) mr_18 h18_5 fl_X11_175 rfl dX11_readData_110 ?_
                              refine lv_if_ne (tgt := 118) hx hb dX11_readData_113 (by decide) (fun c_113 => ?_) (fun c_113 => ?_)
                              · exact absurd c_113 (by decide)
                              · have n_113 := nb_eq (a := 0) (b := 0) c_113 (by omega) (by omega)
                                refine lv_iconst (v := 0) hx hb dX11_readData_116 (by decide) ?_
                                exact kr_z C G (by decide) ⟨_, _, rfl, ((((((((sI.rf.tr hs1 (by decide)).tr hs2 (by decide)).tr hs3 (by decide)).up (by decide) _).tr hs4 (by decide)).up (by decide) _).up (by decide) _).tr hs5 (by decide)), (sA.rf.tr ha5 (by decide)), (by rw [ha5 14 (by decide)]; exact hf14), Or.inr ⟨rfl, fun p N V1 z1 z2 z3 z4 => by
                                  have y := hYc0 ⟨p, N, V1, z1, z2, z3, z4⟩
                                  obtain ⟨y1, y2, y3, y4⟩ := y
                                  have hbt : bat (av 3) (1400 * k) (encB (nI p0) N0 V (leF V N0) (grF V N0)) := by rw [← y4]; exact (ho.2.2.2.1 k o hk).2.2.2.2.2
                                  obtain ⟨b1, b2, b3, b4, b5, b6⟩ := encB_bat (by omega) (by omega) hbt
                                  have hlen : o.2.2.length = _ := (congrArg List.length y4).trans (encB_len _ _ _ _ _)
                                  have hN0 : bb_4 = N0 := by rw [hbb_4]; exact b3
                                  obtain ⟨t5_1, t5_2, t5_3⟩ := hYc5 (by rw [hN0]; exact b4) (by rw [hN0]; omega)
                                  rw [hN0] at t5_2 t5_3
                                  exact absurd (h18_5.symm.trans t5_1) (by decide)⟩⟩ (Nat.le_of_ble_eq_true rfl) (Nat.le_of_ble_eq_true rfl) dX11_readData_117
                            · exact absurd c_94_1 (by decide)
                        · have hz1 := trivial
                          refine lv_iinc (v := 1) (lv' := [(4, .int 1), (2, .long ((nI bb_2).toInt64)), (0, .ref h), (1, .int (nI k))]) hx hb dX11_readData_103 hl (k := 0) rfl (by decide) (by decide) rfl (fun ls hl => ?_)
                          refine lv_goto (tgt := 84) hx hb dX11_readData_106 (by decide) ?_
                          refine lv_iload hx hb dX11_readData_84 (lv_at hl 0 rfl) ?_
                          refine lv_iconst (v := 3) hx hb dX11_readData_86 (by decide) ?_
                          refine lv_icmp_ge (tgt := 109) hx hb dX11_readData_87 (by decide) (fun c_87_1 => ?_) (fun c_87_1 => ?_)
                          · exact absurd c_87_1 (by decide)
                          · have n_87_1 := nb_nle (a := 3) (b := 1) c_87_1 (by omega) (by omega)
                            refine lv_aload_n hx hb dX11_readData_90 rfl (lv_at hl 2 rfl) ?_
                            refine k_mgi (v := 1) C G 18 (by decide) mr_18 h18_5 fl_X11_175 rfl dX11_readData_91 ?_
                            refine lv_if_eq (tgt := 109) hx hb dX11_readData_94 (by decide) (fun c_94_1 => ?_) (fun c_94_1 => ?_)
                            · exact absurd c_94_1 (by decide)
                            · have n_94_1 := nb_ne (a := 1) (b := 0) c_94_1 (by omega) (by omega)
                              refine lv_aload_n hx hb dX11_readData_97 rfl (lv_at hl 2 rfl) ?_
                              refine lv_iload hx hb dX11_readData_98 (lv_at hl 0 rfl) ?_
                              refine kcM_v G (krV 1 rfl (As := [.int 1]) (rest := []) (ci := 12) (CC := RX11) (T := TX11) (N := 61) C G pmN (c_X11_takeColumn Z l h ad iv5_ av5_ 1 bb_4 a_5 (1400 * k + o.2.2.length - 4) V (leF V N0) (grF V N0) (by rw [ha5 3 (by decide)]; exact hfb) h16_5 h17_5 h18_5 q20_5 (by omega) (by omega) (by omega) (by omega) _) (gdV ml_X11_220 im_X11_takeColumn se_X11_takeColumn ii_X11 co_X11_takeColumn) (by decide +kernel) ⟨Nat.le_of_ble_eq_true rfl, Nat.le_of_ble_eq_true rfl⟩ rfl 0 rfl hl rfl (Nat.le_of_ble_eq_true rfl) ⟨Nat.le_of_ble_eq_true rfl, Nat.le_of_ble_eq_true rfl⟩ dX11_readData_100) (fun u H locs hu G => ?_)
                              obtain ⟨iv6_, av6_, a_6, rfl, hs6, ha6, h16_6, hbd6, hgg6, hT6, hYc6⟩ := hu
                              have h17_6 : iv6_ 17 = nI (1400 * k + o.2.2.length - 4) := (hs6 17 (by decide)).trans h17_5
                              have q19_6 : iv6_ 19 = nI bb_3 := (hs6 19 (by decide)).trans q19_5
                              have q20_6 : iv6_ 20 = nI bb_4 := (hs6 20 (by decide)).trans q20_5
                              rcases hgg6 with h18_6 | h18_6
                              · have hz1 := trivial
                                refine lv_iinc (v := 2) (lv' := [(4, .int 2), (2, .long ((nI bb_2).toInt64)), (0, .ref h), (1, .int (nI k))]) hx hb dX11_readData_103 hl (k := 0) rfl (by decide) (by decide) rfl (fun ls hl => ?_)
                                refine lv_goto (tgt := 84) hx hb dX11_readData_106 (by decide) ?_
                                refine lv_iload hx hb dX11_readData_84 (lv_at hl 0 rfl) ?_
                                refine lv_iconst (v := 3) hx hb dX11_readData_86 (by decide) ?_
                                refine lv_icmp_ge (tgt := 109) hx hb dX11_readData_87 (by decide) (fun c_87_2 => ?_) (fun c_87_2 => ?_)
                                · exact absurd c_87_2 (by decide)
                                · have n_87_2 := nb_nle (a := 3) (b := 2) c_87_2 (by omega) (by omega)
                                  refine lv_aload_n hx hb dX11_readData_90 rfl (lv_at hl 2 rfl) ?_
                                  refine k_mgi (v := 0) C G 18 (by decide) mr_18 h18_6 fl_X11_175 rfl dX11_readData_91 ?_
                                  refine lv_if_eq (tgt := 109) hx hb dX11_readData_94 (by decide) (fun c_94_2 => ?_) (fun c_94_2 => ?_)
                                  · have n_94_2 := nb_eq (a := 0) (b := 0) c_94_2 (by omega) (by omega)
                                    refine lv_aload_n hx hb dX11_readData_109 rfl (lv_at hl 2 rfl) ?_
                                    refine k_mgi (v := 0) C G 18 (by decide) mr_18 h18_6 fl_X11_175 rfl dX11_readData_110 ?_
                                    refine lv_if_ne (tgt := 118) hx hb dX11_readData_113 (by decide) (fun c_113 => ?_) (fun c_113 => ?_)
                                    · exact absurd c_113 (by decide)
                                    · have n_113 := nb_eq (a := 0) (b := 0) c_113 (by omega) (by omega)
                                      refine lv_iconst (v := 0) hx hb dX11_readData_116 (by decide) ?_
                                      exact kr_z C G (by decide) ⟨_, _, rfl, (((((((((sI.rf.tr hs1 (by decide)).tr hs2 (by decide)).tr hs3 (by decide)).up (by decide) _).tr hs4 (by decide)).up (by decide) _).up (by decide) _).tr hs5 (by decide)).tr hs6 (by decide)), ((sA.rf.tr ha5 (by decide)).tr ha6 (by decide)), (by rw [ha6 14 (by decide), ha5 14 (by decide)]; exact hf14), Or.inr ⟨rfl, fun p N V1 z1 z2 z3 z4 => by
                                        have y := hYc0 ⟨p, N, V1, z1, z2, z3, z4⟩
                                        obtain ⟨y1, y2, y3, y4⟩ := y
                                        have hbt : bat (av 3) (1400 * k) (encB (nI p0) N0 V (leF V N0) (grF V N0)) := by rw [← y4]; exact (ho.2.2.2.1 k o hk).2.2.2.2.2
                                        obtain ⟨b1, b2, b3, b4, b5, b6⟩ := encB_bat (by omega) (by omega) hbt
                                        have hlen : o.2.2.length = _ := (congrArg List.length y4).trans (encB_len _ _ _ _ _)
                                        have hN0 : bb_4 = N0 := by rw [hbb_4]; exact b3
                                        obtain ⟨t5_1, t5_2, t5_3⟩ := hYc5 (by rw [hN0]; exact b4) (by rw [hN0]; omega)
                                        rw [hN0] at t5_2 t5_3
                                        obtain ⟨t6_1, t6_2, t6_3⟩ := hYc6 (by rw [ha5 3 (by decide)]; rw [hN0, t5_2]; exact b5) (by rw [hN0]; omega)
                                        rw [hN0] at t6_2 t6_3
                                        exact absurd (h18_6.symm.trans t6_1) (by decide)⟩⟩ (Nat.le_of_ble_eq_true rfl) (Nat.le_of_ble_eq_true rfl) dX11_readData_117
                                  · exact absurd c_94_2 (by decide)
                              · have hz1 := trivial
                                refine lv_iinc (v := 2) (lv' := [(4, .int 2), (2, .long ((nI bb_2).toInt64)), (0, .ref h), (1, .int (nI k))]) hx hb dX11_readData_103 hl (k := 0) rfl (by decide) (by decide) rfl (fun ls hl => ?_)
                                refine lv_goto (tgt := 84) hx hb dX11_readData_106 (by decide) ?_
                                refine lv_iload hx hb dX11_readData_84 (lv_at hl 0 rfl) ?_
                                refine lv_iconst (v := 3) hx hb dX11_readData_86 (by decide) ?_
                                refine lv_icmp_ge (tgt := 109) hx hb dX11_readData_87 (by decide) (fun c_87_2 => ?_) (fun c_87_2 => ?_)
                                · exact absurd c_87_2 (by decide)
                                · have n_87_2 := nb_nle (a := 3) (b := 2) c_87_2 (by omega) (by omega)
                                  refine lv_aload_n hx hb dX11_readData_90 rfl (lv_at hl 2 rfl) ?_
                                  refine k_mgi (v := 1) C G 18 (by decide) mr_18 h18_6 fl_X11_175 rfl dX11_readData_91 ?_
                                  refine lv_if_eq (tgt := 109) hx hb dX11_readData_94 (by decide) (fun c_94_2 => ?_) (fun c_94_2 => ?_)
                                  · exact absurd c_94_2 (by decide)
                                  · have n_94_2 := nb_ne (a := 1) (b := 0) c_94_2 (by omega) (by omega)
                                    refine lv_aload_n hx hb dX11_readData_97 rfl (lv_at hl 2 rfl) ?_
                                    refine lv_iload hx hb dX11_readData_98 (lv_at hl 0 rfl) ?_
                                    refine kcM_v G (krV 1 rfl (As := [.int 2]) (rest := []) (ci := 12) (CC := RX11) (T := TX11) (N := 61) C G pmN (c_X11_takeColumn Z l h ad iv6_ av6_ 2 bb_4 a_6 (1400 * k + o.2.2.length - 4) V (leF V N0) (grF V N0) (by rw [ha6 3 (by decide), ha5 3 (by decide)]; exact hfb) h16_6 h17_6 h18_6 q20_6 (by omega) (by omega) (by omega) (by omega) _) (gdV ml_X11_220 im_X11_takeColumn se_X11_takeColumn ii_X11 co_X11_takeColumn) (by decide +kernel) ⟨Nat.le_of_ble_eq_true rfl, Nat.le_of_ble_eq_true rfl⟩ rfl 0 rfl hl rfl (Nat.le_of_ble_eq_true rfl) ⟨Nat.le_of_ble_eq_true rfl, Nat.le_of_ble_eq_true rfl⟩ dX11_readData_100) (fun u H locs hu G => ?_)
                                    obtain ⟨iv7_, av7_, a_7, rfl, hs7, ha7, h16_7, hbd7, hgg7, hT7, hYc7⟩ := hu
                                    have h17_7 : iv7_ 17 = nI (1400 * k + o.2.2.length - 4) := (hs7 17 (by decide)).trans h17_6
                                    have q19_7 : iv7_ 19 = nI bb_3 := (hs7 19 (by decide)).trans q19_6
                                    have q20_7 : iv7_ 20 = nI bb_4 := (hs7 20 (by decide)).trans q20_6
                                    rcases hgg7 with h18_7 | h18_7
                                    · have hz1 := trivial
                                      refine lv_iinc (v := 3) (lv' := [(4, .int 3), (2, .long ((nI bb_2).toInt64)), (0, .ref h), (1, .int (nI k))]) hx hb dX11_readData_103 hl (k := 0) rfl (by decide) (by decide) rfl (fun ls hl => ?_)
                                      refine lv_goto (tgt := 84) hx hb dX11_readData_106 (by decide) ?_
                                      refine lv_iload hx hb dX11_readData_84 (lv_at hl 0 rfl) ?_
                                      refine lv_iconst (v := 3) hx hb dX11_readData_86 (by decide) ?_
                                      refine lv_icmp_ge (tgt := 109) hx hb dX11_readData_87 (by decide) (fun c_87_3 => ?_) (fun c_87_3 => ?_)
                                      · have n_87_3 := nb_le (a := 3) (b := 3) c_87_3 (by omega) (by omega)
                                        refine lv_aload_n hx hb dX11_readData_109 rfl (lv_at hl 2 rfl) ?_
                                        refine k_mgi (v := 0) C G 18 (by decide) mr_18 h18_7 fl_X11_175 rfl dX11_readData_110 ?_
                                        refine lv_if_ne (tgt := 118) hx hb dX11_readData_113 (by decide) (fun c_113 => ?_) (fun c_113 => ?_)
                                        · exact absurd c_113 (by decide)
                                        · have n_113 := nb_eq (a := 0) (b := 0) c_113 (by omega) (by omega)
                                          refine lv_iconst (v := 0) hx hb dX11_readData_116 (by decide) ?_
                                          exact kr_z C G (by decide) ⟨_, _, rfl, ((((((((((sI.rf.tr hs1 (by decide)).tr hs2 (by decide)).tr hs3 (by decide)).up (by decide) _).tr hs4 (by decide)).up (by decide) _).up (by decide) _).tr hs5 (by decide)).tr hs6 (by decide)).tr hs7 (by decide)), (((sA.rf.tr ha5 (by decide)).tr ha6 (by decide)).tr ha7 (by decide)), (by rw [ha7 14 (by decide), ha6 14 (by decide), ha5 14 (by decide)]; exact hf14), Or.inr ⟨rfl, fun p N V1 z1 z2 z3 z4 => by
                                            have y := hYc0 ⟨p, N, V1, z1, z2, z3, z4⟩
                                            obtain ⟨y1, y2, y3, y4⟩ := y
                                            have hbt : bat (av 3) (1400 * k) (encB (nI p0) N0 V (leF V N0) (grF V N0)) := by rw [← y4]; exact (ho.2.2.2.1 k o hk).2.2.2.2.2
                                            obtain ⟨b1, b2, b3, b4, b5, b6⟩ := encB_bat (by omega) (by omega) hbt
                                            have hlen : o.2.2.length = _ := (congrArg List.length y4).trans (encB_len _ _ _ _ _)
                                            have hN0 : bb_4 = N0 := by rw [hbb_4]; exact b3
                                            obtain ⟨t5_1, t5_2, t5_3⟩ := hYc5 (by rw [hN0]; exact b4) (by rw [hN0]; omega)
                                            rw [hN0] at t5_2 t5_3
                                            obtain ⟨t6_1, t6_2, t6_3⟩ := hYc6 (by rw [ha5 3 (by decide)]; rw [hN0, t5_2]; exact b5) (by rw [hN0]; omega)
                                            rw [hN0] at t6_2 t6_3
                                            rw [t5_2] at t6_2
                                            obtain ⟨t7_1, t7_2, t7_3⟩ := hYc7 (by rw [ha6 3 (by decide), ha5 3 (by decide)]; rw [hN0, t6_2]; exact b6) (by rw [hN0]; omega)
                                            rw [hN0] at t7_2 t7_3
                                            exact absurd (h18_7.symm.trans t7_1) (by decide)⟩⟩ (Nat.le_of_ble_eq_true rfl) (Nat.le_of_ble_eq_true rfl) dX11_readData_117
                                      · exact absurd c_87_3 (by decide)
                                    · have hz1 := trivial
                                      refine lv_iinc (v := 3) (lv' := [(4, .int 3), (2, .long ((nI bb_2).toInt64)), (0, .ref h), (1, .int (nI k))]) hx hb dX11_readData_103 hl (k := 0) rfl (by decide) (by decide) rfl (fun ls hl => ?_)
                                      refine lv_goto (tgt := 84) hx hb dX11_readData_106 (by decide) ?_
                                      refine lv_iload hx hb dX11_readData_84 (lv_at hl 0 rfl) ?_
                                      refine lv_iconst (v := 3) hx hb dX11_readData_86 (by decide) ?_
                                      refine lv_icmp_ge (tgt := 109) hx hb dX11_readData_87 (by decide) (fun c_87_3 => ?_) (fun c_87_3 => ?_)
                                      · have n_87_3 := nb_le (a := 3) (b := 3) c_87_3 (by omega) (by omega)
                                        refine lv_aload_n hx hb dX11_readData_109 rfl (lv_at hl 2 rfl) ?_
                                        refine k_mgi (v := 1) C G 18 (by decide) mr_18 h18_7 fl_X11_175 rfl dX11_readData_110 ?_
                                        refine lv_if_ne (tgt := 118) hx hb dX11_readData_113 (by decide) (fun c_113 => ?_) (fun c_113 => ?_)
                                        · have n_113 := nb_ne (a := 1) (b := 0) c_113 (by omega) (by omega)
                                          refine lv_aload_n hx hb dX11_readData_118 rfl (lv_at hl 2 rfl) ?_
                                          refine kcM_v G (krV 0 rfl (As := []) (rest := []) (ci := 12) (CC := RX11) (T := TX11) (N := 61) C G pmN (c_X11_makeData Z l h ad iv7_ av7_ (nI bb_3) bb_4 q19_7 q20_7 (by omega) (by rw [ha7 14 (by decide), ha6 14 (by decide), ha5 14 (by decide)]; exact hf14) _) (gdV ml_X11_223 im_X11_makeData se_X11_makeData ii_X11 co_X11_makeData) (by decide +kernel) ⟨Nat.le_of_ble_eq_true rfl, Nat.le_of_ble_eq_true rfl⟩ rfl 0 rfl hl rfl (Nat.le_of_ble_eq_true rfl) ⟨Nat.le_of_ble_eq_true rfl, Nat.le_of_ble_eq_true rfl⟩ dX11_readData_119) (fun u H locs hu G => ?_)
                                          obtain ⟨iv8_, av8_, rfl, hm8, hbd8, hs8, ha8⟩ := hu
                                          have q19_8 : iv8_ 19 = nI bb_3 := (hs8 19 (by decide)).trans q19_7
                                          have q20_8 : iv8_ 20 = nI bb_4 := (hs8 20 (by decide)).trans q20_7
                                          have q18_8 : iv8_ 18 = 1 := (hs8 18 (by decide)).trans h18_7
                                          refine lv_aload_n hx hb dX11_readData_122 rfl (lv_at hl 2 rfl) ?_
                                          refine lv_iload_n hx hb dX11_readData_123 rfl (lv_at hl 3 rfl) ?_
                                          refine kcM_i G (krV 1 rfl (As := [.int (nI k)]) (rest := []) (ci := 12) (CC := RX11) (T := TX11) (N := 61) C G pmN (c_X11_isMade Z l h ad iv8_ av8_ ob k o _ 1 (ho.2.2.2.same ((ha8 0 (by decide)).trans ((ha7 0 (by decide)).trans ((ha6 0 (by decide)).trans (ha5 0 (by decide))))) ((ha8 1 (by decide)).trans ((ha7 1 (by decide)).trans ((ha6 1 (by decide)).trans (ha5 1 (by decide))))) ((ha8 2 (by decide)).trans ((ha7 2 (by decide)).trans ((ha6 2 (by decide)).trans (ha5 2 (by decide))))) ((ha8 3 (by decide)).trans ((ha7 3 (by decide)).trans ((ha6 3 (by decide)).trans (ha5 3 (by decide)))))) hob hk hm8 (Nat.le_trans (encB_le _ _ _ _ _ (by omega)) (by omega)) q18_8 (Or.inr rfl) _) (gdV ml_X11_226 im_X11_isMade se_X11_isMade ii_X11 co_X11_isMade) (by decide +kernel) ⟨Nat.le_of_ble_eq_true rfl, Nat.le_of_ble_eq_true rfl⟩ rfl 0 rfl hl rfl (Nat.le_of_ble_eq_true rfl) ⟨Nat.le_of_ble_eq_true rfl, Nat.le_of_ble_eq_true rfl⟩ dX11_readData_124) (fun r_124 u H locs hu G => ?_)
                                          obtain ⟨r_124_e, rfl⟩ := hu
                                          by_cases hmd : o.2.2 = encB (nI bb_3) bb_4 (mV av7_) (leF (mV av7_) bb_4) (grF (mV av7_) bb_4)
                                          · rw [if_pos ⟨rfl, hmd⟩] at r_124_e
                                            subst r_124_e
                                            exact kr_z C G (by decide) ⟨_, _, rfl, (((((((((((sI.rf.tr hs1 (by decide)).tr hs2 (by decide)).tr hs3 (by decide)).up (by decide) _).tr hs4 (by decide)).up (by decide) _).up (by decide) _).tr hs5 (by decide)).tr hs6 (by decide)).tr hs7 (by decide)).tr hs8 (by decide)), ((((sA.rf.tr ha5 (by decide)).tr ha6 (by decide)).tr ha7 (by decide)).tr ha8 (by decide)), hm8.2.2, Or.inl ⟨rfl, bb_3, bb_4, by omega, by omega, by omega, q19_8, q20_8, by rw [mV_same (ha8 21 (by decide))]; exact hmd, fun d hd => by rw [mV_same (ha8 21 (by decide))]; exact hbd8 d hd⟩⟩ (Nat.le_of_ble_eq_true rfl) (Nat.le_of_ble_eq_true rfl) dX11_readData_127
                                          · rw [if_neg (fun z => hmd z.2)] at r_124_e
                                            subst r_124_e
                                            exact kr_z C G (by decide) ⟨_, _, rfl, (((((((((((sI.rf.tr hs1 (by decide)).tr hs2 (by decide)).tr hs3 (by decide)).up (by decide) _).tr hs4 (by decide)).up (by decide) _).up (by decide) _).tr hs5 (by decide)).tr hs6 (by decide)).tr hs7 (by decide)).tr hs8 (by decide)), ((((sA.rf.tr ha5 (by decide)).tr ha6 (by decide)).tr ha7 (by decide)).tr ha8 (by decide)), hm8.2.2, Or.inr ⟨rfl, fun p N V1 z1 z2 z3 z4 => by
                                              have y := hYc0 ⟨p, N, V1, z1, z2, z3, z4⟩
                                              obtain ⟨y1, y2, y3, y4⟩ := y
                                              have hbt : bat (av 3) (1400 * k) (encB (nI p0) N0 V (leF V N0) (grF V N0)) := by rw [← y4]; exact (ho.2.2.2.1 k o hk).2.2.2.2.2
                                              obtain ⟨b1, b2, b3, b4, b5, b6⟩ := encB_bat (by omega) (by omega) hbt
                                              have hlen : o.2.2.length = _ := (congrArg List.length y4).trans (encB_len _ _ _ _ _)
                                              have hN0 : bb_4 = N0 := by rw [hbb_4]; exact b3
                                              obtain ⟨t5_1, t5_2, t5_3⟩ := hYc5 (by rw [hN0]; exact b4) (by rw [hN0]; omega)
                                              rw [hN0] at t5_2 t5_3
                                              obtain ⟨t6_1, t6_2, t6_3⟩ := hYc6 (by rw [ha5 3 (by decide)]; rw [hN0, t5_2]; exact b5) (by rw [hN0]; omega)
                                              rw [hN0] at t6_2 t6_3
                                              rw [t5_2] at t6_2
                                              obtain ⟨t7_1, t7_2, t7_3⟩ := hYc7 (by rw [ha6 3 (by decide), ha5 3 (by decide)]; rw [hN0, t6_2]; exact b6) (by rw [hN0]; omega)
                                              rw [hN0] at t7_2 t7_3
                                              rw [t6_2] at t7_2
                                              have hcols : ∀ c, c < 3 → col V c N0 = col (mV av7_) c N0 := by
                                                intro c hc
                                                rw [col_eq]
                                                intro r hr
                                                rw [mV_at av7_ (by omega)]
                                                rcases (show c = 0 ∨ c = 1 ∨ c = 2 by omega) with e | e | e
                                                · subst e; rw [hT7 _ (by omega), hT6 _ (by omega)]; exact (t5_3 r hr).symm
                                                · subst e; rw [hT7 _ (by omega)]; exact (t6_3 r hr).symm
                                                · subst e; exact (t7_3 r hr).symm
                                              have hP0 : bb_3 = p0 := by rw [hbb_3]; exact b2
                                              exact hmd (by rw [y4, hN0, hP0]; exact encF_cong hcols)⟩⟩ (Nat.le_of_ble_eq_true rfl) (Nat.le_of_ble_eq_true rfl) dX11_readData_127
                                        · exact absurd c_113 (by decide)
                                      · exact absurd c_87_3 (by decide)
        · subst r_24_e
          refine lv_l2i (v := (0 : Int64).toInt32) hx hb dX11_readData_27 rfl ?_
          refine k_topi (y := nI 0) (by decide) ?_
          refine k_mpi (v := nI 0) (ty := .int) C G 20 (by decide) mr_20 fl_X11_196 rfl rfl rfl rfl rfl dX11_readData_28 (fun H locs (G : wd Z A s (mdW Z h ad (upd iv4_ 20 (nI 0)) av) H locs) => ?_)
          refine lv_aload_n hx hb dX11_readData_31 rfl (lv_at hl 1 rfl) ?_
          refine lv_aload_n hx hb dX11_readData_32 rfl (lv_at hl 1 rfl) ?_
          refine k_mgi (v := 0) C G 18 (by decide) mr_18 h18_4 fl_X11_175 rfl dX11_readData_33 ?_
          refine lv_if_eq (tgt := 77) hx hb dX11_readData_36 (by decide) (fun c_36 => ?_) (fun c_36 => ?_)
          · have n_36 := nb_eq (a := 0) (b := 0) c_36 (by omega) (by omega)
            refine lv_iconst (v := 0) hx hb dX11_readData_77 (by decide) ?_
            refine k_mpi (v := 0) (ty := .boolean) C G 18 (by decide) mr_18 fl_X11_175 rfl rfl rfl rfl rfl dX11_readData_78 (fun H locs (G : wd Z A s (mdW Z h ad (upd (upd iv4_ 20 (nI 0)) 18 0) av) H locs) => ?_)
            refine lv_iconst (v := 0) hx hb dX11_readData_81 (by decide) ?_
            refine lv_istore (lv' := [(4, .int 0), (2, .long ((nI bb_2).toInt64)), (0, .ref h), (1, .int (nI k))]) hx hb dX11_readData_82 hl (by decide) rfl (fun ls hl => ?_)
            refine lv_iload hx hb dX11_readData_84 (lv_at hl 0 rfl) ?_
            refine lv_iconst (v := 3) hx hb dX11_readData_86 (by decide) ?_
            refine lv_icmp_ge (tgt := 109) hx hb dX11_readData_87 (by decide) (fun c_87 => ?_) (fun c_87 => ?_)
            · exact absurd c_87 (by decide)
            · have n_87 := nb_nle (a := 3) (b := 0) c_87 (by omega) (by omega)
              refine lv_aload_n hx hb dX11_readData_90 rfl (lv_at hl 2 rfl) ?_
              refine k_mgi (v := 0) C G 18 (by decide) mr_18 rfl fl_X11_175 rfl dX11_readData_91 ?_
              refine lv_if_eq (tgt := 109) hx hb dX11_readData_94 (by decide) (fun c_94 => ?_) (fun c_94 => ?_)
              · have n_94 := nb_eq (a := 0) (b := 0) c_94 (by omega) (by omega)
                refine lv_aload_n hx hb dX11_readData_109 rfl (lv_at hl 2 rfl) ?_
                refine k_mgi (v := 0) C G 18 (by decide) mr_18 rfl fl_X11_175 rfl dX11_readData_110 ?_
                refine lv_if_ne (tgt := 118) hx hb dX11_readData_113 (by decide) (fun c_113 => ?_) (fun c_113 => ?_)
                · exact absurd c_113 (by decide)
                · have n_113 := nb_eq (a := 0) (b := 0) c_113 (by omega) (by omega)
                  refine lv_iconst (v := 0) hx hb dX11_readData_116 (by decide) ?_
                  exact kr_z C G (by decide) ⟨_, _, rfl, (((((((sI.rf.tr hs1 (by decide)).tr hs2 (by decide)).tr hs3 (by decide)).up (by decide) _).tr hs4 (by decide)).up (by decide) _).up (by decide) _), sA.rf, hf14, Or.inr ⟨rfl, fun p N V1 z1 z2 z3 z4 => by
                    have y := hYc0 ⟨p, N, V1, z1, z2, z3, z4⟩
                    obtain ⟨y1, y2, y3, y4⟩ := y
                    have hbt : bat (av 3) (1400 * k) (encB (nI p0) N0 V (leF V N0) (grF V N0)) := by rw [← y4]; exact (ho.2.2.2.1 k o hk).2.2.2.2.2
                    obtain ⟨b1, b2, b3, b4, b5, b6⟩ := encB_bat (by omega) (by omega) hbt
                    have hlen : o.2.2.length = _ := (congrArg List.length y4).trans (encB_len _ _ _ _ _)
                    exact absurd ⟨rfl, by omega⟩ hno_4⟩⟩ (Nat.le_of_ble_eq_true rfl) (Nat.le_of_ble_eq_true rfl) dX11_readData_117
              · exact absurd c_94 (by decide)
          · exact absurd c_36 (by decide)
      · subst r_14_e
        refine lv_l2i (v := (0 : Int64).toInt32) hx hb dX11_readData_17 rfl ?_
        refine k_topi (y := nI 0) (by decide) ?_
        refine k_mpi (v := nI 0) (ty := .int) C G 19 (by decide) mr_19 fl_X11_193 rfl rfl rfl rfl rfl dX11_readData_18 (fun H locs (G : wd Z A s (mdW Z h ad (upd iv3_ 19 (nI 0)) av) H locs) => ?_)
        refine lv_aload_n hx hb dX11_readData_21 rfl (lv_at hl 1 rfl) ?_
        refine lv_aload_n hx hb dX11_readData_22 rfl (lv_at hl 1 rfl) ?_
        refine lv_iconst (v := 1) hx hb dX11_readData_23 (by decide) ?_
        refine kcM_l G (krV 1 rfl (As := [.int 1]) (rest := [.ref h]) (ci := 12) (CC := RX11) (T := TX11) (N := 61) C G pmN (c_mt1 Z l h ad (upd iv3_ 19 (nI 0)) av (1400 * k + 1 + 1) (1400 * k + o.2.2.length - 4) 0 h16_3 h17_3 h18_3 (Or.inl rfl) (by omega) (by omega) _) (gdV ml_X11_213 im_X11_take se_X11_take ii_X11 co_X11_take) (by decide +kernel) ⟨Nat.le_of_ble_eq_true rfl, Nat.le_of_ble_eq_true rfl⟩ rfl 0 rfl hl rfl (Nat.le_of_ble_eq_true rfl) ⟨Nat.le_of_ble_eq_true rfl, Nat.le_of_ble_eq_true rfl⟩ dX11_readData_24) (fun r_24_1 u H locs hu G => ?_)
        obtain ⟨iv9_, rfl, hs9, h16_9, hcs9⟩ := hu
        have h17_9 : iv9_ 17 = nI (1400 * k + o.2.2.length - 4) := (hs9 17 (by decide)).trans h17_3
        have q19_9 : iv9_ 19 = nI 0 := (hs9 19 (by decide)).trans rfl
        rcases hcs9 with ⟨hg_9, _, _, _⟩ | ⟨hno_9, h18_9, r_24_1_e⟩
        · exact absurd hg_9 (by decide)
        · subst r_24_1_e
          refine lv_l2i (v := (0 : Int64).toInt32) hx hb dX11_readData_27 rfl ?_
          refine k_topi (y := nI 0) (by decide) ?_
          refine k_mpi (v := nI 0) (ty := .int) C G 20 (by decide) mr_20 fl_X11_196 rfl rfl rfl rfl rfl dX11_readData_28 (fun H locs (G : wd Z A s (mdW Z h ad (upd iv9_ 20 (nI 0)) av) H locs) => ?_)
          refine lv_aload_n hx hb dX11_readData_31 rfl (lv_at hl 1 rfl) ?_
          refine lv_aload_n hx hb dX11_readData_32 rfl (lv_at hl 1 rfl) ?_
          refine k_mgi (v := 0) C G 18 (by decide) mr_18 h18_9 fl_X11_175 rfl dX11_readData_33 ?_
          refine lv_if_eq (tgt := 77) hx hb dX11_readData_36 (by decide) (fun c_36 => ?_) (fun c_36 => ?_)
          · have n_36 := nb_eq (a := 0) (b := 0) c_36 (by omega) (by omega)
            refine lv_iconst (v := 0) hx hb dX11_readData_77 (by decide) ?_
            refine k_mpi (v := 0) (ty := .boolean) C G 18 (by decide) mr_18 fl_X11_175 rfl rfl rfl rfl rfl dX11_readData_78 (fun H locs (G : wd Z A s (mdW Z h ad (upd (upd iv9_ 20 (nI 0)) 18 0) av) H locs) => ?_)
            refine lv_iconst (v := 0) hx hb dX11_readData_81 (by decide) ?_
            refine lv_istore (lv' := [(4, .int 0), (2, .long ((nI bb_2).toInt64)), (0, .ref h), (1, .int (nI k))]) hx hb dX11_readData_82 hl (by decide) rfl (fun ls hl => ?_)
            refine lv_iload hx hb dX11_readData_84 (lv_at hl 0 rfl) ?_
            refine lv_iconst (v := 3) hx hb dX11_readData_86 (by decide) ?_
            refine lv_icmp_ge (tgt := 109) hx hb dX11_readData_87 (by decide) (fun c_87 => ?_) (fun c_87 => ?_)
            · exact absurd c_87 (by decide)
            · have n_87 := nb_nle (a := 3) (b := 0) c_87 (by omega) (by omega)
              refine lv_aload_n hx hb dX11_readData_90 rfl (lv_at hl 2 rfl) ?_
              refine k_mgi (v := 0) C G 18 (by decide) mr_18 rfl fl_X11_175 rfl dX11_readData_91 ?_
              refine lv_if_eq (tgt := 109) hx hb dX11_readData_94 (by decide) (fun c_94 => ?_) (fun c_94 => ?_)
              · have n_94 := nb_eq (a := 0) (b := 0) c_94 (by omega) (by omega)
                refine lv_aload_n hx hb dX11_readData_109 rfl (lv_at hl 2 rfl) ?_
                refine k_mgi (v := 0) C G 18 (by decide) mr_18 rfl fl_X11_175 rfl dX11_readData_110 ?_
                refine lv_if_ne (tgt := 118) hx hb dX11_readData_113 (by decide) (fun c_113 => ?_) (fun c_113 => ?_)
                · exact absurd c_113 (by decide)
                · have n_113 := nb_eq (a := 0) (b := 0) c_113 (by omega) (by omega)
                  refine lv_iconst (v := 0) hx hb dX11_readData_116 (by decide) ?_
                  exact kr_z C G (by decide) ⟨_, _, rfl, (((((((sI.rf.tr hs1 (by decide)).tr hs2 (by decide)).tr hs3 (by decide)).up (by decide) _).tr hs9 (by decide)).up (by decide) _).up (by decide) _), sA.rf, hf14, Or.inr ⟨rfl, fun p N V1 z1 z2 z3 z4 => by
                    have y := hYc0 ⟨p, N, V1, z1, z2, z3, z4⟩
                    obtain ⟨y1, y2, y3, y4⟩ := y
                    have hbt : bat (av 3) (1400 * k) (encB (nI p0) N0 V (leF V N0) (grF V N0)) := by rw [← y4]; exact (ho.2.2.2.1 k o hk).2.2.2.2.2
                    obtain ⟨b1, b2, b3, b4, b5, b6⟩ := encB_bat (by omega) (by omega) hbt
                    have hlen : o.2.2.length = _ := (congrArg List.length y4).trans (encB_len _ _ _ _ _)
                    exact absurd ⟨rfl, by omega⟩ hno_3⟩⟩ (Nat.le_of_ble_eq_true rfl) (Nat.le_of_ble_eq_true rfl) dX11_readData_117
              · exact absurd c_94 (by decide)
          · exact absurd c_36 (by decide)
    · subst r_7_e
      refine lv_lstore_n (lv' := [(2, .long 0), (0, .ref h), (1, .int (nI k))]) hx hb dX11_readData_10 rfl hl (by decide) rfl (fun ls hl => ?_)
      refine lv_aload_n hx hb dX11_readData_11 rfl (lv_at hl 1 rfl) ?_
      refine lv_aload_n hx hb dX11_readData_12 rfl (lv_at hl 1 rfl) ?_
      refine lv_iconst (v := 1) hx hb dX11_readData_13 (by decide) ?_
      refine kcM_l G (krV 1 rfl (As := [.int 1]) (rest := [.ref h]) (ci := 12) (CC := RX11) (T := TX11) (N := 61) C G pmN (c_mt1 Z l h ad iv2_ av (1400 * k + 1) (1400 * k + o.2.2.length - 4) 0 h16_2 h17_2 h18_2 (Or.inl rfl) (by omega) (by omega) _) (gdV ml_X11_213 im_X11_take se_X11_take ii_X11 co_X11_take) (by decide +kernel) ⟨Nat.le_of_ble_eq_true rfl, Nat.le_of_ble_eq_true rfl⟩ rfl 0 rfl hl rfl (Nat.le_of_ble_eq_true rfl) ⟨Nat.le_of_ble_eq_true rfl, Nat.le_of_ble_eq_true rfl⟩ dX11_readData_14) (fun r_14_1 u H locs hu G => ?_)
      obtain ⟨iv10_, rfl, hs10, h16_10, hcs10⟩ := hu
      have h17_10 : iv10_ 17 = nI (1400 * k + o.2.2.length - 4) := (hs10 17 (by decide)).trans h17_2
      rcases hcs10 with ⟨hg_10, _, _, _⟩ | ⟨hno_10, h18_10, r_14_1_e⟩
      · exact absurd hg_10 (by decide)
      · subst r_14_1_e
        refine lv_l2i (v := (0 : Int64).toInt32) hx hb dX11_readData_17 rfl ?_
        refine k_topi (y := nI 0) (by decide) ?_
        refine k_mpi (v := nI 0) (ty := .int) C G 19 (by decide) mr_19 fl_X11_193 rfl rfl rfl rfl rfl dX11_readData_18 (fun H locs (G : wd Z A s (mdW Z h ad (upd iv10_ 19 (nI 0)) av) H locs) => ?_)
        refine lv_aload_n hx hb dX11_readData_21 rfl (lv_at hl 1 rfl) ?_
        refine lv_aload_n hx hb dX11_readData_22 rfl (lv_at hl 1 rfl) ?_
        refine lv_iconst (v := 1) hx hb dX11_readData_23 (by decide) ?_
        refine kcM_l G (krV 1 rfl (As := [.int 1]) (rest := [.ref h]) (ci := 12) (CC := RX11) (T := TX11) (N := 61) C G pmN (c_mt1 Z l h ad (upd iv10_ 19 (nI 0)) av (1400 * k + 1 + 1) (1400 * k + o.2.2.length - 4) 0 h16_10 h17_10 h18_10 (Or.inl rfl) (by omega) (by omega) _) (gdV ml_X11_213 im_X11_take se_X11_take ii_X11 co_X11_take) (by decide +kernel) ⟨Nat.le_of_ble_eq_true rfl, Nat.le_of_ble_eq_true rfl⟩ rfl 0 rfl hl rfl (Nat.le_of_ble_eq_true rfl) ⟨Nat.le_of_ble_eq_true rfl, Nat.le_of_ble_eq_true rfl⟩ dX11_readData_24) (fun r_24_2 u H locs hu G => ?_)
        obtain ⟨iv11_, rfl, hs11, h16_11, hcs11⟩ := hu
        have h17_11 : iv11_ 17 = nI (1400 * k + o.2.2.length - 4) := (hs11 17 (by decide)).trans h17_10
        have q19_11 : iv11_ 19 = nI 0 := (hs11 19 (by decide)).trans rfl
        rcases hcs11 with ⟨hg_11, _, _, _⟩ | ⟨hno_11, h18_11, r_24_2_e⟩
        · exact absurd hg_11 (by decide)
        · subst r_24_2_e
          refine lv_l2i (v := (0 : Int64).toInt32) hx hb dX11_readData_27 rfl ?_
          refine k_topi (y := nI 0) (by decide) ?_
          refine k_mpi (v := nI 0) (ty := .int) C G 20 (by decide) mr_20 fl_X11_196 rfl rfl rfl rfl rfl dX11_readData_28 (fun H locs (G : wd Z A s (mdW Z h ad (upd iv11_ 20 (nI 0)) av) H locs) => ?_)
          refine lv_aload_n hx hb dX11_readData_31 rfl (lv_at hl 1 rfl) ?_
          refine lv_aload_n hx hb dX11_readData_32 rfl (lv_at hl 1 rfl) ?_
          refine k_mgi (v := 0) C G 18 (by decide) mr_18 h18_11 fl_X11_175 rfl dX11_readData_33 ?_
          refine lv_if_eq (tgt := 77) hx hb dX11_readData_36 (by decide) (fun c_36 => ?_) (fun c_36 => ?_)
          · have n_36 := nb_eq (a := 0) (b := 0) c_36 (by omega) (by omega)
            refine lv_iconst (v := 0) hx hb dX11_readData_77 (by decide) ?_
            refine k_mpi (v := 0) (ty := .boolean) C G 18 (by decide) mr_18 fl_X11_175 rfl rfl rfl rfl rfl dX11_readData_78 (fun H locs (G : wd Z A s (mdW Z h ad (upd (upd iv11_ 20 (nI 0)) 18 0) av) H locs) => ?_)
            refine lv_iconst (v := 0) hx hb dX11_readData_81 (by decide) ?_
            refine lv_istore (lv' := [(4, .int 0), (2, .long 0), (0, .ref h), (1, .int (nI k))]) hx hb dX11_readData_82 hl (by decide) rfl (fun ls hl => ?_)
            refine lv_iload hx hb dX11_readData_84 (lv_at hl 0 rfl) ?_
            refine lv_iconst (v := 3) hx hb dX11_readData_86 (by decide) ?_
            refine lv_icmp_ge (tgt := 109) hx hb dX11_readData_87 (by decide) (fun c_87 => ?_) (fun c_87 => ?_)
            · exact absurd c_87 (by decide)
            · have n_87 := nb_nle (a := 3) (b := 0) c_87 (by omega) (by omega)
              refine lv_aload_n hx hb dX11_readData_90 rfl (lv_at hl 2 rfl) ?_
              refine k_mgi (v := 0) C G 18 (by decide) mr_18 rfl fl_X11_175 rfl dX11_readData_91 ?_
              refine lv_if_eq (tgt := 109) hx hb dX11_readData_94 (by decide) (fun c_94 => ?_) (fun c_94 => ?_)
              · have n_94 := nb_eq (a := 0) (b := 0) c_94 (by omega) (by omega)
                refine lv_aload_n hx hb dX11_readData_109 rfl (lv_at hl 2 rfl) ?_
                refine k_mgi (v := 0) C G 18 (by decide) mr_18 rfl fl_X11_175 rfl dX11_readData_110 ?_
                refine lv_if_ne (tgt := 118) hx hb dX11_readData_113 (by decide) (fun c_113 => ?_) (fun c_113 => ?_)
                · exact absurd c_113 (by decide)
                · have n_113 := nb_eq (a := 0) (b := 0) c_113 (by omega) (by omega)
                  refine lv_iconst (v := 0) hx hb dX11_readData_116 (by decide) ?_
                  exact kr_z C G (by decide) ⟨_, _, rfl, (((((((sI.rf.tr hs1 (by decide)).tr hs2 (by decide)).tr hs10 (by decide)).up (by decide) _).tr hs11 (by decide)).up (by decide) _).up (by decide) _), sA.rf, hf14, Or.inr ⟨rfl, fun p N V1 z1 z2 z3 z4 => by
                    have y := hYc0 ⟨p, N, V1, z1, z2, z3, z4⟩
                    obtain ⟨y1, y2, y3, y4⟩ := y
                    have hbt : bat (av 3) (1400 * k) (encB (nI p0) N0 V (leF V N0) (grF V N0)) := by rw [← y4]; exact (ho.2.2.2.1 k o hk).2.2.2.2.2
                    obtain ⟨b1, b2, b3, b4, b5, b6⟩ := encB_bat (by omega) (by omega) hbt
                    have hlen : o.2.2.length = _ := (congrArg List.length y4).trans (encB_len _ _ _ _ _)
                    exact absurd ⟨rfl, by omega⟩ hno_2⟩⟩ (Nat.le_of_ble_eq_true rfl) (Nat.le_of_ble_eq_true rfl) dX11_readData_117
              · exact absurd c_94 (by decide)
          · exact absurd c_36 (by decide)
  · have hz1 := trivial
    refine lv_aload_n hx hb dX11_readData_5 rfl (lv_at hl 0 rfl) ?_
    refine lv_iconst (v := 1) hx hb dX11_readData_6 (by decide) ?_
    refine kcM_l G (krV 1 rfl (As := [.int 1]) (rest := []) (ci := 12) (CC := RX11) (T := TX11) (N := 61) C G pmN (c_mt1 Z l h ad iv1_ av (1400 * k) (1400 * k + o.2.2.length - 4) 0 h16_1 h17_1 h18_1 (Or.inl rfl) (by omega) (by omega) _) (gdV ml_X11_213 im_X11_take se_X11_take ii_X11 co_X11_take) (by decide +kernel) ⟨Nat.le_of_ble_eq_true rfl, Nat.le_of_ble_eq_true rfl⟩ rfl 0 rfl hl rfl (Nat.le_of_ble_eq_true rfl) ⟨Nat.le_of_ble_eq_true rfl, Nat.le_of_ble_eq_true rfl⟩ dX11_readData_7) (fun r_7_1 u H locs hu G => ?_)
    obtain ⟨iv12_, rfl, hs12, h16_12, hcs12⟩ := hu
    have h17_12 : iv12_ 17 = nI (1400 * k + o.2.2.length - 4) := (hs12 17 (by decide)).trans h17_1
    rcases hcs12 with ⟨hg_12, _, _, _⟩ | ⟨hno_12, h18_12, r_7_1_e⟩
    · exact absurd hg_12 (by decide)
    · subst r_7_1_e
      refine lv_lstore_n (lv' := [(2, .long 0), (0, .ref h), (1, .int (nI k))]) hx hb dX11_readData_10 rfl hl (by decide) rfl (fun ls hl => ?_)
      refine lv_aload_n hx hb dX11_readData_11 rfl (lv_at hl 1 rfl) ?_
      refine lv_aload_n hx hb dX11_readData_12 rfl (lv_at hl 1 rfl) ?_
      refine lv_iconst (v := 1) hx hb dX11_readData_13 (by decide) ?_
      refine kcM_l G (krV 1 rfl (As := [.int 1]) (rest := [.ref h]) (ci := 12) (CC := RX11) (T := TX11) (N := 61) C G pmN (c_mt1 Z l h ad iv12_ av (1400 * k + 1) (1400 * k + o.2.2.length - 4) 0 h16_12 h17_12 h18_12 (Or.inl rfl) (by omega) (by omega) _) (gdV ml_X11_213 im_X11_take se_X11_take ii_X11 co_X11_take) (by decide +kernel) ⟨Nat.le_of_ble_eq_true rfl, Nat.le_of_ble_eq_true rfl⟩ rfl 0 rfl hl rfl (Nat.le_of_ble_eq_true rfl) ⟨Nat.le_of_ble_eq_true rfl, Nat.le_of_ble_eq_true rfl⟩ dX11_readData_14) (fun r_14_2 u H locs hu G => ?_)
      obtain ⟨iv13_, rfl, hs13, h16_13, hcs13⟩ := hu
      have h17_13 : iv13_ 17 = nI (1400 * k + o.2.2.length - 4) := (hs13 17 (by decide)).trans h17_12
      rcases hcs13 with ⟨hg_13, _, _, _⟩ | ⟨hno_13, h18_13, r_14_2_e⟩
      · exact absurd hg_13 (by decide)
      · subst r_14_2_e
        refine lv_l2i (v := (0 : Int64).toInt32) hx hb dX11_readData_17 rfl ?_
        refine k_topi (y := nI 0) (by decide) ?_
        refine k_mpi (v := nI 0) (ty := .int) C G 19 (by decide) mr_19 fl_X11_193 rfl rfl rfl rfl rfl dX11_readData_18 (fun H locs (G : wd Z A s (mdW Z h ad (upd iv13_ 19 (nI 0)) av) H locs) => ?_)
        refine lv_aload_n hx hb dX11_readData_21 rfl (lv_at hl 1 rfl) ?_
        refine lv_aload_n hx hb dX11_readData_22 rfl (lv_at hl 1 rfl) ?_
        refine lv_iconst (v := 1) hx hb dX11_readData_23 (by decide) ?_
        refine kcM_l G (krV 1 rfl (As := [.int 1]) (rest := [.ref h]) (ci := 12) (CC := RX11) (T := TX11) (N := 61) C G pmN (c_mt1 Z l h ad (upd iv13_ 19 (nI 0)) av (1400 * k + 1 + 1) (1400 * k + o.2.2.length - 4) 0 h16_13 h17_13 h18_13 (Or.inl rfl) (by omega) (by omega) _) (gdV ml_X11_213 im_X11_take se_X11_take ii_X11 co_X11_take) (by decide +kernel) ⟨Nat.le_of_ble_eq_true rfl, Nat.le_of_ble_eq_true rfl⟩ rfl 0 rfl hl rfl (Nat.le_of_ble_eq_true rfl) ⟨Nat.le_of_ble_eq_true rfl, Nat.le_of_ble_eq_true rfl⟩ dX11_readData_24) (fun r_24_3 u H locs hu G => ?_)
        obtain ⟨iv14_, rfl, hs14, h16_14, hcs14⟩ := hu
        have h17_14 : iv14_ 17 = nI (1400 * k + o.2.2.length - 4) := (hs14 17 (by decide)).trans h17_13
        have q19_14 : iv14_ 19 = nI 0 := (hs14 19 (by decide)).trans rfl
        rcases hcs14 with ⟨hg_14, _, _, _⟩ | ⟨hno_14, h18_14, r_24_3_e⟩
        · exact absurd hg_14 (by decide)
        · subst r_24_3_e
          refine lv_l2i (v := (0 : Int64).toInt32) hx hb dX11_readData_27 rfl ?_
          refine k_topi (y := nI 0) (by decide) ?_
          refine k_mpi (v := nI 0) (ty := .int) C G 20 (by decide) mr_20 fl_X11_196 rfl rfl rfl rfl rfl dX11_readData_28 (fun H locs (G : wd Z A s (mdW Z h ad (upd iv14_ 20 (nI 0)) av) H locs) => ?_)
          refine lv_aload_n hx hb dX11_readData_31 rfl (lv_at hl 1 rfl) ?_
          refine lv_aload_n hx hb dX11_readData_32 rfl (lv_at hl 1 rfl) ?_
          refine k_mgi (v := 0) C G 18 (by decide) mr_18 h18_14 fl_X11_175 rfl dX11_readData_33 ?_
          refine lv_if_eq (tgt := 77) hx hb dX11_readData_36 (by decide) (fun c_36 => ?_) (fun c_36 => ?_)
          · have n_36 := nb_eq (a := 0) (b := 0) c_36 (by omega) (by omega)
            refine lv_iconst (v := 0) hx hb dX11_readData_77 (by decide) ?_
            refine k_mpi (v := 0) (ty := .boolean) C G 18 (by decide) mr_18 fl_X11_175 rfl rfl rfl rfl rfl dX11_readData_78 (fun H locs (G : wd Z A s (mdW Z h ad (upd (upd iv14_ 20 (nI 0)) 18 0) av) H locs) => ?_)
            refine lv_iconst (v := 0) hx hb dX11_readData_81 (by decide) ?_
            refine lv_istore (lv' := [(4, .int 0), (2, .long 0), (0, .ref h), (1, .int (nI k))]) hx hb dX11_readData_82 hl (by decide) rfl (fun ls hl => ?_)
            refine lv_iload hx hb dX11_readData_84 (lv_at hl 0 rfl) ?_
            refine lv_iconst (v := 3) hx hb dX11_readData_86 (by decide) ?_
            refine lv_icmp_ge (tgt := 109) hx hb dX11_readData_87 (by decide) (fun c_87 => ?_) (fun c_87 => ?_)
            · exact absurd c_87 (by decide)
            · have n_87 := nb_nle (a := 3) (b := 0) c_87 (by omega) (by omega)
              refine lv_aload_n hx hb dX11_readData_90 rfl (lv_at hl 2 rfl) ?_
              refine k_mgi (v := 0) C G 18 (by decide) mr_18 rfl fl_X11_175 rfl dX11_readData_91 ?_
              refine lv_if_eq (tgt := 109) hx hb dX11_readData_94 (by decide) (fun c_94 => ?_) (fun c_94 => ?_)
              · have n_94 := nb_eq (a := 0) (b := 0) c_94 (by omega) (by omega)
                refine lv_aload_n hx hb dX11_readData_109 rfl (lv_at hl 2 rfl) ?_
                refine k_mgi (v := 0) C G 18 (by decide) mr_18 rfl fl_X11_175 rfl dX11_readData_110 ?_
                refine lv_if_ne (tgt := 118) hx hb dX11_readData_113 (by decide) (fun c_113 => ?_) (fun c_113 => ?_)
                · exact absurd c_113 (by decide)
                · have n_113 := nb_eq (a := 0) (b := 0) c_113 (by omega) (by omega)
                  refine lv_iconst (v := 0) hx hb dX11_readData_116 (by decide) ?_
                  exact kr_z C G (by decide) ⟨_, _, rfl, (((((((sI.rf.tr hs1 (by decide)).tr hs12 (by decide)).tr hs13 (by decide)).up (by decide) _).tr hs14 (by decide)).up (by decide) _).up (by decide) _), sA.rf, hf14, Or.inr ⟨rfl, fun p N V1 z1 z2 z3 z4 => by
                    have y := hYc0 ⟨p, N, V1, z1, z2, z3, z4⟩
                    obtain ⟨y1, y2, y3, y4⟩ := y
                    have hbt : bat (av 3) (1400 * k) (encB (nI p0) N0 V (leF V N0) (grF V N0)) := by rw [← y4]; exact (ho.2.2.2.1 k o hk).2.2.2.2.2
                    obtain ⟨b1, b2, b3, b4, b5, b6⟩ := encB_bat (by omega) (by omega) hbt
                    have hlen : o.2.2.length = _ := (congrArg List.length y4).trans (encB_len _ _ _ _ _)
                    exact hok (by rw [y4]; exact enc_okC _ _ _ _ _)⟩⟩ (Nat.le_of_ble_eq_true rfl) (Nat.le_of_ble_eq_true rfl) dX11_readData_117
              · exact absurd c_94 (by decide)
          · exact absurd c_36 (by decide)
