/-! MODEL (X11): readCheckpoint. -/
set_option maxRecDepth 100000 in
set_option maxHeartbeats 4000000 in
theorem lp_mrc0 {p : Program} {l : Launch} {e : Env} {s : State} {m : MethodId} {args : Array Value} {below : List Frame} {meth : Method} {c : Code} {Z : zT} {A : Nat → Prop} {h : Nat} {ad : Nat → Nat} {iv : ivT} {av : avT} {k : Nat} {ix : Int32} {post : Int32 → va_W → Prop} (C : cx p s m args meth c cX11_readCheckpoint 3 (some .boolean) RX11 "readCheckpoint") (h18 : iv 18 = 0) (hp : post 0 (mdW Z h ad iv av)) {H : Heap} {locs : List Loc} {ls : Array Slot} (G : wd Z A s (mdW Z h ad iv av) H locs) (hl : lv_has ls 3 [(2, .int ix), (0, .ref h), (1, .int (nI k))]) : W p l e ({ frames := 2, cells := 0, slots := 0, locals := 70 }) s m args below meth c H locs 0 0 (MQ below (va_Qi post (mB Z A) A) args s 0 0 A) (F0 m 60 ls []) := by
  have hx := C.1
  have hb := C.2.1
  have hown := C.2.2.2.2.2.1
  have hts := C.2.2.2.2.2.2.1
  refine lv_iload_n hx hb dX11_readCheckpoint_60 rfl (lv_at hl 0 rfl) ?_
  refine lv_aload_n hx hb dX11_readCheckpoint_61 rfl (lv_at hl 1 rfl) ?_
  refine k_mgi (v := iv 30) C G 30 (by decide) mr_30 rfl fl_X11_245 rfl dX11_readCheckpoint_62 ?_
  refine lv_icmp_ge (tgt := 165) hx hb dX11_readCheckpoint_65 (by decide) (fun c_65 => ?_) (fun c_65 => ?_)
  · refine lv_aload_n hx hb dX11_readCheckpoint_165 rfl (lv_at hl 1 rfl) ?_
    refine k_mgi (v := 0) C G 18 (by decide) mr_18 h18 fl_X11_175 rfl dX11_readCheckpoint_166 ?_
    refine lv_if_eq (tgt := 187) hx hb dX11_readCheckpoint_169 (by decide) (fun c_169 => ?_) (fun c_169 => ?_)
    · have n_169 := nb_eq (a := 0) (b := 0) c_169 (by omega) (by omega)
      refine lv_iconst (v := 0) hx hb dX11_readCheckpoint_187 (by decide) ?_
      exact kr_z C G (by decide) hp (Nat.le_of_ble_eq_true rfl) (Nat.le_of_ble_eq_true rfl) dX11_readCheckpoint_188
    · exact absurd c_169 (by decide)
  · refine lv_aload_n hx hb dX11_readCheckpoint_68 rfl (lv_at hl 1 rfl) ?_
    refine k_mgi (v := 0) C G 18 (by decide) mr_18 h18 fl_X11_175 rfl dX11_readCheckpoint_69 ?_
    refine lv_if_eq (tgt := 165) hx hb dX11_readCheckpoint_72 (by decide) (fun c_72 => ?_) (fun c_72 => ?_)
    · have n_72 := nb_eq (a := 0) (b := 0) c_72 (by omega) (by omega)
      refine lv_aload_n hx hb dX11_readCheckpoint_165 rfl (lv_at hl 1 rfl) ?_
      refine k_mgi (v := 0) C G 18 (by decide) mr_18 h18 fl_X11_175 rfl dX11_readCheckpoint_166 ?_
      refine lv_if_eq (tgt := 187) hx hb dX11_readCheckpoint_169 (by decide) (fun c_169 => ?_) (fun c_169 => ?_)
      · have n_169 := nb_eq (a := 0) (b := 0) c_169 (by omega) (by omega)
        refine lv_iconst (v := 0) hx hb dX11_readCheckpoint_187 (by decide) ?_
        exact kr_z C G (by decide) hp (Nat.le_of_ble_eq_true rfl) (Nat.le_of_ble_eq_true rfl) dX11_readCheckpoint_188
      · exact absurd c_169 (by decide)
    · exact absurd c_72 (by decide)
set_option maxRecDepth 100000 in
set_option maxHeartbeats 4000000 in
theorem lp_mrc {p : Program} {l : Launch} {e : Env} {s : State} {m : MethodId} {args : Array Value} {below : List Frame} {meth : Method} {c : Code} {Z : zT} {A : Nat → Prop} {h : Nat} {ad : Nat → Nat} {iv0 : ivT} {av0 : avT} {ob : List obT} {k nA : Nat} {o : obT} {post : Int32 → va_W → Prop} (C : cx p s m args meth c cX11_readCheckpoint 3 (some .boolean) RX11 "readCheckpoint") (hat : mo_at av0 ob) (hob : ob.length ≤ 100) (hk : ob[k]? = some o) (hnA : nA < 256) (h17 : iv0 17 = nI (1400 * k + o.2.2.length - 4)) (h30 : iv0 30 = nI nA) (hp0 : ∀ (iv2 : ivT) (av2 : avT), sI [16, 18] iv0 iv2 → sA [31, 32] av0 av2 → ¬ (o.2.2.length = 10 + 5 * nA ∧ ∀ j, j < nA → ckC (fnB o.2.2) j) → post 0 (mdW Z h ad iv2 av2)) (hp1 : ∀ (iv2 : ivT) (av2 : avT), sI [16, 18] iv0 iv2 → sA [31, 32] av0 av2 → (o.2.2.length = 10 + 5 * nA ∧ ∀ j, j < nA → ckC (fnB o.2.2) j) → (∀ j, j < nA → av2 31 j = cN (fnB o.2.2) j ∧ av2 32 j = nI (cP (fnB o.2.2) j)) → post 1 (mdW Z h ad iv2 av2)) : ∀ (n i : Nat) (iv : ivT) (av : avT), i + n = nA → iv 16 = nI (1400 * k + (6 + 5 * i)) → iv 18 = 1 → sI [16, 18] iv0 iv → sA [31, 32] av0 av → (∀ j, j < i → av 31 j = cN (fnB o.2.2) j ∧ av 32 j = nI (cP (fnB o.2.2) j) ∧ ckC (fnB o.2.2) j ∧ ¬ cN (fnB o.2.2) j < 0) → ∀ (H : Heap) (locs : List Loc) (ls : Array Slot), wd Z A s (mdW Z h ad iv av) H locs → lv_has ls 3 [(2, .int (nI i)), (0, .ref h), (1, .int (nI k))] → W p l e ({ frames := 2, cells := 0, slots := 0, locals := 70 }) s m args below meth c H locs 0 0 (MQ below (va_Qi post (mB Z A) A) args s 0 0 A) (F0 m 60 ls []) := by
  have hx := C.1
  have hb := C.2.1
  have hown := C.2.2.2.2.2.1
  have hts := C.2.2.2.2.2.2.1
  have hkl := (List.getElem?_eq_some_iff.mp hk).1
  have hol := (hat.1 k o hk).2.2.2.1
  have hou := (hat.1 k o hk).2.2.2.2.1
  intro n
  induction n with
  | zero =>
    intro i iv av hin h16 h18 hsI hsA hA H locs ls G hl
    have h17v : iv 17 = nI (1400 * k + o.2.2.length - 4) := (hsI 17 (by decide)).trans h17
    have h30v : iv 30 = nI nA := (hsI 30 (by decide)).trans h30
    refine lv_iload_n hx hb dX11_readCheckpoint_60 rfl (lv_at hl 0 rfl) ?_
    refine lv_aload_n hx hb dX11_readCheckpoint_61 rfl (lv_at hl 1 rfl) ?_
    refine k_mgi (v := nI nA) C G 30 (by decide) mr_30 h30v fl_X11_245 rfl dX11_readCheckpoint_62 ?_
    refine lv_icmp_ge (tgt := 165) hx hb dX11_readCheckpoint_65 (by decide) (fun c_65 => ?_) (fun c_65 => ?_)
    · have n_65 := nb_le (a := nA) (b := i) c_65 (by omega) (by omega)
      refine lv_aload_n hx hb dX11_readCheckpoint_165 rfl (lv_at hl 1 rfl) ?_
      refine k_mgi (v := 1) C G 18 (by decide) mr_18 h18 fl_X11_175 rfl dX11_readCheckpoint_166 ?_
      refine lv_if_eq (tgt := 187) hx hb dX11_readCheckpoint_169 (by decide) (fun c_169 => ?_) (fun c_169 => ?_)
      · exact absurd c_169 (by decide)
      · have n_169 := nb_ne (a := 1) (b := 0) c_169 (by omega) (by omega)
        refine lv_aload_n hx hb dX11_readCheckpoint_172 rfl (lv_at hl 1 rfl) ?_
        refine k_mgi (v := nI (1400 * k + (6 + 5 * i))) C G 16 (by decide) mr_16 h16 fl_X11_179 rfl dX11_readCheckpoint_173 ?_
        refine lv_aload_n hx hb dX11_readCheckpoint_176 rfl (lv_at hl 1 rfl) ?_
        refine k_mgi (v := nI (1400 * k + o.2.2.length - 4)) C G 17 (by decide) mr_17 h17v fl_X11_182 rfl dX11_readCheckpoint_177 ?_
        refine lv_icmp_ne (tgt := 187) hx hb dX11_readCheckpoint_180 (by decide) (fun c_180 => ?_) (fun c_180 => ?_)
        · have n_180 := nb_ne (a := 1400 * k + (6 + 5 * i)) (b := 1400 * k + o.2.2.length - 4) c_180 (by omega) (by omega)
          refine lv_iconst (v := 0) hx hb dX11_readCheckpoint_187 (by decide) ?_
          exact kr_z C G (by decide) (hp0 iv av hsI hsA (fun y => absurd y.1 (by omega))) (Nat.le_of_ble_eq_true rfl) (Nat.le_of_ble_eq_true rfl) dX11_readCheckpoint_188
        · have n_180 := nb_eq (a := 1400 * k + (6 + 5 * i)) (b := 1400 * k + o.2.2.length - 4) c_180 (by omega) (by omega)
          refine lv_iconst (v := 1) hx hb dX11_readCheckpoint_183 (by decide) ?_
          refine lv_goto (tgt := 188) hx hb dX11_readCheckpoint_184 (by decide) ?_
          exact kr_z C G (by decide) (hp1 iv av hsI hsA ⟨by omega, fun j hj => (hA j (by omega)).2.2.1⟩ (fun j hj => ⟨(hA j (by omega)).1, (hA j (by omega)).2.1⟩)) (Nat.le_of_ble_eq_true rfl) (Nat.le_of_ble_eq_true rfl) dX11_readCheckpoint_188
    · exact absurd (nb_nle (a := nA) (b := i) c_65 (by omega) (by omega)) (by omega)
  | succ n ih =>
    intro i iv av hin h16 h18 hsI hsA hA H locs ls G hl
    have h17v : iv 17 = nI (1400 * k + o.2.2.length - 4) := (hsI 17 (by decide)).trans h17
    have h30v : iv 30 = nI nA := (hsI 30 (by decide)).trans h30
    refine lv_iload_n hx hb dX11_readCheckpoint_60 rfl (lv_at hl 0 rfl) ?_
    refine lv_aload_n hx hb dX11_readCheckpoint_61 rfl (lv_at hl 1 rfl) ?_
    refine k_mgi (v := nI nA) C G 30 (by decide) mr_30 h30v fl_X11_245 rfl dX11_readCheckpoint_62 ?_
    refine lv_icmp_ge (tgt := 165) hx hb dX11_readCheckpoint_65 (by decide) (fun c_65 => ?_) (fun c_65 => ?_)
    · exact absurd (nb_le (a := nA) (b := i) c_65 (by omega) (by omega)) (by omega)
    · have n_65 := nb_nle (a := nA) (b := i) c_65 (by omega) (by omega)
      refine lv_aload_n hx hb dX11_readCheckpoint_68 rfl (lv_at hl 1 rfl) ?_
      refine k_mgi (v := 1) C G 18 (by decide) mr_18 h18 fl_X11_175 rfl dX11_readCheckpoint_69 ?_
      refine lv_if_eq (tgt := 165) hx hb dX11_readCheckpoint_72 (by decide) (fun c_72 => ?_) (fun c_72 => ?_)
      · exact absurd c_72 (by decide)
      · have n_72 := nb_ne (a := 1) (b := 0) c_72 (by omega) (by omega)
        refine lv_aload_n hx hb dX11_readCheckpoint_75 rfl (lv_at hl 1 rfl) ?_
        refine k_mga C G 31 (by decide) mr_31 fl_X11_59 rfl dX11_readCheckpoint_76 ?_
        refine lv_iload_n hx hb dX11_readCheckpoint_79 rfl (lv_at hl 0 rfl) ?_
        refine lv_aload_n hx hb dX11_readCheckpoint_80 rfl (lv_at hl 1 rfl) ?_
        refine lv_iconst (v := 4) hx hb dX11_readCheckpoint_81 (by decide) ?_
        refine kcM_l G (krV 1 rfl (As := [.int 4]) (rest := [.int (nI i), .ref (ad 31)]) (ci := 12) (CC := RX11) (T := TX11) (N := 61) C G pmN (c_mt4 Z l h ad iv av (1400 * k + (6 + 5 * i)) (1400 * k + o.2.2.length - 4) 1 h16 h17v h18 (Or.inr rfl) (by omega) (by omega) _) (gdV ml_X11_213 im_X11_take se_X11_take ii_X11 co_X11_take) (by decide +kernel) ⟨Nat.le_of_ble_eq_true rfl, Nat.le_of_ble_eq_true rfl⟩ rfl 0 rfl hl rfl (Nat.le_of_ble_eq_true rfl) ⟨Nat.le_of_ble_eq_true rfl, Nat.le_of_ble_eq_true rfl⟩ dX11_readCheckpoint_82) (fun r_82 u H locs hu G => ?_)
        obtain ⟨iv1_, rfl, hs1, h16_1, hcs1⟩ := hu
        have h17_1 : iv1_ 17 = nI (1400 * k + o.2.2.length - 4) := (hs1 17 (by decide)).trans h17v
        have q30_1 : iv1_ 30 = nI nA := (hs1 30 (by decide)).trans h30v
        rcases hcs1 with ⟨hg_1, hle_1, h18_1, r_82_e⟩ | ⟨hno_1, h18_1⟩
        · refine lv_l2i (v := r_82.toInt32) hx hb dX11_readCheckpoint_85 rfl ?_
          refine k_topi (y := r4 (av 3) (1400 * k + (6 + 5 * i))) r_82_e ?_
          refine k_mis (x := r4 (av 3) (1400 * k + (6 + 5 * i))) (i := i) C G 13 (k := 31) (n := 260) mp_31 (by decide) (by omega) dX11_readCheckpoint_86 (fun H locs (G : wd Z A s (mdW Z h ad iv1_ (ua av 31 (upd (av 31) i (r4 (av 3) (1400 * k + (6 + 5 * i)))))) H locs) => ?_)
          refine lv_aload_n hx hb dX11_readCheckpoint_87 rfl (lv_at hl 1 rfl) ?_
          refine k_mga C G 32 (by decide) mr_32 fl_X11_62 rfl dX11_readCheckpoint_88 ?_
          refine lv_iload_n hx hb dX11_readCheckpoint_91 rfl (lv_at hl 0 rfl) ?_
          refine lv_aload_n hx hb dX11_readCheckpoint_92 rfl (lv_at hl 1 rfl) ?_
          refine lv_iconst (v := 1) hx hb dX11_readCheckpoint_93 (by decide) ?_
          refine kcM_l G (krV 1 rfl (As := [.int 1]) (rest := [.int (nI i), .ref (ad 32)]) (ci := 12) (CC := RX11) (T := TX11) (N := 61) C G pmN (c_mt1 Z l h ad iv1_ (ua av 31 (upd (av 31) i (r4 (av 3) (1400 * k + (6 + 5 * i))))) (1400 * k + (6 + 5 * i) + 4) (1400 * k + o.2.2.length - 4) 1 h16_1 h17_1 h18_1 (Or.inr rfl) (by omega) (by omega) _) (gdV ml_X11_213 im_X11_take se_X11_take ii_X11 co_X11_take) (by decide +kernel) ⟨Nat.le_of_ble_eq_true rfl, Nat.le_of_ble_eq_true rfl⟩ rfl 0 rfl hl rfl (Nat.le_of_ble_eq_true rfl) ⟨Nat.le_of_ble_eq_true rfl, Nat.le_of_ble_eq_true rfl⟩ dX11_readCheckpoint_94) (fun r_94 u H locs hu G => ?_)
          obtain ⟨iv2_, rfl, hs2, h16_2, hcs2⟩ := hu
          have h17_2 : iv2_ 17 = nI (1400 * k + o.2.2.length - 4) := (hs2 17 (by decide)).trans h17_1
          have q30_2 : iv2_ 30 = nI nA := (hs2 30 (by decide)).trans q30_1
          rcases hcs2 with ⟨hg_2, hle_2, h18_2, r_94_e⟩ | ⟨hno_2, h18_2, r_94_e⟩
          · obtain ⟨bb_2, hbb_2⟩ : ∃ b, b = ub ((av 3) (1400 * k + (6 + 5 * i) + 4)) := ⟨_, rfl⟩
            have hlbb_2 : bb_2 < 256 := by rw [hbb_2]; exact ub_lt _
            replace r_94_e : r_94 = (nI bb_2).toInt64 := by rw [hbb_2]; exact r_94_e
            subst r_94_e
            refine lv_l2i (v := ((nI bb_2).toInt64).toInt32) hx hb dX11_readCheckpoint_97 rfl ?_
            refine k_topi (y := nI bb_2) (l2i_i2l _) ?_
            refine k_mis (x := nI bb_2) (i := i) C G 14 (k := 32) (n := 260) mp_32 (by decide) (by omega) dX11_readCheckpoint_98 (fun H locs (G : wd Z A s (mdW Z h ad iv2_ (ua (ua av 31 (upd (av 31) i (r4 (av 3) (1400 * k + (6 + 5 * i))))) 32 (upd (av 32) i (nI bb_2)))) H locs) => ?_)
            refine lv_aload_n hx hb dX11_readCheckpoint_99 rfl (lv_at hl 1 rfl) ?_
            refine lv_aload_n hx hb dX11_readCheckpoint_100 rfl (lv_at hl 1 rfl) ?_
            refine k_mgi (v := 1) C G 18 (by decide) mr_18 h18_2 fl_X11_175 rfl dX11_readCheckpoint_101 ?_
            refine lv_if_eq (tgt := 155) hx hb dX11_readCheckpoint_104 (by decide) (fun c_104 => ?_) (fun c_104 => ?_)
            · exact absurd c_104 (by decide)
            · have n_104 := nb_ne (a := 1) (b := 0) c_104 (by omega) (by omega)
              refine lv_aload_n hx hb dX11_readCheckpoint_107 rfl (lv_at hl 1 rfl) ?_
              refine k_mga C G 31 (by decide) mr_31 fl_X11_59 rfl dX11_readCheckpoint_108 ?_
              refine lv_iload_n hx hb dX11_readCheckpoint_111 rfl (lv_at hl 0 rfl) ?_
              refine k_mil (v := r4 (av 3) (1400 * k + (6 + 5 * i))) (i := i) C G 13 (k := 31) (n := 260) mp_31 (by decide) (by omega) pk_us dX11_readCheckpoint_112 ?_
              refine lv_if_lt (tgt := 155) hx hb dX11_readCheckpoint_113 (by decide) (fun c_113 => ?_) (fun c_113 => ?_)
              · refine lv_iconst (v := 0) hx hb dX11_readCheckpoint_155 (by decide) ?_
                refine k_mpi (v := 0) (ty := .boolean) C G 18 (by decide) mr_18 fl_X11_175 rfl rfl rfl rfl rfl dX11_readCheckpoint_156 (fun H locs (G : wd Z A s (mdW Z h ad (upd iv2_ 18 0) (ua (ua av 31 (upd (av 31) i (r4 (av 3) (1400 * k + (6 + 5 * i))))) 32 (upd (av 32) i (nI bb_2)))) H locs) => ?_)
                refine lv_iinc (v := nI (i + 1)) (lv' := [(2, .int (nI (i + 1))), (0, .ref h), (1, .int (nI k))]) hx hb dX11_readCheckpoint_159 hl (k := 0) rfl (nI_1 _) (by decide) rfl (fun ls hl => ?_)
                refine lv_goto (tgt := 60) hx hb dX11_readCheckpoint_162 (by decide) ?_
                have hiL : 6 + 5 * i + 5 ≤ o.2.2.length - 4 := by omega
                have f2 : r4 (av 3) (1400 * k + (6 + 5 * i)) = cN (fnB o.2.2) i := by rw [hsA 3 (by decide)]; exact mo_r4 hat hk (by omega)
                have f3 : bb_2 = cP (fnB o.2.2) i := by rw [hbb_2, hsA 3 (by decide), show 1400 * k + (6 + 5 * i) + 4 = 1400 * k + (6 + 5 * i + 4) by omega]; exact mo_ub hat hk (by omega)
                have hna : -1 ≤ cNa (fnB o.2.2) i := by
                  by_cases e0 : i = 0
                  · rw [e0]; exact Int32.le_refl _
                  · obtain ⟨i2, e2⟩ : ∃ i2, i = i2 + 1 := ⟨i - 1, by omega⟩
                    rw [e2]; exact Int32.le_of_lt (neg1_lt.mpr (hA i2 (by omega)).2.2.2)
                exact lp_mrc0 C rfl (hp0 (upd iv2_ 18 0) (ua (ua av 31 (upd (av 31) i (r4 (av 3) (1400 * k + (6 + 5 * i))))) 32 (upd (av 32) i (nI bb_2))) (((hsI.tr hs1 (by decide)).tr hs2 (by decide)).up (by decide) _) ((hsA.up (by decide) _).up (by decide) _) (fun y => by
                  exact absurd (show ¬ r4 (av 3) (1400 * k + (6 + 5 * i)) < 0 by rw [f2]; exact neg1_lt.mp (Int32.lt_of_le_of_lt hna (y.2 i (by omega)).1)) (fun z => z c_113))) G (lv_sub hl [0, 1, 2] rfl)
              · refine lv_aload_n hx hb dX11_readCheckpoint_116 rfl (lv_at hl 1 rfl) ?_
                refine k_mga C G 32 (by decide) mr_32 fl_X11_62 rfl dX11_readCheckpoint_117 ?_
                refine lv_iload_n hx hb dX11_readCheckpoint_120 rfl (lv_at hl 0 rfl) ?_
                refine k_mil (v := nI bb_2) (i := i) C G 14 (k := 32) (n := 260) mp_32 (by decide) (by omega) pk_us dX11_readCheckpoint_121 ?_
                refine lv_bipush (v := 8) hx hb dX11_readCheckpoint_122 (by decide) ?_
                refine lv_icmp_ge (tgt := 155) hx hb dX11_readCheckpoint_124 (by decide) (fun c_124 => ?_) (fun c_124 => ?_)
                · have n_124 := nb_le (a := 8) (b := bb_2) c_124 (by omega) (by omega)
                  refine lv_iconst (v := 0) hx hb dX11_readCheckpoint_155 (by decide) ?_
                  refine k_mpi (v := 0) (ty := .boolean) C G 18 (by decide) mr_18 fl_X11_175 rfl rfl rfl rfl rfl dX11_readCheckpoint_156 (fun H locs (G : wd Z A s (mdW Z h ad (upd iv2_ 18 0) (ua (ua av 31 (upd (av 31) i (r4 (av 3) (1400 * k + (6 + 5 * i))))) 32 (upd (av 32) i (nI bb_2)))) H locs) => ?_)
                  refine lv_iinc (v := nI (i + 1)) (lv' := [(2, .int (nI (i + 1))), (0, .ref h), (1, .int (nI k))]) hx hb dX11_readCheckpoint_159 hl (k := 0) rfl (nI_1 _) (by decide) rfl (fun ls hl => ?_)
                  refine lv_goto (tgt := 60) hx hb dX11_readCheckpoint_162 (by decide) ?_
                  have hiL : 6 + 5 * i + 5 ≤ o.2.2.length - 4 := by omega
                  have f2 : r4 (av 3) (1400 * k + (6 + 5 * i)) = cN (fnB o.2.2) i := by rw [hsA 3 (by decide)]; exact mo_r4 hat hk (by omega)
                  have f3 : bb_2 = cP (fnB o.2.2) i := by rw [hbb_2, hsA 3 (by decide), show 1400 * k + (6 + 5 * i) + 4 = 1400 * k + (6 + 5 * i + 4) by omega]; exact mo_ub hat hk (by omega)
                  have hna : -1 ≤ cNa (fnB o.2.2) i := by
                    by_cases e0 : i = 0
                    · rw [e0]; exact Int32.le_refl _
                    · obtain ⟨i2, e2⟩ : ∃ i2, i = i2 + 1 := ⟨i - 1, by omega⟩
                      rw [e2]; exact Int32.le_of_lt (neg1_lt.mpr (hA i2 (by omega)).2.2.2)
                  exact lp_mrc0 C rfl (hp0 (upd iv2_ 18 0) (ua (ua av 31 (upd (av 31) i (r4 (av 3) (1400 * k + (6 + 5 * i))))) 32 (upd (av 32) i (nI bb_2))) (((hsI.tr hs1 (by decide)).tr hs2 (by decide)).up (by decide) _) ((hsA.up (by decide) _).up (by decide) _) (fun y => by
                    have := (y.2 i (by omega)).2; omega)) G (lv_sub hl [0, 1, 2] rfl)
                · have n_124 := nb_nle (a := 8) (b := bb_2) c_124 (by omega) (by omega)
                  refine lv_iload_n hx hb dX11_readCheckpoint_127 rfl (lv_at hl 0 rfl) ?_
                  refine lv_if_eq (tgt := 151) hx hb dX11_readCheckpoint_128 (by decide) (fun c_128 => ?_) (fun c_128 => ?_)
                  · have n_128 := nb_eq (a := i) (b := 0) c_128 (by omega) (by omega)
                    refine lv_iconst (v := 1) hx hb dX11_readCheckpoint_151 (by decide) ?_
                    refine lv_goto (tgt := 156) hx hb dX11_readCheckpoint_152 (by decide) ?_
                    refine k_mpi (v := 1) (ty := .boolean) C G 18 (by decide) mr_18 fl_X11_175 rfl rfl rfl rfl rfl dX11_readCheckpoint_156 (fun H locs (G : wd Z A s (mdW Z h ad (upd iv2_ 18 1) (ua (ua av 31 (upd (av 31) i (r4 (av 3) (1400 * k + (6 + 5 * i))))) 32 (upd (av 32) i (nI bb_2)))) H locs) => ?_)
                    refine lv_iinc (v := nI (i + 1)) (lv' := [(2, .int (nI (i + 1))), (0, .ref h), (1, .int (nI k))]) hx hb dX11_readCheckpoint_159 hl (k := 0) rfl (nI_1 _) (by decide) rfl (fun ls hl => ?_)
                    refine lv_goto (tgt := 60) hx hb dX11_readCheckpoint_162 (by decide) ?_
                    have hiL : 6 + 5 * i + 5 ≤ o.2.2.length - 4 := by omega
                    have f2 : r4 (av 3) (1400 * k + (6 + 5 * i)) = cN (fnB o.2.2) i := by rw [hsA 3 (by decide)]; exact mo_r4 hat hk (by omega)
                    have f3 : bb_2 = cP (fnB o.2.2) i := by rw [hbb_2, hsA 3 (by decide), show 1400 * k + (6 + 5 * i) + 4 = 1400 * k + (6 + 5 * i + 4) by omega]; exact mo_ub hat hk (by omega)
                    have hna : -1 ≤ cNa (fnB o.2.2) i := by
                      by_cases e0 : i = 0
                      · rw [e0]; exact Int32.le_refl _
                      · obtain ⟨i2, e2⟩ : ∃ i2, i = i2 + 1 := ⟨i - 1, by omega⟩
                        rw [e2]; exact Int32.le_of_lt (neg1_lt.mpr (hA i2 (by omega)).2.2.2)
                    have hnn : ¬ cN (fnB o.2.2) i < 0 := by rw [← f2]; exact c_113
                    have hp8 : cP (fnB o.2.2) i < 8 := by rw [← f3]; omega
                    have hen2 : ckC (fnB o.2.2) i := by
                      have hi0 : i = 0 := by omega
                      refine ⟨?_, hp8⟩
                      rw [hi0]; rw [hi0] at hnn; exact neg1_lt.mpr hnn
                    exact ih (i + 1) (upd iv2_ 18 1) (ua (ua av 31 (upd (av 31) i (r4 (av 3) (1400 * k + (6 + 5 * i))))) 32 (upd (av 32) i (nI bb_2))) (by omega) (h16_2.trans (congrArg nI (by omega))) rfl (((hsI.tr hs1 (by decide)).tr hs2 (by decide)).up (by decide) _) ((hsA.up (by decide) _).up (by decide) _) (fun j hj => by
                      by_cases e : j = i
                      · subst e
                        exact ⟨pk_us.trans f2, pk_us.trans (by rw [f3]), hen2, hnn⟩
                      · obtain ⟨a1, a2, a3⟩ := hA j (by omega)
                        exact ⟨(pk_un e).trans a1, (pk_un e).trans a2, a3⟩) _ _ _ G (lv_sub hl [0, 1, 2] rfl)
                  · have n_128 := nb_ne (a := i) (b := 0) c_128 (by omega) (by omega)
                    refine lv_aload_n hx hb dX11_readCheckpoint_131 rfl (lv_at hl 1 rfl) ?_
                    refine k_mga C G 31 (by decide) mr_31 fl_X11_59 rfl dX11_readCheckpoint_132 ?_
                    refine lv_iload_n hx hb dX11_readCheckpoint_135 rfl (lv_at hl 0 rfl) ?_
                    refine lv_iconst (v := 1) hx hb dX11_readCheckpoint_136 (by decide) ?_
                    refine lv_isub hx hb dX11_readCheckpoint_137 ?_
                    refine k_topi (y := nI (i - 1)) (pk_sub (a := i) (b := 1) (by omega)) ?_
                    refine k_mil (v := cN (fnB o.2.2) (i - 1)) (i := i - 1) C G 13 (k := 31) (n := 260) mp_31 (by decide) (by omega) ((pk_un (show i - 1 ≠ i by omega)).trans (hA (i - 1) (by omega)).1) dX11_readCheckpoint_138 ?_
                    refine lv_aload_n hx hb dX11_readCheckpoint_139 rfl (lv_at hl 1 rfl) ?_
                    refine k_mga C G 31 (by decide) mr_31 fl_X11_59 rfl dX11_readCheckpoint_140 ?_
                    refine lv_iload_n hx hb dX11_readCheckpoint_143 rfl (lv_at hl 0 rfl) ?_
                    refine k_mil (v := r4 (av 3) (1400 * k + (6 + 5 * i))) (i := i) C G 13 (k := 31) (n := 260) mp_31 (by decide) (by omega) pk_us dX11_readCheckpoint_144 ?_
                    refine kcM_i G (krS 2 rfl (As := [.int (cN (fnB o.2.2) (i - 1)), .int (r4 (av 3) (1400 * k + (6 + 5 * i)))]) (rest := [.ref h]) C G pmN (c_X11_isBelow Z l h ad iv2_ (ua (ua av 31 (upd (av 31) i (r4 (av 3) (1400 * k + (6 + 5 * i))))) 32 (upd (av 32) i (nI bb_2))) (cN (fnB o.2.2) (i - 1)) (r4 (av 3) (1400 * k + (6 + 5 * i))) _) (gdS ml_X11_239 sm_X11_isBelow ii_X11 co_X11_isBelow) (by decide +kernel) ⟨Nat.le_of_ble_eq_true rfl, Nat.le_of_ble_eq_true rfl⟩ hl rfl (Nat.le_of_ble_eq_true rfl) ⟨Nat.le_of_ble_eq_true rfl, Nat.le_of_ble_eq_true rfl⟩ dX11_readCheckpoint_145) (fun r_145 u H locs hu G => ?_)
                    obtain ⟨r_145_e, rfl⟩ := hu
                    by_cases hbe : (cN (fnB o.2.2) (i - 1)).toBitVec.toNat < (r4 (av 3) (1400 * k + (6 + 5 * i))).toBitVec.toNat
                    · rw [if_pos hbe] at r_145_e
                      subst r_145_e
                      refine lv_if_eq (tgt := 155) hx hb dX11_readCheckpoint_148 (by decide) (fun c_148 => ?_) (fun c_148 => ?_)
                      · exact absurd c_148 (by decide)
                      · have n_148 := nb_ne (a := 1) (b := 0) c_148 (by omega) (by omega)
                        refine lv_iconst (v := 1) hx hb dX11_readCheckpoint_151 (by decide) ?_
                        refine lv_goto (tgt := 156) hx hb dX11_readCheckpoint_152 (by decide) ?_
                        refine k_mpi (v := 1) (ty := .boolean) C G 18 (by decide) mr_18 fl_X11_175 rfl rfl rfl rfl rfl dX11_readCheckpoint_156 (fun H locs (G : wd Z A s (mdW Z h ad (upd iv2_ 18 1) (ua (ua av 31 (upd (av 31) i (r4 (av 3) (1400 * k + (6 + 5 * i))))) 32 (upd (av 32) i (nI bb_2)))) H locs) => ?_)
                        refine lv_iinc (v := nI (i + 1)) (lv' := [(2, .int (nI (i + 1))), (0, .ref h), (1, .int (nI k))]) hx hb dX11_readCheckpoint_159 hl (k := 0) rfl (nI_1 _) (by decide) rfl (fun ls hl => ?_)
                        refine lv_goto (tgt := 60) hx hb dX11_readCheckpoint_162 (by decide) ?_
                        have hiL : 6 + 5 * i + 5 ≤ o.2.2.length - 4 := by omega
                        have f2 : r4 (av 3) (1400 * k + (6 + 5 * i)) = cN (fnB o.2.2) i := by rw [hsA 3 (by decide)]; exact mo_r4 hat hk (by omega)
                        have f3 : bb_2 = cP (fnB o.2.2) i := by rw [hbb_2, hsA 3 (by decide), show 1400 * k + (6 + 5 * i) + 4 = 1400 * k + (6 + 5 * i + 4) by omega]; exact mo_ub hat hk (by omega)
                        have hna : -1 ≤ cNa (fnB o.2.2) i := by
                          by_cases e0 : i = 0
                          · rw [e0]; exact Int32.le_refl _
                          · obtain ⟨i2, e2⟩ : ∃ i2, i = i2 + 1 := ⟨i - 1, by omega⟩
                            rw [e2]; exact Int32.le_of_lt (neg1_lt.mpr (hA i2 (by omega)).2.2.2)
                        have hnn : ¬ cN (fnB o.2.2) i < 0 := by rw [← f2]; exact c_113
                        have hp8 : cP (fnB o.2.2) i < 8 := by rw [← f3]; omega
                        have hen2 : ckC (fnB o.2.2) i := by
                          obtain ⟨i2, e2⟩ : ∃ i2, i = i2 + 1 := ⟨i - 1, by omega⟩
                          have e4 : cNa (fnB o.2.2) i = cN (fnB o.2.2) (i - 1) := by rw [e2]; rfl
                          refine ⟨?_, hp8⟩
                          rw [e4]
                          rw [f2] at hbe
                          exact (bel_iff (hA (i - 1) (by omega)).2.2.2 hnn).mp hbe
                        exact ih (i + 1) (upd iv2_ 18 1) (ua (ua av 31 (upd (av 31) i (r4 (av 3) (1400 * k + (6 + 5 * i))))) 32 (upd (av 32) i (nI bb_2))) (by omega) (h16_2.trans (congrArg nI (by omega))) rfl (((hsI.tr hs1 (by decide)).tr hs2 (by decide)).up (by decide) _) ((hsA.up (by decide) _).up (by decide) _) (fun j hj => by
                          by_cases e : j = i
                          · subst e
                            exact ⟨pk_us.trans f2, pk_us.trans (by rw [f3]), hen2, hnn⟩
                          · obtain ⟨a1, a2, a3⟩ := hA j (by omega)
                            exact ⟨(pk_un e).trans a1, (pk_un e).trans a2, a3⟩) _ _ _ G (lv_sub hl [0, 1, 2] rfl)
                    · rw [if_neg hbe] at r_145_e
                      subst r_145_e
                      refine lv_if_eq (tgt := 155) hx hb dX11_readCheckpoint_148 (by decide) (fun c_148 => ?_) (fun c_148 => ?_)
                      · have n_148 := nb_eq (a := 0) (b := 0) c_148 (by omega) (by omega)
                        refine lv_iconst (v := 0) hx hb dX11_readCheckpoint_155 (by decide) ?_
                        refine k_mpi (v := 0) (ty := .boolean) C G 18 (by decide) mr_18 fl_X11_175 rfl rfl rfl rfl rfl dX11_readCheckpoint_156 (fun H locs (G : wd Z A s (mdW Z h ad (upd iv2_ 18 0) (ua (ua av 31 (upd (av 31) i (r4 (av 3) (1400 * k + (6 + 5 * i))))) 32 (upd (av 32) i (nI bb_2)))) H locs) => ?_)
                        refine lv_iinc (v := nI (i + 1)) (lv' := [(2, .int (nI (i + 1))), (0, .ref h), (1, .int (nI k))]) hx hb dX11_readCheckpoint_159 hl (k := 0) rfl (nI_1 _) (by decide) rfl (fun ls hl => ?_)
                        refine lv_goto (tgt := 60) hx hb dX11_readCheckpoint_162 (by decide) ?_
                        have hiL : 6 + 5 * i + 5 ≤ o.2.2.length - 4 := by omega
                        have f2 : r4 (av 3) (1400 * k + (6 + 5 * i)) = cN (fnB o.2.2) i := by rw [hsA 3 (by decide)]; exact mo_r4 hat hk (by omega)
                        have f3 : bb_2 = cP (fnB o.2.2) i := by rw [hbb_2, hsA 3 (by decide), show 1400 * k + (6 + 5 * i) + 4 = 1400 * k + (6 + 5 * i + 4) by omega]; exact mo_ub hat hk (by omega)
                        have hna : -1 ≤ cNa (fnB o.2.2) i := by
                          by_cases e0 : i = 0
                          · rw [e0]; exact Int32.le_refl _
                          · obtain ⟨i2, e2⟩ : ∃ i2, i = i2 + 1 := ⟨i - 1, by omega⟩
                            rw [e2]; exact Int32.le_of_lt (neg1_lt.mpr (hA i2 (by omega)).2.2.2)
                        exact lp_mrc0 C rfl (hp0 (upd iv2_ 18 0) (ua (ua av 31 (upd (av 31) i (r4 (av 3) (1400 * k + (6 + 5 * i))))) 32 (upd (av 32) i (nI bb_2))) (((hsI.tr hs1 (by decide)).tr hs2 (by decide)).up (by decide) _) ((hsA.up (by decide) _).up (by decide) _) (fun y => by
                          obtain ⟨i2, e2⟩ : ∃ i2, i = i2 + 1 := ⟨i - 1, by omega⟩
                          have h9 := (y.2 i (by omega)).1
                          have e4 : cNa (fnB o.2.2) i = cN (fnB o.2.2) (i - 1) := by rw [e2]; rfl
                          rw [e4] at h9
                          exact hbe (by rw [f2]; exact (bel_iff (hA (i - 1) (by omega)).2.2.2 (by rw [← f2]; exact c_113)).mpr h9))) G (lv_sub hl [0, 1, 2] rfl)
                      · exact absurd c_148 (by decide)
          · subst r_94_e
            refine lv_l2i (v := (0 : Int64).toInt32) hx hb dX11_readCheckpoint_97 rfl ?_
            refine k_topi (y := nI 0) (by decide) ?_
            refine k_mis (x := nI 0) (i := i) C G 14 (k := 32) (n := 260) mp_32 (by decide) (by omega) dX11_readCheckpoint_98 (fun H locs (G : wd Z A s (mdW Z h ad iv2_ (ua (ua av 31 (upd (av 31) i (r4 (av 3) (1400 * k + (6 + 5 * i))))) 32 (upd (av 32) i (nI 0)))) H locs) => ?_)
            refine lv_aload_n hx hb dX11_readCheckpoint_99 rfl (lv_at hl 1 rfl) ?_
            refine lv_aload_n hx hb dX11_readCheckpoint_100 rfl (lv_at hl 1 rfl) ?_
            refine k_mgi (v := 0) C G 18 (by decide) mr_18 h18_2 fl_X11_175 rfl dX11_readCheckpoint_101 ?_
            refine lv_if_eq (tgt := 155) hx hb dX11_readCheckpoint_104 (by decide) (fun c_104 => ?_) (fun c_104 => ?_)
            · have n_104 := nb_eq (a := 0) (b := 0) c_104 (by omega) (by omega)
              refine lv_iconst (v := 0) hx hb dX11_readCheckpoint_155 (by decide) ?_
              refine k_mpi (v := 0) (ty := .boolean) C G 18 (by decide) mr_18 fl_X11_175 rfl rfl rfl rfl rfl dX11_readCheckpoint_156 (fun H locs (G : wd Z A s (mdW Z h ad (upd iv2_ 18 0) (ua (ua av 31 (upd (av 31) i (r4 (av 3) (1400 * k + (6 + 5 * i))))) 32 (upd (av 32) i (nI 0)))) H locs) => ?_)
              refine lv_iinc (v := nI (i + 1)) (lv' := [(2, .int (nI (i + 1))), (0, .ref h), (1, .int (nI k))]) hx hb dX11_readCheckpoint_159 hl (k := 0) rfl (nI_1 _) (by decide) rfl (fun ls hl => ?_)
              refine lv_goto (tgt := 60) hx hb dX11_readCheckpoint_162 (by decide) ?_
              exact lp_mrc0 C rfl (hp0 (upd iv2_ 18 0) (ua (ua av 31 (upd (av 31) i (r4 (av 3) (1400 * k + (6 + 5 * i))))) 32 (upd (av 32) i (nI 0))) (((hsI.tr hs1 (by decide)).tr hs2 (by decide)).up (by decide) _) ((hsA.up (by decide) _).up (by decide) _) (fun y => absurd ⟨rfl, by have := y.1; omega⟩ hno_2)) G (lv_sub hl [0, 1, 2] rfl)
            · exact absurd c_104 (by decide)
        · refine lv_l2i (v := r_82.toInt32) hx hb dX11_readCheckpoint_85 rfl ?_
          refine lv_topi (fun x4_1 ex4_1 => ?_)
          refine k_mis (x := x4_1) (i := i) C G 13 (k := 31) (n := 260) mp_31 (by decide) (by omega) dX11_readCheckpoint_86 (fun H locs (G : wd Z A s (mdW Z h ad iv1_ (ua av 31 (upd (av 31) i x4_1))) H locs) => ?_)
          refine lv_aload_n hx hb dX11_readCheckpoint_87 rfl (lv_at hl 1 rfl) ?_
          refine k_mga C G 32 (by decide) mr_32 fl_X11_62 rfl dX11_readCheckpoint_88 ?_
          refine lv_iload_n hx hb dX11_readCheckpoint_91 rfl (lv_at hl 0 rfl) ?_
          refine lv_aload_n hx hb dX11_readCheckpoint_92 rfl (lv_at hl 1 rfl) ?_
          refine lv_iconst (v := 1) hx hb dX11_readCheckpoint_93 (by decide) ?_
          refine kcM_l G (krV 1 rfl (As := [.int 1]) (rest := [.int (nI i), .ref (ad 32)]) (ci := 12) (CC := RX11) (T := TX11) (N := 61) C G pmN (c_mt1 Z l h ad iv1_ (ua av 31 (upd (av 31) i x4_1)) (1400 * k + (6 + 5 * i) + 4) (1400 * k + o.2.2.length - 4) 0 h16_1 h17_1 h18_1 (Or.inl rfl) (by omega) (by omega) _) (gdV ml_X11_213 im_X11_take se_X11_take ii_X11 co_X11_take) (by decide +kernel) ⟨Nat.le_of_ble_eq_true rfl, Nat.le_of_ble_eq_true rfl⟩ rfl 0 rfl hl rfl (Nat.le_of_ble_eq_true rfl) ⟨Nat.le_of_ble_eq_true rfl, Nat.le_of_ble_eq_true rfl⟩ dX11_readCheckpoint_94) (fun r_94_1 u H locs hu G => ?_)
          obtain ⟨iv3_, rfl, hs3, h16_3, hcs3⟩ := hu
          have h17_3 : iv3_ 17 = nI (1400 * k + o.2.2.length - 4) := (hs3 17 (by decide)).trans h17_1
          have q30_3 : iv3_ 30 = nI nA := (hs3 30 (by decide)).trans q30_1
          rcases hcs3 with ⟨hg_3, _, _, _⟩ | ⟨hno_3, h18_3, r_94_1_e⟩
          · exact absurd hg_3 (by decide)
          · subst r_94_1_e
            refine lv_l2i (v := (0 : Int64).toInt32) hx hb dX11_readCheckpoint_97 rfl ?_
            refine k_topi (y := nI 0) (by decide) ?_
            refine k_mis (x := nI 0) (i := i) C G 14 (k := 32) (n := 260) mp_32 (by decide) (by omega) dX11_readCheckpoint_98 (fun H locs (G : wd Z A s (mdW Z h ad iv3_ (ua (ua av 31 (upd (av 31) i x4_1)) 32 (upd (av 32) i (nI 0)))) H locs) => ?_)
            refine lv_aload_n hx hb dX11_readCheckpoint_99 rfl (lv_at hl 1 rfl) ?_
            refine lv_aload_n hx hb dX11_readCheckpoint_100 rfl (lv_at hl 1 rfl) ?_
            refine k_mgi (v := 0) C G 18 (by decide) mr_18 h18_3 fl_X11_175 rfl dX11_readCheckpoint_101 ?_
            refine lv_if_eq (tgt := 155) hx hb dX11_readCheckpoint_104 (by decide) (fun c_104 => ?_) (fun c_104 => ?_)
            · have n_104 := nb_eq (a := 0) (b := 0) c_104 (by omega) (by omega)
              refine lv_iconst (v := 0) hx hb dX11_readCheckpoint_155 (by decide) ?_
              refine k_mpi (v := 0) (ty := .boolean) C G 18 (by decide) mr_18 fl_X11_175 rfl rfl rfl rfl rfl dX11_readCheckpoint_156 (fun H locs (G : wd Z A s (mdW Z h ad (upd iv3_ 18 0) (ua (ua av 31 (upd (av 31) i x4_1)) 32 (upd (av 32) i (nI 0)))) H locs) => ?_)
              refine lv_iinc (v := nI (i + 1)) (lv' := [(2, .int (nI (i + 1))), (0, .ref h), (1, .int (nI k))]) hx hb dX11_readCheckpoint_159 hl (k := 0) rfl (nI_1 _) (by decide) rfl (fun ls hl => ?_)
              refine lv_goto (tgt := 60) hx hb dX11_readCheckpoint_162 (by decide) ?_
              exact lp_mrc0 C rfl (hp0 (upd iv3_ 18 0) (ua (ua av 31 (upd (av 31) i x4_1)) 32 (upd (av 32) i (nI 0))) (((hsI.tr hs1 (by decide)).tr hs3 (by decide)).up (by decide) _) ((hsA.up (by decide) _).up (by decide) _) (fun y => absurd ⟨rfl, by have := y.1; omega⟩ hno_1)) G (lv_sub hl [0, 1, 2] rfl)
            · exact absurd c_104 (by decide)
set_option maxRecDepth 100000 in
set_option maxHeartbeats 4000000 in
theorem c_X11_readCheckpoint (Z : zT) (l : Launch) (h : Nat) (ad : Nat → Nat) (iv : ivT) (av : avT) (ob : List obT) (k : Nat) (o : obT) (ho : mo_ok iv av ob) (hk : ob[k]? = some o) : Ki Z l yX11_readCheckpoint cX11_readCheckpoint 3 (some .boolean) ({ frames := 2, cells := 0, slots := 0, locals := 70 }) [.ref h, .int (nI k)] (mdW Z h ad iv av) (fun r u => ∃ (iv2 : ivT) (av2 : avT), u = mdW Z h ad iv2 av2 ∧ sI [16, 17, 18, 30] iv iv2 ∧ sA [31, 32] av av2 ∧ ((r = 1 ∧ ckS (fnB o.2.2) o.2.2.length o.2.1 ∧ iv2 30 = nI (ub (fnB o.2.2 5)) ∧ ∀ j, j < ub (fnB o.2.2 5) → av2 31 j = cN (fnB o.2.2) j ∧ av2 32 j = nI (cP (fnB o.2.2) j)) ∨ (r = 0 ∧ ¬ ckS (fnB o.2.2) o.2.2.length o.2.1))) := by
  intro sz
  refine Met.ofK (cc := cX11_readCheckpoint) (maxL := 3) (ret := (some .boolean)) (by decide) (Nat.le_of_ble_eq_true rfl) ?_
  intro p e s m below meth c ls C G hl
  generalize va_A _ sz = A at G ⊢
  have hx := C.1
  have hb := C.2.1
  have hown := C.2.2.2.2.2.1
  have hts := C.2.2.2.2.2.2.1
  have hob := ho.2.1
  have hkl := (List.getElem?_eq_some_iff.mp hk).1
  have hol := (ho.2.2.2.1 k o hk).2.2.2.1
  have hou := (ho.2.2.2.1 k o hk).2.2.2.2.1
  refine lv_aload_n hx hb dX11_readCheckpoint_0 rfl (lv_at hl 0 rfl) ?_
  refine lv_iload_n hx hb dX11_readCheckpoint_1 rfl (lv_at hl 1 rfl) ?_
  refine kcM_v G (krV 1 rfl (As := [.int (nI k)]) (rest := []) (ci := 12) (CC := RX11) (T := TX11) (N := 61) C G pmN (c_X11_opens Z l h ad iv av ob k o ho.2.2.2 hob hk _) (gdV ml_X11_217 im_X11_opens se_X11_opens ii_X11 co_X11_opens) (by decide +kernel) ⟨Nat.le_of_ble_eq_true rfl, Nat.le_of_ble_eq_true rfl⟩ rfl 0 rfl hl rfl (Nat.le_of_ble_eq_true rfl) ⟨Nat.le_of_ble_eq_true rfl, Nat.le_of_ble_eq_true rfl⟩ dX11_readCheckpoint_2) (fun u H locs hu G => ?_)
  obtain ⟨iv1_, rfl, hs1, h16_1, h17_1, hcs1⟩ := hu
  rcases hcs1 with ⟨hok, h18_1⟩ | ⟨hok, h18_1⟩
  · have hz1 := trivial
    refine lv_aload_n hx hb dX11_readCheckpoint_5 rfl (lv_at hl 0 rfl) ?_
    refine lv_aload_n hx hb dX11_readCheckpoint_6 rfl (lv_at hl 0 rfl) ?_
    refine k_mgi (v := 1) C G 18 (by decide) mr_18 h18_1 fl_X11_175 rfl dX11_readCheckpoint_7 ?_
    refine lv_if_eq (tgt := 44) hx hb dX11_readCheckpoint_10 (by decide) (fun c_10 => ?_) (fun c_10 => ?_)
    · exact absurd c_10 (by decide)
    · have n_10 := nb_ne (a := 1) (b := 0) c_10 (by omega) (by omega)
      refine lv_aload_n hx hb dX11_readCheckpoint_13 rfl (lv_at hl 0 rfl) ?_
      refine lv_iconst (v := 1) hx hb dX11_readCheckpoint_14 (by decide) ?_
      refine kcM_l G (krV 1 rfl (As := [.int 1]) (rest := [.ref h]) (ci := 12) (CC := RX11) (T := TX11) (N := 61) C G pmN (c_mt1 Z l h ad iv1_ av (1400 * k) (1400 * k + o.2.2.length - 4) 1 h16_1 h17_1 h18_1 (Or.inr rfl) (by omega) (by omega) _) (gdV ml_X11_213 im_X11_take se_X11_take ii_X11 co_X11_take) (by decide +kernel) ⟨Nat.le_of_ble_eq_true rfl, Nat.le_of_ble_eq_true rfl⟩ rfl 0 rfl hl rfl (Nat.le_of_ble_eq_true rfl) ⟨Nat.le_of_ble_eq_true rfl, Nat.le_of_ble_eq_true rfl⟩ dX11_readCheckpoint_15) (fun r_15 u H locs hu G => ?_)
      obtain ⟨iv2_, rfl, hs2, h16_2, hcs2⟩ := hu
      have h17_2 : iv2_ 17 = nI (1400 * k + o.2.2.length - 4) := (hs2 17 (by decide)).trans h17_1
      rcases hcs2 with ⟨hg_2, hle_2, h18_2, r_15_e⟩ | ⟨hno_2, h18_2, r_15_e⟩
      · obtain ⟨bb_2, hbb_2⟩ : ∃ b, b = ub ((av 3) (1400 * k)) := ⟨_, rfl⟩
        have hlbb_2 : bb_2 < 256 := by rw [hbb_2]; exact ub_lt _
        replace r_15_e : r_15 = (nI bb_2).toInt64 := by rw [hbb_2]; exact r_15_e
        subst r_15_e
        refine lv_ldc2 (v := 67) hx hb hown (hts _ kl_X11_243) dX11_readCheckpoint_18 ?_
        refine W.lcmp hx hb dX11_readCheckpoint_21 ?_
        refine lv_if_ne (tgt := 44) hx hb dX11_readCheckpoint_22 (by decide) (fun c_22 => ?_) (fun c_22 => ?_)
        · refine lv_iconst (v := 0) hx hb dX11_readCheckpoint_44 (by decide) ?_
          refine k_mpi (v := 0) (ty := .boolean) C G 18 (by decide) mr_18 fl_X11_175 rfl rfl rfl rfl rfl dX11_readCheckpoint_45 (fun H locs (G : wd Z A s (mdW Z h ad (upd iv2_ 18 0) av) H locs) => ?_)
          refine lv_aload_n hx hb dX11_readCheckpoint_48 rfl (lv_at hl 0 rfl) ?_
          refine lv_aload_n hx hb dX11_readCheckpoint_49 rfl (lv_at hl 0 rfl) ?_
          refine lv_iconst (v := 1) hx hb dX11_readCheckpoint_50 (by decide) ?_
          refine kcM_l G (krV 1 rfl (As := [.int 1]) (rest := [.ref h]) (ci := 12) (CC := RX11) (T := TX11) (N := 61) C G pmN (c_mt1 Z l h ad (upd iv2_ 18 0) av (1400 * k + 1) (1400 * k + o.2.2.length - 4) 0 h16_2 h17_2 rfl (Or.inl rfl) (by omega) (by omega) _) (gdV ml_X11_213 im_X11_take se_X11_take ii_X11 co_X11_take) (by decide +kernel) ⟨Nat.le_of_ble_eq_true rfl, Nat.le_of_ble_eq_true rfl⟩ rfl 0 rfl hl rfl (Nat.le_of_ble_eq_true rfl) ⟨Nat.le_of_ble_eq_true rfl, Nat.le_of_ble_eq_true rfl⟩ dX11_readCheckpoint_51) (fun r_51 u H locs hu G => ?_)
          obtain ⟨iv3_, rfl, hs3, h16_3, hcs3⟩ := hu
          have h17_3 : iv3_ 17 = nI (1400 * k + o.2.2.length - 4) := (hs3 17 (by decide)).trans h17_2
          rcases hcs3 with ⟨hg_3, _, _, _⟩ | ⟨hno_3, h18_3, r_51_e⟩
          · exact absurd hg_3 (by decide)
          · subst r_51_e
            refine lv_l2i (v := (0 : Int64).toInt32) hx hb dX11_readCheckpoint_54 rfl ?_
            refine k_topi (y := nI 0) (by decide) ?_
            refine k_mpi (v := nI 0) (ty := .int) C G 30 (by decide) mr_30 fl_X11_245 rfl rfl rfl rfl rfl dX11_readCheckpoint_55 (fun H locs (G : wd Z A s (mdW Z h ad (upd iv3_ 30 (nI 0)) av) H locs) => ?_)
            refine lv_iconst (v := 0) hx hb dX11_readCheckpoint_58 (by decide) ?_
            refine k_topi (y := nI 0) (by rfl) ?_
            refine lv_istore_n (lv' := [(2, .int (nI 0)), (0, .ref h), (1, .int (nI k))]) hx hb dX11_readCheckpoint_59 rfl hl (by decide) rfl (fun ls hl => ?_)
            exact lp_mrc0 (iv := (upd iv3_ 30 (nI 0))) (av := av) C h18_3 ⟨(upd iv3_ 30 (nI 0)), av, rfl, (((((sI.rf.tr hs1 (by decide)).tr hs2 (by decide)).up (by decide) _).tr hs3 (by decide)).up (by decide) _), sA.rf, Or.inr ⟨rfl, fun hen => by
              have hfr := (frm_ok hol).mp hen.1
              exact c_22 ((lcm_n hlbb_2 (by omega) _ l67).mpr (by have h9 := hfr.2.1; rw [hbb_2]; have h8 := mo_ub ho.2.2.2 hk (i := 0) (by omega); rw [Nat.add_zero] at h8; rw [h8]; exact (nI_eq (by have := ub_lt (fnB o.2.2 0); omega) (by omega)).mp h9))⟩⟩ G (lv_sub hl [0, 1, 2] rfl)
        · refine lv_aload_n hx hb dX11_readCheckpoint_25 rfl (lv_at hl 0 rfl) ?_
          refine lv_iconst (v := 4) hx hb dX11_readCheckpoint_26 (by decide) ?_
          refine kcM_l G (krV 1 rfl (As := [.int 4]) (rest := [.ref h]) (ci := 12) (CC := RX11) (T := TX11) (N := 61) C G pmN (c_mt4 Z l h ad iv2_ av (1400 * k + 1) (1400 * k + o.2.2.length - 4) 1 h16_2 h17_2 h18_2 (Or.inr rfl) (by omega) (by omega) _) (gdV ml_X11_213 im_X11_take se_X11_take ii_X11 co_X11_take) (by decide +kernel) ⟨Nat.le_of_ble_eq_true rfl, Nat.le_of_ble_eq_true rfl⟩ rfl 0 rfl hl rfl (Nat.le_of_ble_eq_true rfl) ⟨Nat.le_of_ble_eq_true rfl, Nat.le_of_ble_eq_true rfl⟩ dX11_readCheckpoint_27) (fun r_27 u H locs hu G => ?_)
          obtain ⟨iv4_, rfl, hs4, h16_4, hcs4⟩ := hu
          have h17_4 : iv4_ 17 = nI (1400 * k + o.2.2.length - 4) := (hs4 17 (by decide)).trans h17_2
          rcases hcs4 with ⟨hg_4, hle_4, h18_4, r_27_e⟩ | ⟨hno_4, h18_4⟩
          · refine lv_l2i (v := r_27.toInt32) hx hb dX11_readCheckpoint_30 rfl ?_
            refine k_topi (y := r4 (av 3) (1400 * k + 1)) r_27_e ?_
            refine lv_aload_n hx hb dX11_readCheckpoint_31 rfl (lv_at hl 0 rfl) ?_
            refine k_mga C G 1 (by decide) mr_1 fl_X11_13 rfl dX11_readCheckpoint_32 ?_
            refine lv_iload_n hx hb dX11_readCheckpoint_35 rfl (lv_at hl 1 rfl) ?_
            refine k_mil (v := o.2.1) (i := k) C G 1 (k := 1) (n := 100) mp_1 (by decide) (by omega) ((ho.2.2.2.1 k o hk).2.1) dX11_readCheckpoint_36 ?_
            refine lv_icmp_ne (tgt := 44) hx hb dX11_readCheckpoint_37 (by decide) (fun c_37 => ?_) (fun c_37 => ?_)
            · refine lv_iconst (v := 0) hx hb dX11_readCheckpoint_44 (by decide) ?_
              refine k_mpi (v := 0) (ty := .boolean) C G 18 (by decide) mr_18 fl_X11_175 rfl rfl rfl rfl rfl dX11_readCheckpoint_45 (fun H locs (G : wd Z A s (mdW Z h ad (upd iv4_ 18 0) av) H locs) => ?_)
              refine lv_aload_n hx hb dX11_readCheckpoint_48 rfl (lv_at hl 0 rfl) ?_
              refine lv_aload_n hx hb dX11_readCheckpoint_49 rfl (lv_at hl 0 rfl) ?_
              refine lv_iconst (v := 1) hx hb dX11_readCheckpoint_50 (by decide) ?_
              refine kcM_l G (krV 1 rfl (As := [.int 1]) (rest := [.ref h]) (ci := 12) (CC := RX11) (T := TX11) (N := 61) C G pmN (c_mt1 Z l h ad (upd iv4_ 18 0) av (1400 * k + 1 + 4) (1400 * k + o.2.2.length - 4) 0 h16_4 h17_4 rfl (Or.inl rfl) (by omega) (by omega) _) (gdV ml_X11_213 im_X11_take se_X11_take ii_X11 co_X11_take) (by decide +kernel) ⟨Nat.le_of_ble_eq_true rfl, Nat.le_of_ble_eq_true rfl⟩ rfl 0 rfl hl rfl (Nat.le_of_ble_eq_true rfl) ⟨Nat.le_of_ble_eq_true rfl, Nat.le_of_ble_eq_true rfl⟩ dX11_readCheckpoint_51) (fun r_51_1 u H locs hu G => ?_)
              obtain ⟨iv5_, rfl, hs5, h16_5, hcs5⟩ := hu
              have h17_5 : iv5_ 17 = nI (1400 * k + o.2.2.length - 4) := (hs5 17 (by decide)).trans h17_4
              rcases hcs5 with ⟨hg_5, _, _, _⟩ | ⟨hno_5, h18_5, r_51_1_e⟩
              · exact absurd hg_5 (by decide)
              · subst r_51_1_e
                refine lv_l2i (v := (0 : Int64).toInt32) hx hb dX11_readCheckpoint_54 rfl ?_
                refine k_topi (y := nI 0) (by decide) ?_
                refine k_mpi (v := nI 0) (ty := .int) C G 30 (by decide) mr_30 fl_X11_245 rfl rfl rfl rfl rfl dX11_readCheckpoint_55 (fun H locs (G : wd Z A s (mdW Z h ad (upd iv5_ 30 (nI 0)) av) H locs) => ?_)
                refine lv_iconst (v := 0) hx hb dX11_readCheckpoint_58 (by decide) ?_
                refine k_topi (y := nI 0) (by rfl) ?_
                refine lv_istore_n (lv' := [(2, .int (nI 0)), (0, .ref h), (1, .int (nI k))]) hx hb dX11_readCheckpoint_59 rfl hl (by decide) rfl (fun ls hl => ?_)
                exact lp_mrc0 (iv := (upd iv5_ 30 (nI 0))) (av := av) C h18_5 ⟨(upd iv5_ 30 (nI 0)), av, rfl, ((((((sI.rf.tr hs1 (by decide)).tr hs2 (by decide)).tr hs4 (by decide)).up (by decide) _).tr hs5 (by decide)).up (by decide) _), sA.rf, Or.inr ⟨rfl, fun hen => by
                  have hfr := (frm_ok hol).mp hen.1
                  exact c_37 (by rw [mo_r4 ho.2.2.2 hk (i := 1) (by omega)]; exact hfr.2.2.1)⟩⟩ G (lv_sub hl [0, 1, 2] rfl)
            · refine lv_iconst (v := 1) hx hb dX11_readCheckpoint_40 (by decide) ?_
              refine lv_goto (tgt := 45) hx hb dX11_readCheckpoint_41 (by decide) ?_
              refine k_mpi (v := 1) (ty := .boolean) C G 18 (by decide) mr_18 fl_X11_175 rfl rfl rfl rfl rfl dX11_readCheckpoint_45 (fun H locs (G : wd Z A s (mdW Z h ad (upd iv4_ 18 1) av) H locs) => ?_)
              refine lv_aload_n hx hb dX11_readCheckpoint_48 rfl (lv_at hl 0 rfl) ?_
              refine lv_aload_n hx hb dX11_readCheckpoint_49 rfl (lv_at hl 0 rfl) ?_
              refine lv_iconst (v := 1) hx hb dX11_readCheckpoint_50 (by decide) ?_
              refine kcM_l G (krV 1 rfl (As := [.int 1]) (rest := [.ref h]) (ci := 12) (CC := RX11) (T := TX11) (N := 61) C G pmN (c_mt1 Z l h ad (upd iv4_ 18 1) av (1400 * k + 1 + 4) (1400 * k + o.2.2.length - 4) 1 h16_4 h17_4 rfl (Or.inr rfl) (by omega) (by omega) _) (gdV ml_X11_213 im_X11_take se_X11_take ii_X11 co_X11_take) (by decide +kernel) ⟨Nat.le_of_ble_eq_true rfl, Nat.le_of_ble_eq_true rfl⟩ rfl 0 rfl hl rfl (Nat.le_of_ble_eq_true rfl) ⟨Nat.le_of_ble_eq_true rfl, Nat.le_of_ble_eq_true rfl⟩ dX11_readCheckpoint_51) (fun r_51_2 u H locs hu G => ?_)
              obtain ⟨iv6_, rfl, hs6, h16_6, hcs6⟩ := hu
              have h17_6 : iv6_ 17 = nI (1400 * k + o.2.2.length - 4) := (hs6 17 (by decide)).trans h17_4
              rcases hcs6 with ⟨hg_6, hle_6, h18_6, r_51_2_e⟩ | ⟨hno_6, h18_6, r_51_2_e⟩
              · obtain ⟨bb_6, hbb_6⟩ : ∃ b, b = ub ((av 3) (1400 * k + 1 + 4)) := ⟨_, rfl⟩
                have hlbb_6 : bb_6 < 256 := by rw [hbb_6]; exact ub_lt _
                replace r_51_2_e : r_51_2 = (nI bb_6).toInt64 := by rw [hbb_6]; exact r_51_2_e
                subst r_51_2_e
                refine lv_l2i (v := ((nI bb_6).toInt64).toInt32) hx hb dX11_readCheckpoint_54 rfl ?_
                refine k_topi (y := nI bb_6) (l2i_i2l _) ?_
                refine k_mpi (v := nI bb_6) (ty := .int) C G 30 (by decide) mr_30 fl_X11_245 rfl rfl rfl rfl rfl dX11_readCheckpoint_55 (fun H locs (G : wd Z A s (mdW Z h ad (upd iv6_ 30 (nI bb_6)) av) H locs) => ?_)
                refine lv_iconst (v := 0) hx hb dX11_readCheckpoint_58 (by decide) ?_
                refine k_topi (y := nI 0) (by rfl) ?_
                refine lv_istore_n (lv' := [(2, .int (nI 0)), (0, .ref h), (1, .int (nI k))]) hx hb dX11_readCheckpoint_59 rfl hl (by decide) rfl (fun ls hl => ?_)
                have hA5 : bb_6 = ub (fnB o.2.2 5) := by rw [hbb_6, show 1400 * k + 1 + 4 = 1400 * k + 5 by omega]; exact mo_ub ho.2.2.2 hk (by omega)
                have hfrm : o.2.2.length = 10 + 5 * bb_6 → frm (fnB o.2.2) o.2.2.length 5 67 o.2.1 := fun hL => (frm_ok hol).mpr ⟨hok, by have h8 := mo_ub ho.2.2.2 hk (i := 0) (by omega); rw [Nat.add_zero] at h8; rw [← h8, ← hbb_2, (lcm_n hlbb_2 (by omega) _ l67).mp c_22]; rfl, by rw [← mo_r4 ho.2.2.2 hk (i := 1) (by omega)]; exact c_37, by rw [← hA5, hL]; omega⟩
                exact lp_mrc (iv0 := (upd iv6_ 30 (nI bb_6))) (av0 := av) C ho.2.2.2 hob hk hlbb_6 h17_6 rfl (fun iv2 av2 a1 a2 a3 => ⟨iv2, av2, rfl, (((((((sI.rf.tr hs1 (by decide)).tr hs2 (by decide)).tr hs4 (by decide)).up (by decide) _).tr hs6 (by decide)).up (by decide) _)).tr a1 (by decide), a2, Or.inr ⟨rfl, fun hen => by
                  exact a3 ⟨by have h9 := ((frm_ok hol).mp hen.1).2.2.2; rw [← hA5] at h9; omega, fun j hj => hen.2 j (by rw [← hA5]; exact hj)⟩⟩⟩) (fun iv2 av2 a1 a2 a3 a4 => ⟨iv2, av2, rfl, (((((((sI.rf.tr hs1 (by decide)).tr hs2 (by decide)).tr hs4 (by decide)).up (by decide) _).tr hs6 (by decide)).up (by decide) _)).tr a1 (by decide), a2, Or.inl ⟨rfl, ⟨hfrm a3.1, fun j hj => a3.2 j (by rw [hA5]; exact hj)⟩, by rw [a1 30 (by decide), ← hA5]; rfl, fun j hj => a4 j (by rw [hA5]; exact hj)⟩⟩) bb_6 0 (upd iv6_ 30 (nI bb_6)) av (by omega) (h16_6.trans (congrArg nI (by omega))) h18_6 sI.rf sA.rf (fun j hj => absurd hj (by omega)) _ _ _ G (lv_sub hl [0, 1, 2] rfl)
              · subst r_51_2_e
                refine lv_l2i (v := (0 : Int64).toInt32) hx hb dX11_readCheckpoint_54 rfl ?_
                refine k_topi (y := nI 0) (by decide) ?_
                refine k_mpi (v := nI 0) (ty := .int) C G 30 (by decide) mr_30 fl_X11_245 rfl rfl rfl rfl rfl dX11_readCheckpoint_55 (fun H locs (G : wd Z A s (mdW Z h ad (upd iv6_ 30 (nI 0)) av) H locs) => ?_)
                refine lv_iconst (v := 0) hx hb dX11_readCheckpoint_58 (by decide) ?_
                refine k_topi (y := nI 0) (by rfl) ?_
                refine lv_istore_n (lv' := [(2, .int (nI 0)), (0, .ref h), (1, .int (nI k))]) hx hb dX11_readCheckpoint_59 rfl hl (by decide) rfl (fun ls hl => ?_)
                exact lp_mrc0 (iv := (upd iv6_ 30 (nI 0))) (av := av) C h18_6 ⟨(upd iv6_ 30 (nI 0)), av, rfl, ((((((sI.rf.tr hs1 (by decide)).tr hs2 (by decide)).tr hs4 (by decide)).up (by decide) _).tr hs6 (by decide)).up (by decide) _), sA.rf, Or.inr ⟨rfl, fun hen => by
                  have hfr := (frm_ok hol).mp hen.1
                  exact absurd ⟨rfl, by have := hfr.2.2.2; omega⟩ hno_6⟩⟩ G (lv_sub hl [0, 1, 2] rfl)
          · refine lv_l2i (v := r_27.toInt32) hx hb dX11_readCheckpoint_30 rfl ?_
            refine lv_topi (fun x4_4 ex4_4 => ?_)
            refine lv_aload_n hx hb dX11_readCheckpoint_31 rfl (lv_at hl 0 rfl) ?_
            refine k_mga C G 1 (by decide) mr_1 fl_X11_13 rfl dX11_readCheckpoint_32 ?_
            refine lv_iload_n hx hb dX11_readCheckpoint_35 rfl (lv_at hl 1 rfl) ?_
            refine k_mil (v := o.2.1) (i := k) C G 1 (k := 1) (n := 100) mp_1 (by decide) (by omega) ((ho.2.2.2.1 k o hk).2.1) dX11_readCheckpoint_36 ?_
            refine lv_icmp_ne (tgt := 44) hx hb dX11_readCheckpoint_37 (by decide) (fun c_37 => ?_) (fun c_37 => ?_)
            · refine lv_iconst (v := 0) hx hb dX11_readCheckpoint_44 (by decide) ?_
              refine k_mpi (v := 0) (ty := .boolean) C G 18 (by decide) mr_18 fl_X11_175 rfl rfl rfl rfl rfl dX11_readCheckpoint_45 (fun H locs (G : wd Z A s (mdW Z h ad (upd iv4_ 18 0) av) H locs) => ?_)
              refine lv_aload_n hx hb dX11_readCheckpoint_48 rfl (lv_at hl 0 rfl) ?_
              refine lv_aload_n hx hb dX11_readCheckpoint_49 rfl (lv_at hl 0 rfl) ?_
              refine lv_iconst (v := 1) hx hb dX11_readCheckpoint_50 (by decide) ?_
              refine kcM_l G (krV 1 rfl (As := [.int 1]) (rest := [.ref h]) (ci := 12) (CC := RX11) (T := TX11) (N := 61) C G pmN (c_mt1 Z l h ad (upd iv4_ 18 0) av (1400 * k + 1 + 4) (1400 * k + o.2.2.length - 4) 0 h16_4 h17_4 rfl (Or.inl rfl) (by omega) (by omega) _) (gdV ml_X11_213 im_X11_take se_X11_take ii_X11 co_X11_take) (by decide +kernel) ⟨Nat.le_of_ble_eq_true rfl, Nat.le_of_ble_eq_true rfl⟩ rfl 0 rfl hl rfl (Nat.le_of_ble_eq_true rfl) ⟨Nat.le_of_ble_eq_true rfl, Nat.le_of_ble_eq_true rfl⟩ dX11_readCheckpoint_51) (fun r_51_3 u H locs hu G => ?_)
              obtain ⟨iv7_, rfl, hs7, h16_7, hcs7⟩ := hu
              have h17_7 : iv7_ 17 = nI (1400 * k + o.2.2.length - 4) := (hs7 17 (by decide)).trans h17_4
              rcases hcs7 with ⟨hg_7, _, _, _⟩ | ⟨hno_7, h18_7, r_51_3_e⟩
              · exact absurd hg_7 (by decide)
              · subst r_51_3_e
                refine lv_l2i (v := (0 : Int64).toInt32) hx hb dX11_readCheckpoint_54 rfl ?_
                refine k_topi (y := nI 0) (by decide) ?_
                refine k_mpi (v := nI 0) (ty := .int) C G 30 (by decide) mr_30 fl_X11_245 rfl rfl rfl rfl rfl dX11_readCheckpoint_55 (fun H locs (G : wd Z A s (mdW Z h ad (upd iv7_ 30 (nI 0)) av) H locs) => ?_)
                refine lv_iconst (v := 0) hx hb dX11_readCheckpoint_58 (by decide) ?_
                refine k_topi (y := nI 0) (by rfl) ?_
                refine lv_istore_n (lv' := [(2, .int (nI 0)), (0, .ref h), (1, .int (nI k))]) hx hb dX11_readCheckpoint_59 rfl hl (by decide) rfl (fun ls hl => ?_)
                exact absurd ⟨rfl, by omega⟩ hno_4
            · refine lv_iconst (v := 1) hx hb dX11_readCheckpoint_40 (by decide) ?_
              refine lv_goto (tgt := 45) hx hb dX11_readCheckpoint_41 (by decide) ?_
              refine k_mpi (v := 1) (ty := .boolean) C G 18 (by decide) mr_18 fl_X11_175 rfl rfl rfl rfl rfl dX11_readCheckpoint_45 (fun H locs (G : wd Z A s (mdW Z h ad (upd iv4_ 18 1) av) H locs) => ?_)
              refine lv_aload_n hx hb dX11_readCheckpoint_48 rfl (lv_at hl 0 rfl) ?_
              refine lv_aload_n hx hb dX11_readCheckpoint_49 rfl (lv_at hl 0 rfl) ?_
              refine lv_iconst (v := 1) hx hb dX11_readCheckpoint_50 (by decide) ?_
              refine kcM_l G (krV 1 rfl (As := [.int 1]) (rest := [.ref h]) (ci := 12) (CC := RX11) (T := TX11) (N := 61) C G pmN (c_mt1 Z l h ad (upd iv4_ 18 1) av (1400 * k + 1 + 4) (1400 * k + o.2.2.length - 4) 1 h16_4 h17_4 rfl (Or.inr rfl) (by omega) (by omega) _) (gdV ml_X11_213 im_X11_take se_X11_take ii_X11 co_X11_take) (by decide +kernel) ⟨Nat.le_of_ble_eq_true rfl, Nat.le_of_ble_eq_true rfl⟩ rfl 0 rfl hl rfl (Nat.le_of_ble_eq_true rfl) ⟨Nat.le_of_ble_eq_true rfl, Nat.le_of_ble_eq_true rfl⟩ dX11_readCheckpoint_51) (fun r_51_4 u H locs hu G => ?_)
              obtain ⟨iv8_, rfl, hs8, h16_8, hcs8⟩ := hu
              have h17_8 : iv8_ 17 = nI (1400 * k + o.2.2.length - 4) := (hs8 17 (by decide)).trans h17_4
              rcases hcs8 with ⟨hg_8, hle_8, h18_8, r_51_4_e⟩ | ⟨hno_8, h18_8, r_51_4_e⟩
              · obtain ⟨bb_8, hbb_8⟩ : ∃ b, b = ub ((av 3) (1400 * k + 1 + 4)) := ⟨_, rfl⟩
                have hlbb_8 : bb_8 < 256 := by rw [hbb_8]; exact ub_lt _
                replace r_51_4_e : r_51_4 = (nI bb_8).toInt64 := by rw [hbb_8]; exact r_51_4_e
                subst r_51_4_e
                refine lv_l2i (v := ((nI bb_8).toInt64).toInt32) hx hb dX11_readCheckpoint_54 rfl ?_
                refine k_topi (y := nI bb_8) (l2i_i2l _) ?_
                refine k_mpi (v := nI bb_8) (ty := .int) C G 30 (by decide) mr_30 fl_X11_245 rfl rfl rfl rfl rfl dX11_readCheckpoint_55 (fun H locs (G : wd Z A s (mdW Z h ad (upd iv8_ 30 (nI bb_8)) av) H locs) => ?_)
                refine lv_iconst (v := 0) hx hb dX11_readCheckpoint_58 (by decide) ?_
                refine k_topi (y := nI 0) (by rfl) ?_
                refine lv_istore_n (lv' := [(2, .int (nI 0)), (0, .ref h), (1, .int (nI k))]) hx hb dX11_readCheckpoint_59 rfl hl (by decide) rfl (fun ls hl => ?_)
                exact absurd ⟨rfl, by omega⟩ hno_4
              · subst r_51_4_e
                refine lv_l2i (v := (0 : Int64).toInt32) hx hb dX11_readCheckpoint_54 rfl ?_
                refine k_topi (y := nI 0) (by decide) ?_
                refine k_mpi (v := nI 0) (ty := .int) C G 30 (by decide) mr_30 fl_X11_245 rfl rfl rfl rfl rfl dX11_readCheckpoint_55 (fun H locs (G : wd Z A s (mdW Z h ad (upd iv8_ 30 (nI 0)) av) H locs) => ?_)
                refine lv_iconst (v := 0) hx hb dX11_readCheckpoint_58 (by decide) ?_
                refine k_topi (y := nI 0) (by rfl) ?_
                refine lv_istore_n (lv' := [(2, .int (nI 0)), (0, .ref h), (1, .int (nI k))]) hx hb dX11_readCheckpoint_59 rfl hl (by decide) rfl (fun ls hl => ?_)
                exact absurd ⟨rfl, by omega⟩ hno_4
      · subst r_15_e
        refine lv_ldc2 (v := 67) hx hb hown (hts _ kl_X11_243) dX11_readCheckpoint_18 ?_
        refine W.lcmp hx hb dX11_readCheckpoint_21 ?_
        refine lv_if_ne (tgt := 44) hx hb dX11_readCheckpoint_22 (by decide) (fun c_22 => ?_) (fun c_22 => ?_)
        · refine lv_iconst (v := 0) hx hb dX11_readCheckpoint_44 (by decide) ?_
          refine k_mpi (v := 0) (ty := .boolean) C G 18 (by decide) mr_18 fl_X11_175 rfl rfl rfl rfl rfl dX11_readCheckpoint_45 (fun H locs (G : wd Z A s (mdW Z h ad (upd iv2_ 18 0) av) H locs) => ?_)
          refine lv_aload_n hx hb dX11_readCheckpoint_48 rfl (lv_at hl 0 rfl) ?_
          refine lv_aload_n hx hb dX11_readCheckpoint_49 rfl (lv_at hl 0 rfl) ?_
          refine lv_iconst (v := 1) hx hb dX11_readCheckpoint_50 (by decide) ?_
          refine kcM_l G (krV 1 rfl (As := [.int 1]) (rest := [.ref h]) (ci := 12) (CC := RX11) (T := TX11) (N := 61) C G pmN (c_mt1 Z l h ad (upd iv2_ 18 0) av (1400 * k + 1) (1400 * k + o.2.2.length - 4) 0 h16_2 h17_2 rfl (Or.inl rfl) (by omega) (by omega) _) (gdV ml_X11_213 im_X11_take se_X11_take ii_X11 co_X11_take) (by decide +kernel) ⟨Nat.le_of_ble_eq_true rfl, Nat.le_of_ble_eq_true rfl⟩ rfl 0 rfl hl rfl (Nat.le_of_ble_eq_true rfl) ⟨Nat.le_of_ble_eq_true rfl, Nat.le_of_ble_eq_true rfl⟩ dX11_readCheckpoint_51) (fun r_51_5 u H locs hu G => ?_)
          obtain ⟨iv9_, rfl, hs9, h16_9, hcs9⟩ := hu
          have h17_9 : iv9_ 17 = nI (1400 * k + o.2.2.length - 4) := (hs9 17 (by decide)).trans h17_2
          rcases hcs9 with ⟨hg_9, _, _, _⟩ | ⟨hno_9, h18_9, r_51_5_e⟩
          · exact absurd hg_9 (by decide)
          · subst r_51_5_e
            refine lv_l2i (v := (0 : Int64).toInt32) hx hb dX11_readCheckpoint_54 rfl ?_
            refine k_topi (y := nI 0) (by decide) ?_
            refine k_mpi (v := nI 0) (ty := .int) C G 30 (by decide) mr_30 fl_X11_245 rfl rfl rfl rfl rfl dX11_readCheckpoint_55 (fun H locs (G : wd Z A s (mdW Z h ad (upd iv9_ 30 (nI 0)) av) H locs) => ?_)
            refine lv_iconst (v := 0) hx hb dX11_readCheckpoint_58 (by decide) ?_
            refine k_topi (y := nI 0) (by rfl) ?_
            refine lv_istore_n (lv' := [(2, .int (nI 0)), (0, .ref h), (1, .int (nI k))]) hx hb dX11_readCheckpoint_59 rfl hl (by decide) rfl (fun ls hl => ?_)
            exact lp_mrc0 (iv := (upd iv9_ 30 (nI 0))) (av := av) C h18_9 ⟨(upd iv9_ 30 (nI 0)), av, rfl, (((((sI.rf.tr hs1 (by decide)).tr hs2 (by decide)).up (by decide) _).tr hs9 (by decide)).up (by decide) _), sA.rf, Or.inr ⟨rfl, fun hen => by
              have hfr := (frm_ok hol).mp hen.1
              exact absurd ⟨rfl, by have := hfr.2.2.2; omega⟩ hno_2⟩⟩ G (lv_sub hl [0, 1, 2] rfl)
        · exact absurd c_22 lz67
  · have hz1 := trivial
    refine lv_aload_n hx hb dX11_readCheckpoint_5 rfl (lv_at hl 0 rfl) ?_
    refine lv_aload_n hx hb dX11_readCheckpoint_6 rfl (lv_at hl 0 rfl) ?_
    refine k_mgi (v := 0) C G 18 (by decide) mr_18 h18_1 fl_X11_175 rfl dX11_readCheckpoint_7 ?_
    refine lv_if_eq (tgt := 44) hx hb dX11_readCheckpoint_10 (by decide) (fun c_10 => ?_) (fun c_10 => ?_)
    · have n_10 := nb_eq (a := 0) (b := 0) c_10 (by omega) (by omega)
      refine lv_iconst (v := 0) hx hb dX11_readCheckpoint_44 (by decide) ?_
      refine k_mpi (v := 0) (ty := .boolean) C G 18 (by decide) mr_18 fl_X11_175 rfl rfl rfl rfl rfl dX11_readCheckpoint_45 (fun H locs (G : wd Z A s (mdW Z h ad (upd iv1_ 18 0) av) H locs) => ?_)
      refine lv_aload_n hx hb dX11_readCheckpoint_48 rfl (lv_at hl 0 rfl) ?_
      refine lv_aload_n hx hb dX11_readCheckpoint_49 rfl (lv_at hl 0 rfl) ?_
      refine lv_iconst (v := 1) hx hb dX11_readCheckpoint_50 (by decide) ?_
      refine kcM_l G (krV 1 rfl (As := [.int 1]) (rest := [.ref h]) (ci := 12) (CC := RX11) (T := TX11) (N := 61) C G pmN (c_mt1 Z l h ad (upd iv1_ 18 0) av (1400 * k) (1400 * k + o.2.2.length - 4) 0 h16_1 h17_1 rfl (Or.inl rfl) (by omega) (by omega) _) (gdV ml_X11_213 im_X11_take se_X11_take ii_X11 co_X11_take) (by decide +kernel) ⟨Nat.le_of_ble_eq_true rfl, Nat.le_of_ble_eq_true rfl⟩ rfl 0 rfl hl rfl (Nat.le_of_ble_eq_true rfl) ⟨Nat.le_of_ble_eq_true rfl, Nat.le_of_ble_eq_true rfl⟩ dX11_readCheckpoint_51) (fun r_51_6 u H locs hu G => ?_)
      obtain ⟨iv10_, rfl, hs10, h16_10, hcs10⟩ := hu
      have h17_10 : iv10_ 17 = nI (1400 * k + o.2.2.length - 4) := (hs10 17 (by decide)).trans h17_1
      rcases hcs10 with ⟨hg_10, _, _, _⟩ | ⟨hno_10, h18_10, r_51_6_e⟩
      · exact absurd hg_10 (by decide)
      · subst r_51_6_e
        refine lv_l2i (v := (0 : Int64).toInt32) hx hb dX11_readCheckpoint_54 rfl ?_
        refine k_topi (y := nI 0) (by decide) ?_
        refine k_mpi (v := nI 0) (ty := .int) C G 30 (by decide) mr_30 fl_X11_245 rfl rfl rfl rfl rfl dX11_readCheckpoint_55 (fun H locs (G : wd Z A s (mdW Z h ad (upd iv10_ 30 (nI 0)) av) H locs) => ?_)
        refine lv_iconst (v := 0) hx hb dX11_readCheckpoint_58 (by decide) ?_
        refine k_topi (y := nI 0) (by rfl) ?_
        refine lv_istore_n (lv' := [(2, .int (nI 0)), (0, .ref h), (1, .int (nI k))]) hx hb dX11_readCheckpoint_59 rfl hl (by decide) rfl (fun ls hl => ?_)
        exact lp_mrc0 (iv := (upd iv10_ 30 (nI 0))) (av := av) C h18_10 ⟨(upd iv10_ 30 (nI 0)), av, rfl, ((((sI.rf.tr hs1 (by decide)).up (by decide) _).tr hs10 (by decide)).up (by decide) _), sA.rf, Or.inr ⟨rfl, fun hen => by
          have hfr := (frm_ok hol).mp hen.1
          exact hok hfr.1⟩⟩ G (lv_sub hl [0, 1, 2] rfl)
    · exact absurd c_10 (by decide)
