/-! MODEL (X11): vacuum, loops. -/
set_option maxRecDepth 100000 in
set_option maxHeartbeats 4000000 in
theorem lp_mvr1 {p : Program} {l : Launch} {e : Env} {s : State} {m : MethodId} {args : Array Value} {below : List Frame} {meth : Method} {c : Code} {Z : zT} {A : Nat → Prop} {Q : State → Prop} {h : Nat} {ad : Nat → Nat} {iv0 : ivT} {av0 : avT} {ob : List obT} {vc : Int32} {x lat v v0 : Int32} (C : cx p s m args meth c cX11_vacuum 8 (some .int) RX11 "vacuum")  (hob : ob.length ≤ 100) (kk : ∀ (oc : List obT) (cc : Nat) (iv : ivT) (av : avT), rmI (kp1 av0 v) ob 0 oc → mo_ok iv av oc → sI [4, 5, 12] iv0 iv → sA [0, 1, 2, 3] av0 av → iv 12 = vc + nI cc → cc + oc.length = ob.length →  ∀ (H : Heap) (locs : List Loc) (ls : Array Slot), wd Z A s (mdW Z h ad iv av) H locs → lv_has ls 8 [(0, .ref h), (1, .int x), (2, .int lat), (3, .int v), (5, .int v0)] → W p l e ({ frames := 7, cells := 0, slots := 0, locals := 200 }) s m args below meth c H locs 0 0 Q (F0 m 209 ls [])) : ∀ (i : Nat) (oc : List obT) (cc : Nat) (iv : ivT) (av : avT), i ≤ ob.length → rmI (kp1 av0 v) ob i oc → mo_ok iv av oc → sI [4, 5, 12] iv0 iv → sA [0, 1, 2, 3] av0 av → iv 12 = vc + nI cc → cc + oc.length = ob.length →  ∀ (H : Heap) (locs : List Loc) (ls : Array Slot), wd Z A s (mdW Z h ad iv av) H locs → lv_has ls 8 [(6, .int (dn i)), (0, .ref h), (1, .int x), (2, .int lat), (3, .int v), (5, .int v0)] → W p l e ({ frames := 7, cells := 0, slots := 0, locals := 200 }) s m args below meth c H locs 0 0 Q (F0 m 134 ls []) := by
  have hx := C.1
  have hb := C.2.1
  have hown := C.2.2.2.2.2.1
  have hts := C.2.2.2.2.2.2.1
  intro i
  induction i with
  | zero =>
    intro oc cc iv av hi hrm hok hsI hsA h12 hcc H locs ls G hl
    rw [dn_0] at hl
    refine lv_iload hx hb dX11_vacuum_134 (lv_at hl 0 rfl) ?_
    refine lv_if_lt (tgt := 209) hx hb dX11_vacuum_136 (by decide) (fun c_136 => ?_) (fun c_136 => ?_)
    · exact kk oc cc iv av hrm hok hsI hsA h12 hcc _ _ _ G (lv_sub hl [1, 2, 3, 4, 5] rfl)
    · exact absurd c_136 (by decide)
  | succ i ih =>
    intro oc cc iv av hi hrm hok hsI hsA h12 hcc H locs ls G hl
    rw [dn_s] at hl
    obtain ⟨o, ho⟩ : ∃ o, ob[i]? = some o := ⟨_, List.getElem?_eq_getElem (by omega)⟩
    have hoc : oc[i]? = some o := (rmI_get hrm (by omega)).trans ho
    obtain ⟨q0, q1, _⟩ := hok.2.2.2.1 i o hoc
    have hil := (List.getElem?_eq_some_iff.mp hoc).1
    refine lv_iload hx hb dX11_vacuum_134 (lv_at hl 0 rfl) ?_
    refine lv_if_lt (tgt := 209) hx hb dX11_vacuum_136 (by decide) (fun c_136 => ?_) (fun c_136 => ?_)
    · exact absurd c_136 (Int32.not_lt.mpr (nI_pos' (by omega)))
    · have n_136 := nb_nlt (a := i) (b := 0) c_136 (by omega) (by omega)
      refine lv_aload_n hx hb dX11_vacuum_139 rfl (lv_at hl 1 rfl) ?_
      refine k_mga C G 0 (by decide) mr_0 fl_X11_7 rfl dX11_vacuum_140 ?_
      refine lv_iload hx hb dX11_vacuum_143 (lv_at hl 0 rfl) ?_
      refine k_mil (v := o.1) (i := i) C G 0 (k := 0) (n := 100) mp_0 (by decide) (by omega) q0 dX11_vacuum_145 ?_
      refine lv_iconst (v := 2) hx hb dX11_vacuum_146 (by decide) ?_
      refine lv_icmp_ne (tgt := 161) hx hb dX11_vacuum_147 (by decide) (fun c_147 => ?_) (fun c_147 => ?_)
      · refine lv_aload_n hx hb dX11_vacuum_161 rfl (lv_at hl 1 rfl) ?_
        refine k_mga C G 0 (by decide) mr_0 fl_X11_7 rfl dX11_vacuum_162 ?_
        refine lv_iload hx hb dX11_vacuum_165 (lv_at hl 0 rfl) ?_
        refine k_mil (v := o.1) (i := i) C G 0 (k := 0) (n := 100) mp_0 (by decide) (by omega) q0 dX11_vacuum_167 ?_
        refine lv_iconst (v := 1) hx hb dX11_vacuum_168 (by decide) ?_
        refine lv_icmp_ne (tgt := 203) hx hb dX11_vacuum_169 (by decide) (fun c_169 => ?_) (fun c_169 => ?_)
        · refine lv_iinc (v := dn i) (lv' := [(6, .int (dn i)), (0, .ref h), (1, .int x), (2, .int lat), (3, .int v), (5, .int v0)]) hx hb dX11_vacuum_203 hl (k := 0) rfl rfl (by decide) rfl (fun ls hl => ?_)
          refine lv_goto (tgt := 134) hx hb dX11_vacuum_206 (by decide) ?_
          have hkp := kp1_y (av := av0) (v := v) (o := o) (fun z => z.elim (fun z => c_147 z.1) (fun z => c_169 z.1))
          exact ih oc cc iv av (by omega) (rmI_k hrm ho hkp) hok hsI hsA h12 hcc _ _ _ G (lv_sub hl [0, 1, 2, 3, 4, 5] rfl)
        · refine lv_aload_n hx hb dX11_vacuum_172 rfl (lv_at hl 1 rfl) ?_
          refine k_mga C G 1 (by decide) mr_1 fl_X11_13 rfl dX11_vacuum_173 ?_
          refine lv_iload hx hb dX11_vacuum_176 (lv_at hl 0 rfl) ?_
          refine k_mil (v := o.2.1) (i := i) C G 1 (k := 1) (n := 100) mp_1 (by decide) (by omega) q1 dX11_vacuum_178 ?_
          refine lv_iload_n hx hb dX11_vacuum_179 rfl (lv_at hl 4 rfl) ?_
          refine lv_icmp_ge (tgt := 203) hx hb dX11_vacuum_180 (by decide) (fun c_180 => ?_) (fun c_180 => ?_)
          · refine lv_iinc (v := dn i) (lv' := [(6, .int (dn i)), (0, .ref h), (1, .int x), (2, .int lat), (3, .int v), (5, .int v0)]) hx hb dX11_vacuum_203 hl (k := 0) rfl rfl (by decide) rfl (fun ls hl => ?_)
            refine lv_goto (tgt := 134) hx hb dX11_vacuum_206 (by decide) ?_
            have hkp := kp1_y (av := av0) (v := v) (o := o) (fun z => z.elim (fun z => c_147 z.1) (fun z => absurd z.2.1 (Int32.not_lt.mpr c_180)))
            exact ih oc cc iv av (by omega) (rmI_k hrm ho hkp) hok hsI hsA h12 hcc _ _ _ G (lv_sub hl [0, 1, 2, 3, 4, 5] rfl)
          · refine lv_aload_n hx hb dX11_vacuum_183 rfl (lv_at hl 1 rfl) ?_
            refine lv_aload_n hx hb dX11_vacuum_184 rfl (lv_at hl 1 rfl) ?_
            refine k_mga C G 1 (by decide) mr_1 fl_X11_13 rfl dX11_vacuum_185 ?_
            refine lv_iload hx hb dX11_vacuum_188 (lv_at hl 0 rfl) ?_
            refine k_mil (v := o.2.1) (i := i) C G 1 (k := 1) (n := 100) mp_1 (by decide) (by omega) q1 dX11_vacuum_190 ?_
            refine kcM_i G (krV 1 rfl (As := [.int o.2.1]) (rest := []) (ci := 12) (CC := RX11) (T := TX11) (N := 61) C G pmN (c_X11_isWanted Z l h ad iv av o.2.1 _) (gdV ml_X11_336 im_X11_isWanted se_X11_isWanted ii_X11 co_X11_isWanted) (by decide +kernel) ⟨Nat.le_of_ble_eq_true rfl, Nat.le_of_ble_eq_true rfl⟩ rfl 0 rfl hl rfl (Nat.le_of_ble_eq_true rfl) ⟨Nat.le_of_ble_eq_true rfl, Nat.le_of_ble_eq_true rfl⟩ dX11_vacuum_191) (fun r_191 u H locs hu G => ?_)
            rcases hu with ⟨hw, r_191_e, rfl⟩ | ⟨hw, r_191_e, rfl⟩
            · subst r_191_e
              refine lv_if_ne (tgt := 203) hx hb dX11_vacuum_194 (by decide) (fun c_194 => ?_) (fun c_194 => ?_)
              · have n_194 := nb_ne (a := 1) (b := 0) c_194 (by omega) (by omega)
                refine lv_iinc (v := dn i) (lv' := [(6, .int (dn i)), (0, .ref h), (1, .int x), (2, .int lat), (3, .int v), (5, .int v0)]) hx hb dX11_vacuum_203 hl (k := 0) rfl rfl (by decide) rfl (fun ls hl => ?_)
                refine lv_goto (tgt := 134) hx hb dX11_vacuum_206 (by decide) ?_
                have hkp := kp1_y (av := av0) (v := v) (o := o) (fun z => z.elim (fun z => c_147 z.1) (fun z => z.2.2 ((wtd_same (hsA 33 (by decide)) (hsA 34 (by decide)) (hsA 36 (by decide))).mp hw)))
                exact ih oc cc iv av (by omega) (rmI_k hrm ho hkp) hok hsI hsA h12 hcc _ _ _ G (lv_sub hl [0, 1, 2, 3, 4, 5] rfl)
              · exact absurd c_194 (by decide)
            · subst r_191_e
              refine lv_if_ne (tgt := 203) hx hb dX11_vacuum_194 (by decide) (fun c_194 => ?_) (fun c_194 => ?_)
              · exact absurd c_194 (by decide)
              · have n_194 := nb_eq (a := 0) (b := 0) c_194 (by omega) (by omega)
                refine lv_aload_n hx hb dX11_vacuum_197 rfl (lv_at hl 1 rfl) ?_
                refine lv_iload hx hb dX11_vacuum_198 (lv_at hl 0 rfl) ?_
                refine kcM_v G (krV 1 rfl (As := [.int (nI i)]) (rest := []) (ci := 12) (CC := RX11) (T := TX11) (N := 61) C G pmN (c_X11_goes Z l h ad iv av oc i o _ hok hoc h12 _) (gdV ml_X11_339 im_X11_goes se_X11_goes ii_X11 co_X11_goes) (by decide +kernel) ⟨Nat.le_of_ble_eq_true rfl, Nat.le_of_ble_eq_true rfl⟩ rfl 0 rfl hl rfl (Nat.le_of_ble_eq_true rfl) ⟨Nat.le_of_ble_eq_true rfl, Nat.le_of_ble_eq_true rfl⟩ dX11_vacuum_200) (fun u H locs hu G => ?_)
                obtain ⟨iv1_, av1_, rfl, hok1, h121, hs1, ha1⟩ := hu
                refine lv_iinc (v := dn i) (lv' := [(6, .int (dn i)), (0, .ref h), (1, .int x), (2, .int lat), (3, .int v), (5, .int v0)]) hx hb dX11_vacuum_203 hl (k := 0) rfl rfl (by decide) rfl (fun ls hl => ?_)
                refine lv_goto (tgt := 134) hx hb dX11_vacuum_206 (by decide) ?_
                have hkp := kp1_n (av := av0) (v := v) (o := o) (Or.inr ⟨c_169, Int32.not_le.mp c_180, fun z => hw ((wtd_same (hsA 33 (by decide)) (hsA 34 (by decide)) (hsA 36 (by decide))).mpr z)⟩)
                exact ih (swR oc i) (cc + 1) iv1_ av1_ (by omega) (rmI_g hrm ho hkp) hok1 (hsI.tr hs1 (by decide)) (hsA.tr ha1 (by decide)) (by rw [h121, Int32.add_assoc, ← nI_1]) (by rw [swR_len]; omega) _ _ _ G (lv_sub hl [0, 1, 2, 3, 4, 5] rfl)
      · refine lv_aload_n hx hb dX11_vacuum_150 rfl (lv_at hl 1 rfl) ?_
        refine k_mga C G 1 (by decide) mr_1 fl_X11_13 rfl dX11_vacuum_151 ?_
        refine lv_iload hx hb dX11_vacuum_154 (lv_at hl 0 rfl) ?_
        refine k_mil (v := o.2.1) (i := i) C G 1 (k := 1) (n := 100) mp_1 (by decide) (by omega) q1 dX11_vacuum_156 ?_
        refine lv_iload_n hx hb dX11_vacuum_157 rfl (lv_at hl 4 rfl) ?_
        refine lv_icmp_lt (tgt := 197) hx hb dX11_vacuum_158 (by decide) (fun c_158 => ?_) (fun c_158 => ?_)
        · refine lv_aload_n hx hb dX11_vacuum_197 rfl (lv_at hl 1 rfl) ?_
          refine lv_iload hx hb dX11_vacuum_198 (lv_at hl 0 rfl) ?_
          refine kcM_v G (krV 1 rfl (As := [.int (nI i)]) (rest := []) (ci := 12) (CC := RX11) (T := TX11) (N := 61) C G pmN (c_X11_goes Z l h ad iv av oc i o _ hok hoc h12 _) (gdV ml_X11_339 im_X11_goes se_X11_goes ii_X11 co_X11_goes) (by decide +kernel) ⟨Nat.le_of_ble_eq_true rfl, Nat.le_of_ble_eq_true rfl⟩ rfl 0 rfl hl rfl (Nat.le_of_ble_eq_true rfl) ⟨Nat.le_of_ble_eq_true rfl, Nat.le_of_ble_eq_true rfl⟩ dX11_vacuum_200) (fun u H locs hu G => ?_)
          obtain ⟨iv1_, av1_, rfl, hok1, h121, hs1, ha1⟩ := hu
          refine lv_iinc (v := dn i) (lv' := [(6, .int (dn i)), (0, .ref h), (1, .int x), (2, .int lat), (3, .int v), (5, .int v0)]) hx hb dX11_vacuum_203 hl (k := 0) rfl rfl (by decide) rfl (fun ls hl => ?_)
          refine lv_goto (tgt := 134) hx hb dX11_vacuum_206 (by decide) ?_
          have hkp := kp1_n (av := av0) (v := v) (o := o) (Or.inl ⟨c_147, c_158⟩)
          exact ih (swR oc i) (cc + 1) iv1_ av1_ (by omega) (rmI_g hrm ho hkp) hok1 (hsI.tr hs1 (by decide)) (hsA.tr ha1 (by decide)) (by rw [h121, Int32.add_assoc, ← nI_1]) (by rw [swR_len]; omega) _ _ _ G (lv_sub hl [0, 1, 2, 3, 4, 5] rfl)
        · refine lv_aload_n hx hb dX11_vacuum_161 rfl (lv_at hl 1 rfl) ?_
          refine k_mga C G 0 (by decide) mr_0 fl_X11_7 rfl dX11_vacuum_162 ?_
          refine lv_iload hx hb dX11_vacuum_165 (lv_at hl 0 rfl) ?_
          refine k_mil (v := o.1) (i := i) C G 0 (k := 0) (n := 100) mp_0 (by decide) (by omega) q0 dX11_vacuum_167 ?_
          refine lv_iconst (v := 1) hx hb dX11_vacuum_168 (by decide) ?_
          refine lv_icmp_ne (tgt := 203) hx hb dX11_vacuum_169 (by decide) (fun c_169 => ?_) (fun c_169 => ?_)
          · refine lv_iinc (v := dn i) (lv' := [(6, .int (dn i)), (0, .ref h), (1, .int x), (2, .int lat), (3, .int v), (5, .int v0)]) hx hb dX11_vacuum_203 hl (k := 0) rfl rfl (by decide) rfl (fun ls hl => ?_)
            refine lv_goto (tgt := 134) hx hb dX11_vacuum_206 (by decide) ?_
            have hkp := kp1_y (av := av0) (v := v) (o := o) (fun z => z.elim (fun z => c_158 z.2) (fun z => c_169 z.1))
            exact ih oc cc iv av (by omega) (rmI_k hrm ho hkp) hok hsI hsA h12 hcc _ _ _ G (lv_sub hl [0, 1, 2, 3, 4, 5] rfl)
          · refine lv_aload_n hx hb dX11_vacuum_172 rfl (lv_at hl 1 rfl) ?_
            refine k_mga C G 1 (by decide) mr_1 fl_X11_13 rfl dX11_vacuum_173 ?_
            refine lv_iload hx hb dX11_vacuum_176 (lv_at hl 0 rfl) ?_
            refine k_mil (v := o.2.1) (i := i) C G 1 (k := 1) (n := 100) mp_1 (by decide) (by omega) q1 dX11_vacuum_178 ?_
            refine lv_iload_n hx hb dX11_vacuum_179 rfl (lv_at hl 4 rfl) ?_
            refine lv_icmp_ge (tgt := 203) hx hb dX11_vacuum_180 (by decide) (fun c_180 => ?_) (fun c_180 => ?_)
            · refine lv_iinc (v := dn i) (lv' := [(6, .int (dn i)), (0, .ref h), (1, .int x), (2, .int lat), (3, .int v), (5, .int v0)]) hx hb dX11_vacuum_203 hl (k := 0) rfl rfl (by decide) rfl (fun ls hl => ?_)
              refine lv_goto (tgt := 134) hx hb dX11_vacuum_206 (by decide) ?_
              have hkp := kp1_y (av := av0) (v := v) (o := o) (fun z => z.elim (fun z => c_158 z.2) (fun z => absurd z.2.1 (Int32.not_lt.mpr c_180)))
              exact ih oc cc iv av (by omega) (rmI_k hrm ho hkp) hok hsI hsA h12 hcc _ _ _ G (lv_sub hl [0, 1, 2, 3, 4, 5] rfl)
            · refine lv_aload_n hx hb dX11_vacuum_183 rfl (lv_at hl 1 rfl) ?_
              refine lv_aload_n hx hb dX11_vacuum_184 rfl (lv_at hl 1 rfl) ?_
              refine k_mga C G 1 (by decide) mr_1 fl_X11_13 rfl dX11_vacuum_185 ?_
              refine lv_iload hx hb dX11_vacuum_188 (lv_at hl 0 rfl) ?_
              refine k_mil (v := o.2.1) (i := i) C G 1 (k := 1) (n := 100) mp_1 (by decide) (by omega) q1 dX11_vacuum_190 ?_
              refine kcM_i G (krV 1 rfl (As := [.int o.2.1]) (rest := []) (ci := 12) (CC := RX11) (T := TX11) (N := 61) C G pmN (c_X11_isWanted Z l h ad iv av o.2.1 _) (gdV ml_X11_336 im_X11_isWanted se_X11_isWanted ii_X11 co_X11_isWanted) (by decide +kernel) ⟨Nat.le_of_ble_eq_true rfl, Nat.le_of_ble_eq_true rfl⟩ rfl 0 rfl hl rfl (Nat.le_of_ble_eq_true rfl) ⟨Nat.le_of_ble_eq_true rfl, Nat.le_of_ble_eq_true rfl⟩ dX11_vacuum_191) (fun r_191_1 u H locs hu G => ?_)
              rcases hu with ⟨hw, r_191_1_e, rfl⟩ | ⟨hw, r_191_1_e, rfl⟩
              · subst r_191_1_e
                refine lv_if_ne (tgt := 203) hx hb dX11_vacuum_194 (by decide) (fun c_194 => ?_) (fun c_194 => ?_)
                · have n_194 := nb_ne (a := 1) (b := 0) c_194 (by omega) (by omega)
                  refine lv_iinc (v := dn i) (lv' := [(6, .int (dn i)), (0, .ref h), (1, .int x), (2, .int lat), (3, .int v), (5, .int v0)]) hx hb dX11_vacuum_203 hl (k := 0) rfl rfl (by decide) rfl (fun ls hl => ?_)
                  refine lv_goto (tgt := 134) hx hb dX11_vacuum_206 (by decide) ?_
                  have hkp := kp1_y (av := av0) (v := v) (o := o) (fun z => z.elim (fun z => c_158 z.2) (fun z => z.2.2 ((wtd_same (hsA 33 (by decide)) (hsA 34 (by decide)) (hsA 36 (by decide))).mp hw)))
                  exact ih oc cc iv av (by omega) (rmI_k hrm ho hkp) hok hsI hsA h12 hcc _ _ _ G (lv_sub hl [0, 1, 2, 3, 4, 5] rfl)
                · exact absurd c_194 (by decide)
              · subst r_191_1_e
                refine lv_if_ne (tgt := 203) hx hb dX11_vacuum_194 (by decide) (fun c_194 => ?_) (fun c_194 => ?_)
                · exact absurd c_194 (by decide)
                · have n_194 := nb_eq (a := 0) (b := 0) c_194 (by omega) (by omega)
                  refine lv_aload_n hx hb dX11_vacuum_197 rfl (lv_at hl 1 rfl) ?_
                  refine lv_iload hx hb dX11_vacuum_198 (lv_at hl 0 rfl) ?_
                  refine kcM_v G (krV 1 rfl (As := [.int (nI i)]) (rest := []) (ci := 12) (CC := RX11) (T := TX11) (N := 61) C G pmN (c_X11_goes Z l h ad iv av oc i o _ hok hoc h12 _) (gdV ml_X11_339 im_X11_goes se_X11_goes ii_X11 co_X11_goes) (by decide +kernel) ⟨Nat.le_of_ble_eq_true rfl, Nat.le_of_ble_eq_true rfl⟩ rfl 0 rfl hl rfl (Nat.le_of_ble_eq_true rfl) ⟨Nat.le_of_ble_eq_true rfl, Nat.le_of_ble_eq_true rfl⟩ dX11_vacuum_200) (fun u H locs hu G => ?_)
                  obtain ⟨iv1_, av1_, rfl, hok1, h121, hs1, ha1⟩ := hu
                  refine lv_iinc (v := dn i) (lv' := [(6, .int (dn i)), (0, .ref h), (1, .int x), (2, .int lat), (3, .int v), (5, .int v0)]) hx hb dX11_vacuum_203 hl (k := 0) rfl rfl (by decide) rfl (fun ls hl => ?_)
                  refine lv_goto (tgt := 134) hx hb dX11_vacuum_206 (by decide) ?_
                  have hkp := kp1_n (av := av0) (v := v) (o := o) (Or.inr ⟨c_169, Int32.not_le.mp c_180, fun z => hw ((wtd_same (hsA 33 (by decide)) (hsA 34 (by decide)) (hsA 36 (by decide))).mpr z)⟩)
                  exact ih (swR oc i) (cc + 1) iv1_ av1_ (by omega) (rmI_g hrm ho hkp) hok1 (hsI.tr hs1 (by decide)) (hsA.tr ha1 (by decide)) (by rw [h121, Int32.add_assoc, ← nI_1]) (by rw [swR_len]; omega) _ _ _ G (lv_sub hl [0, 1, 2, 3, 4, 5] rfl)
set_option maxRecDepth 100000 in
set_option maxHeartbeats 4000000 in
theorem lp_mvr2 {p : Program} {l : Launch} {e : Env} {s : State} {m : MethodId} {args : Array Value} {below : List Frame} {meth : Method} {c : Code} {Z : zT} {A : Nat → Prop} {Q : State → Prop} {h : Nat} {ad : Nat → Nat} {iv0 : ivT} {av0 : avT} {ob : List obT} {vc : Int32} {NL : List Int32} {x lat v v0 : Int32} (C : cx p s m args meth c cX11_vacuum 8 (some .int) RX11 "vacuum") (hnd : nd_at av0 ob NL) (hob : ob.length ≤ 100) (kk : ∀ (oc : List obT) (cc : Nat) (iv : ivT) (av : avT), rmI (kp2 NL) ob 0 oc → mo_ok iv av oc → sI [4, 5, 12] iv0 iv → sA [0, 1, 2, 3] av0 av → iv 12 = vc + nI cc → cc + oc.length = ob.length →  ∀ (H : Heap) (locs : List Loc) (ls : Array Slot), wd Z A s (mdW Z h ad iv av) H locs → lv_has ls 8 [(0, .ref h), (1, .int x), (2, .int lat), (3, .int v), (5, .int v0)] → W p l e ({ frames := 7, cells := 0, slots := 0, locals := 200 }) s m args below meth c H locs 0 0 Q (F0 m 436 ls [])) : ∀ (i : Nat) (oc : List obT) (cc : Nat) (iv : ivT) (av : avT), i ≤ ob.length → rmI (kp2 NL) ob i oc → mo_ok iv av oc → sI [4, 5, 12] iv0 iv → sA [0, 1, 2, 3] av0 av → iv 12 = vc + nI cc → cc + oc.length = ob.length →  ∀ (H : Heap) (locs : List Loc) (ls : Array Slot), wd Z A s (mdW Z h ad iv av) H locs → lv_has ls 8 [(6, .int (dn i)), (0, .ref h), (1, .int x), (2, .int lat), (3, .int v), (5, .int v0)] → W p l e ({ frames := 7, cells := 0, slots := 0, locals := 200 }) s m args below meth c H locs 0 0 Q (F0 m 399 ls []) := by
  have hx := C.1
  have hb := C.2.1
  have hown := C.2.2.2.2.2.1
  have hts := C.2.2.2.2.2.2.1
  intro i
  induction i with
  | zero =>
    intro oc cc iv av hi hrm hok hsI hsA h12 hcc H locs ls G hl
    rw [dn_0] at hl
    refine lv_iload hx hb dX11_vacuum_399 (lv_at hl 0 rfl) ?_
    refine lv_if_lt (tgt := 436) hx hb dX11_vacuum_401 (by decide) (fun c_401 => ?_) (fun c_401 => ?_)
    · exact kk oc cc iv av hrm hok hsI hsA h12 hcc _ _ _ G (lv_sub hl [1, 2, 3, 4, 5] rfl)
    · exact absurd c_401 (by decide)
  | succ i ih =>
    intro oc cc iv av hi hrm hok hsI hsA h12 hcc H locs ls G hl
    rw [dn_s] at hl
    obtain ⟨o, ho⟩ : ∃ o, ob[i]? = some o := ⟨_, List.getElem?_eq_getElem (by omega)⟩
    have hoc : oc[i]? = some o := (rmI_get hrm (by omega)).trans ho
    obtain ⟨q0, q1, _⟩ := hok.2.2.2.1 i o hoc
    have hil := (List.getElem?_eq_some_iff.mp hoc).1
    refine lv_iload hx hb dX11_vacuum_399 (lv_at hl 0 rfl) ?_
    refine lv_if_lt (tgt := 436) hx hb dX11_vacuum_401 (by decide) (fun c_401 => ?_) (fun c_401 => ?_)
    · exact absurd c_401 (Int32.not_lt.mpr (nI_pos' (by omega)))
    · have n_401 := nb_nlt (a := i) (b := 0) c_401 (by omega) (by omega)
      refine lv_aload_n hx hb dX11_vacuum_404 rfl (lv_at hl 1 rfl) ?_
      refine k_mga C G 0 (by decide) mr_0 fl_X11_7 rfl dX11_vacuum_405 ?_
      refine lv_iload hx hb dX11_vacuum_408 (lv_at hl 0 rfl) ?_
      refine k_mil (v := o.1) (i := i) C G 0 (k := 0) (n := 100) mp_0 (by decide) (by omega) q0 dX11_vacuum_410 ?_
      refine lv_if_ne (tgt := 430) hx hb dX11_vacuum_411 (by decide) (fun c_411 => ?_) (fun c_411 => ?_)
      · refine lv_iinc (v := dn i) (lv' := [(6, .int (dn i)), (0, .ref h), (1, .int x), (2, .int lat), (3, .int v), (5, .int v0)]) hx hb dX11_vacuum_430 hl (k := 0) rfl rfl (by decide) rfl (fun ls hl => ?_)
        refine lv_goto (tgt := 399) hx hb dX11_vacuum_433 (by decide) ?_
        have hkp := kp2_y (NL := NL) (o := o) (fun z => c_411 z.1)
        exact ih oc cc iv av (by omega) (rmI_k hrm ho hkp) hok hsI hsA h12 hcc _ _ _ G (lv_sub hl [0, 1, 2, 3, 4, 5] rfl)
      · refine lv_aload_n hx hb dX11_vacuum_414 rfl (lv_at hl 1 rfl) ?_
        refine k_mga C G 59 (by decide) mr_59 fl_X11_144 rfl dX11_vacuum_415 ?_
        refine lv_iload hx hb dX11_vacuum_418 (lv_at hl 0 rfl) ?_
        refine k_mzl (v := (if o.2.1 ∈ NL then 1 else 0)) (i := i) C G 41 (k := 59) (n := 100) mp_59 (by decide) (by omega) (by rw [hsA 59 (by decide)]; exact hnd i o ho c_411) dX11_vacuum_420 ?_
        refine lv_if_ne (tgt := 430) hx hb dX11_vacuum_421 (by decide) (fun c_421 => ?_) (fun c_421 => ?_)
        · refine lv_iinc (v := dn i) (lv' := [(6, .int (dn i)), (0, .ref h), (1, .int x), (2, .int lat), (3, .int v), (5, .int v0)]) hx hb dX11_vacuum_430 hl (k := 0) rfl rfl (by decide) rfl (fun ls hl => ?_)
          refine lv_goto (tgt := 399) hx hb dX11_vacuum_433 (by decide) ?_
          have hkp := kp2_y (NL := NL) (o := o) (fun z => by rw [if_neg z.2] at c_421; exact c_421 rfl)
          exact ih oc cc iv av (by omega) (rmI_k hrm ho hkp) hok hsI hsA h12 hcc _ _ _ G (lv_sub hl [0, 1, 2, 3, 4, 5] rfl)
        · refine lv_aload_n hx hb dX11_vacuum_424 rfl (lv_at hl 1 rfl) ?_
          refine lv_iload hx hb dX11_vacuum_425 (lv_at hl 0 rfl) ?_
          refine kcM_v G (krV 1 rfl (As := [.int (nI i)]) (rest := []) (ci := 12) (CC := RX11) (T := TX11) (N := 61) C G pmN (c_X11_goes Z l h ad iv av oc i o _ hok hoc h12 _) (gdV ml_X11_339 im_X11_goes se_X11_goes ii_X11 co_X11_goes) (by decide +kernel) ⟨Nat.le_of_ble_eq_true rfl, Nat.le_of_ble_eq_true rfl⟩ rfl 0 rfl hl rfl (Nat.le_of_ble_eq_true rfl) ⟨Nat.le_of_ble_eq_true rfl, Nat.le_of_ble_eq_true rfl⟩ dX11_vacuum_427) (fun u H locs hu G => ?_)
          obtain ⟨iv1_, av1_, rfl, hok1, h121, hs1, ha1⟩ := hu
          refine lv_iinc (v := dn i) (lv' := [(6, .int (dn i)), (0, .ref h), (1, .int x), (2, .int lat), (3, .int v), (5, .int v0)]) hx hb dX11_vacuum_430 hl (k := 0) rfl rfl (by decide) rfl (fun ls hl => ?_)
          refine lv_goto (tgt := 399) hx hb dX11_vacuum_433 (by decide) ?_
          have hkp := kp2_n (NL := NL) (o := o) ⟨c_411, fun z => by rw [if_pos z] at c_421; exact absurd c_421 (by decide)⟩
          exact ih (swR oc i) (cc + 1) iv1_ av1_ (by omega) (rmI_g hrm ho hkp) hok1 (hsI.tr hs1 (by decide)) (hsA.tr ha1 (by decide)) (by rw [h121, Int32.add_assoc, ← nI_1]) (by rw [swR_len]; omega) _ _ _ G (lv_sub hl [0, 1, 2, 3, 4, 5] rfl)
