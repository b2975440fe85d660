/-! MODEL (X11): takeColumn. -/
theorem col_ext (V : Nat → Int32) (c r : Nat) : ∀ d, ∃ X, col V c (r + d) = col V c r ++ X
  | 0 => ⟨[], by simp⟩
  | d + 1 => by
    obtain ⟨X, hX⟩ := col_ext V c r d
    exact ⟨X ++ [V (48 * c + (r + d))], by rw [← Nat.add_assoc, col_s, hX, List.append_assoc]⟩
theorem tf_col_get {V : Nat → Int32} {c r N : Nat} (hr : r < N) (hv : ¬ V (48 * c + r) = MIS) : (tf (col V c N)).getD (tf (col V c r)).length 0 = V (48 * c + r) := by
  obtain ⟨X, hX⟩ := col_ext V c (r + 1) (N - (r + 1))
  rw [show r + 1 + (N - (r + 1)) = N by omega] at hX
  rw [hX]
  unfold tf
  rw [List.filter_append]
  show (tf (col V c (r + 1)) ++ _).getD (tf (col V c r)).length 0 = _
  rw [col_s, tf_y hv, List.getD_eq_getElem?_getD, List.append_assoc, List.getElem?_append_right (Nat.le_refl _), Nat.sub_self]; rfl
theorem tf_mono {V : Nat → Int32} {c r N : Nat} (hr : r ≤ N) : (tf (col V c r)).length ≤ (tf (col V c N)).length := by
  obtain ⟨X, hX⟩ := col_ext V c r (N - r)
  rw [show r + (N - r) = N by omega] at hX
  rw [hX]; unfold tf; rw [List.filter_append, List.length_append]; omega
set_option maxRecDepth 100000 in
set_option maxHeartbeats 4000000 in
theorem lp_tcF {p : Program} {l : Launch} {e : Env} {s : State} {m : MethodId} {args : Array Value} {below : List Frame} {meth : Method} {c : Code} {Z : zT} {A : Nat → Prop} {Q : State → Prop} {h : Nat} {ad : Nat → Nat} {iv : ivT} {av1 : avT} {c0 k q mm : Nat} {v : Int32} (C : cx p s m args meth c cX11_takeColumn 8 none RX11 "takeColumn") (h18 : iv 18 = 1) (hkm : k + mm ≤ 48) (kk : ∀ (av : avT), sA [25] av1 av → (∀ j, av 25 j = (if k ≤ j ∧ j < k + mm then v else av1 25 j)) → ∀ (H : Heap) (locs : List Loc) (ls : Array Slot), wd Z A s (mdW Z h ad iv av) H locs → lv_has ls 8 [(5, .int (nI mm)), (4, .int (nI k)), (3, .int (nI q)), (0, .ref h), (1, .int (nI c0)), (2, .int 1)] → W p l e ({ frames := 2, cells := 0, slots := 0, locals := 80 }) s m args below meth c H locs 0 0 Q (F0 m 310 ls [])) : ∀ (n : Nat) (i : Nat) (av : avT), i + n = mm → sA [25] av1 av → (∀ j, av 25 j = (if k ≤ j ∧ j < k + i then v else av1 25 j)) → ∀ (H : Heap) (locs : List Loc) (ls : Array Slot), wd Z A s (mdW Z h ad iv av) H locs → lv_has ls 8 [(7, .int (nI i)), (6, .int v), (5, .int (nI mm)), (4, .int (nI k)), (3, .int (nI q)), (0, .ref h), (1, .int (nI c0)), (2, .int 1)] → W p l e ({ frames := 2, cells := 0, slots := 0, locals := 80 }) s m args below meth c H locs 0 0 Q (F0 m 278 ls []) := by
  have hx := C.1
  have hb := C.2.1
  have hown := C.2.2.2.2.2.1
  have hts := C.2.2.2.2.2.2.1
  intro n
  induction n with
  | zero =>
    intro i av hi hsA hfi H locs ls G hl
    refine lv_aload_n hx hb dX11_takeColumn_278 rfl (lv_at hl 5 rfl) ?_
    refine k_mgi (v := 1) C G 18 (by decide) mr_18 h18 fl_X11_175 rfl dX11_takeColumn_279 ?_
    refine lv_if_eq (tgt := 310) hx hb dX11_takeColumn_282 (by decide) (fun c_282 => ?_) (fun c_282 => ?_)
    · exact absurd c_282 (by decide)
    · have n_282 := nb_ne (a := 1) (b := 0) c_282 (by omega) (by omega)
      refine lv_iload hx hb dX11_takeColumn_285 (lv_at hl 0 rfl) ?_
      refine lv_iload hx hb dX11_takeColumn_287 (lv_at hl 2 rfl) ?_
      refine lv_icmp_ge (tgt := 310) hx hb dX11_takeColumn_289 (by decide) (fun c_289 => ?_) (fun c_289 => ?_)
      · have n_289 := nb_le (a := mm) (b := i) c_289 (by omega) (by omega)
        have him : i = mm := by omega
        subst him
        exact kk av hsA hfi _ _ _ G (lv_sub hl [2, 3, 4, 5, 6, 7] rfl)
      · exact absurd (nb_nle (a := mm) (b := i) c_289 (by omega) (by omega)) (by omega)
  | succ n ih =>
    intro i av hi hsA hfi H locs ls G hl
    refine lv_aload_n hx hb dX11_takeColumn_278 rfl (lv_at hl 5 rfl) ?_
    refine k_mgi (v := 1) C G 18 (by decide) mr_18 h18 fl_X11_175 rfl dX11_takeColumn_279 ?_
    refine lv_if_eq (tgt := 310) hx hb dX11_takeColumn_282 (by decide) (fun c_282 => ?_) (fun c_282 => ?_)
    · exact absurd c_282 (by decide)
    · have n_282 := nb_ne (a := 1) (b := 0) c_282 (by omega) (by omega)
      refine lv_iload hx hb dX11_takeColumn_285 (lv_at hl 0 rfl) ?_
      refine lv_iload hx hb dX11_takeColumn_287 (lv_at hl 2 rfl) ?_
      refine lv_icmp_ge (tgt := 310) hx hb dX11_takeColumn_289 (by decide) (fun c_289 => ?_) (fun c_289 => ?_)
      · exact absurd (nb_le (a := mm) (b := i) c_289 (by omega) (by omega)) (by omega)
      · have n_289 := nb_nle (a := mm) (b := i) c_289 (by omega) (by omega)
        refine lv_aload_n hx hb dX11_takeColumn_292 rfl (lv_at hl 5 rfl) ?_
        refine k_mga C G 25 (by decide) mr_25 fl_X11_47 rfl dX11_takeColumn_293 ?_
        refine lv_iload hx hb dX11_takeColumn_296 (lv_at hl 3 rfl) ?_
        refine lv_iload hx hb dX11_takeColumn_298 (lv_at hl 0 rfl) ?_
        refine lv_iadd hx hb dX11_takeColumn_300 ?_
        refine k_topi (y := nI (k + i)) (nI_add k i) ?_
        refine lv_iload hx hb dX11_takeColumn_301 (lv_at hl 1 rfl) ?_
        refine k_mis (x := v) (i := k + i) C G 9 (k := 25) (n := 48) mp_25 (by decide) (by omega) dX11_takeColumn_303 (fun H locs (G : wd Z A s (mdW Z h ad iv (ua av 25 (upd (av 25) (k + i) v))) H locs) => ?_)
        refine lv_iinc (v := nI (i + 1)) (lv' := [(7, .int (nI (i + 1))), (6, .int v), (5, .int (nI mm)), (4, .int (nI k)), (3, .int (nI q)), (0, .ref h), (1, .int (nI c0)), (2, .int 1)]) hx hb dX11_takeColumn_304 hl (k := 0) rfl (nI_1 _) (by decide) rfl (fun ls hl => ?_)
        refine lv_goto (tgt := 278) hx hb dX11_takeColumn_307 (by decide) ?_
        exact ih (i + 1) _ (by omega) (hsA.up (by decide) _) (fun j => by
          show upd (av 25) (k + i) v j = _
          by_cases e : j = k + i
          · subst e; rw [pk_us, if_pos (by omega)]
          · rw [pk_un e, hfi j]
            by_cases e2 : k ≤ j ∧ j < k + i
            · rw [if_pos e2, if_pos (by omega)]
            · rw [if_neg e2, if_neg (by omega)]) _ _ _ G (lv_sub hl [0, 1, 2, 3, 4, 5, 6, 7] rfl)
set_option maxRecDepth 100000 in
set_option maxHeartbeats 4000000 in
theorem lp_tcV1 {p : Program} {l : Launch} {e : Env} {s : State} {m : MethodId} {args : Array Value} {below : List Frame} {meth : Method} {c : Code} {Z : zT} {A : Nat → Prop} {Q : State → Prop} {h : Nat} {ad : Nat → Nat} {iv0 : ivT} {av0 : avT} {c0 q aP en : Nat} {Y : Prop} {th : List Int32} (C : cx p s m args meth c cX11_takeColumn 8 none RX11 "takeColumn") (h17 : iv0 17 = nI en) (hen : en ≤ 140000) (haP : aP ≤ 145000) (hq : q ≤ 48) (hYp : Y → bat (av0 3) aP (emR none th) ∧ aP + (emR none th).length ≤ en ∧ q = th.length) (kk : ∀ (iv : ivT) (av : avT) (a : Nat) (g : Int32), iv 16 = nI a → a ≤ aP + 250 → iv 18 = g → (g = 0 ∨ g = 1) → sI [16, 18] iv0 iv → sA [21, 25] av0 av → av 21 = av0 21 → (Y → g = 1 ∧ a = aP + (emR none th).length ∧ ∀ i, i < q → av 25 i = th.getD i 0) → ∀ (H : Heap) (locs : List Loc) (ls : Array Slot), wd Z A s (mdW Z h ad iv av) H locs → lv_has ls 8 [(3, .int (nI q)), (0, .ref h), (1, .int (nI c0)), (2, .int 1)] → W p l e ({ frames := 2, cells := 0, slots := 0, locals := 80 }) s m args below meth c H locs 0 0 Q (F0 m 320 ls [])) : ∀ (n : Nat) (k : Nat) (iv : ivT) (av : avT) (a : Nat), q ≤ k + n → k ≤ q → iv 16 = nI a → a ≤ aP + 5 * k → iv 18 = 1 → sI [16, 18] iv0 iv → sA [21, 25] av0 av → av 21 = av0 21 → (Y → ∃ E : List Int8, bnd th k ∧ E ++ emR (prv th k) (th.drop k) = emR none th ∧ a = aP + E.length ∧ ∀ i, i < k → av 25 i = th.getD i 0) → ∀ (H : Heap) (locs : List Loc) (ls : Array Slot), wd Z A s (mdW Z h ad iv av) H locs → lv_has ls 8 [(4, .int (nI k)), (3, .int (nI q)), (0, .ref h), (1, .int (nI c0)), (2, .int 1)] → W p l e ({ frames := 2, cells := 0, slots := 0, locals := 80 }) s m args below meth c H locs 0 0 Q (F0 m 146 ls []) := by
  have hx := C.1
  have hb := C.2.1
  have hown := C.2.2.2.2.2.1
  have hts := C.2.2.2.2.2.2.1
  intro n
  induction n with
  | zero =>
    intro k iv av a hn hkq h16 hak h18 hsI hsA h21 hY H locs ls G hl
    refine lv_aload_n hx hb dX11_takeColumn_146 rfl (lv_at hl 2 rfl) ?_
    refine k_mgi (v := 1) C G 18 (by decide) mr_18 h18 fl_X11_175 rfl dX11_takeColumn_147 ?_
    refine lv_if_eq (tgt := 320) hx hb dX11_takeColumn_150 (by decide) (fun c_150 => ?_) (fun c_150 => ?_)
    · exact absurd c_150 (by decide)
    · have n_150 := nb_ne (a := 1) (b := 0) c_150 (by omega) (by omega)
      refine lv_iload hx hb dX11_takeColumn_153 (lv_at hl 0 rfl) ?_
      refine lv_iload_n hx hb dX11_takeColumn_155 rfl (lv_at hl 1 rfl) ?_
      refine lv_icmp_ge (tgt := 320) hx hb dX11_takeColumn_156 (by decide) (fun c_156 => ?_) (fun c_156 => ?_)
      · have n_156 := nb_le (a := q) (b := k) c_156 (by omega) (by omega)
        exact kk iv av a 1 h16 (by omega) h18 (Or.inr rfl) hsI hsA h21 (fun y => by
          obtain ⟨E, b1, b2, b3, b4⟩ := hY y
          have hql := (hYp y).2.2
          have hkq : k = q := by omega
          rw [hkq, hql, List.drop_length, emR, List.append_nil] at b2
          exact ⟨rfl, by rw [b3, b2], fun i hi => b4 i (by omega)⟩) _ _ _ G (lv_sub hl [1, 2, 3, 4] rfl)
      · exact absurd (nb_nle (a := q) (b := k) c_156 (by omega) (by omega)) (by omega)
  | succ n ih =>
    intro k iv av a hn hkq h16 hak h18 hsI hsA h21 hY H locs ls G hl
    have h17v : iv 17 = nI en := (hsI 17 (by decide)).trans h17
    refine lv_aload_n hx hb dX11_takeColumn_146 rfl (lv_at hl 2 rfl) ?_
    refine k_mgi (v := 1) C G 18 (by decide) mr_18 h18 fl_X11_175 rfl dX11_takeColumn_147 ?_
    refine lv_if_eq (tgt := 320) hx hb dX11_takeColumn_150 (by decide) (fun c_150 => ?_) (fun c_150 => ?_)
    · exact absurd c_150 (by decide)
    · have n_150 := nb_ne (a := 1) (b := 0) c_150 (by omega) (by omega)
      refine lv_iload hx hb dX11_takeColumn_153 (lv_at hl 0 rfl) ?_
      refine lv_iload_n hx hb dX11_takeColumn_155 rfl (lv_at hl 1 rfl) ?_
      refine lv_icmp_ge (tgt := 320) hx hb dX11_takeColumn_156 (by decide) (fun c_156 => ?_) (fun c_156 => ?_)
      · have n_156 := nb_le (a := q) (b := k) c_156 (by omega) (by omega)
        exact kk iv av a 1 h16 (by omega) h18 (Or.inr rfl) hsI hsA h21 (fun y => by
          obtain ⟨E, b1, b2, b3, b4⟩ := hY y
          have hql := (hYp y).2.2
          have hkq : k = q := by omega
          rw [hkq, hql, List.drop_length, emR, List.append_nil] at b2
          exact ⟨rfl, by rw [b3, b2], fun i hi => b4 i (by omega)⟩) _ _ _ G (lv_sub hl [1, 2, 3, 4] rfl)
      · have n_156 := nb_nle (a := q) (b := k) c_156 (by omega) (by omega)
        refine lv_iload_n hx hb dX11_takeColumn_159 rfl (lv_at hl 4 rfl) ?_
        refine lv_if_ne (tgt := 182) hx hb dX11_takeColumn_160 (by decide) (fun c_160 => ?_) (fun c_160 => ?_)
        · have n_160 := nb_ne (a := 1) (b := 0) c_160 (by omega) (by omega)
          refine lv_iload_n hx hb dX11_takeColumn_182 rfl (lv_at hl 4 rfl) ?_
          refine lv_iconst (v := 2) hx hb dX11_takeColumn_183 (by decide) ?_
          refine lv_icmp_ne (tgt := 228) hx hb dX11_takeColumn_184 (by decide) (fun c_184 => ?_) (fun c_184 => ?_)
          · have n_184 := nb_ne (a := 1) (b := 2) c_184 (by omega) (by omega)
            refine lv_aload_n hx hb dX11_takeColumn_228 rfl (lv_at hl 2 rfl) ?_
            refine lv_iconst (v := 1) hx hb dX11_takeColumn_229 (by decide) ?_
            refine kcM_l G (krV 1 rfl (As := [.int 1]) (rest := []) (ci := 12) (CC := RX11) (T := TX11) (N := 61) C G pmN (c_mt1 Z l h ad iv av a en 1 h16 h17v h18 (Or.inr rfl) (by omega) (by omega) _) (gdV ml_X11_213 im_X11_take se_X11_take ii_X11 co_X11_take) (by decide +kernel) ⟨Nat.le_of_ble_eq_true rfl, Nat.le_of_ble_eq_true rfl⟩ rfl 0 rfl hl rfl (Nat.le_of_ble_eq_true rfl) ⟨Nat.le_of_ble_eq_true rfl, Nat.le_of_ble_eq_true rfl⟩ dX11_takeColumn_230) (fun r_230 u H locs hu G => ?_)
            obtain ⟨iv1_, rfl, hs1, h16_1, hcs1⟩ := hu
            have h17_1 : iv1_ 17 = nI en := (hs1 17 (by decide)).trans h17v
            rcases hcs1 with ⟨hg_1, hle_1, h18_1, r_230_e⟩ | ⟨hno_1, h18_1, r_230_e⟩
            · obtain ⟨bb_1, hbb_1⟩ : ∃ b, b = ub ((av 3) a) := ⟨_, rfl⟩
              have hlbb_1 : bb_1 < 256 := by rw [hbb_1]; exact ub_lt _
              rw [← hbb_1] at r_230_e
              subst r_230_e
              refine lv_l2i (v := ((nI bb_1).toInt64).toInt32) hx hb dX11_takeColumn_233 rfl ?_
              refine k_topi (y := nI bb_1) (l2i_i2l _) ?_
              refine lv_istore (lv' := [(5, .int (nI bb_1)), (4, .int (nI k)), (3, .int (nI q)), (0, .ref h), (1, .int (nI c0)), (2, .int 1)]) hx hb dX11_takeColumn_234 hl (by decide) rfl (fun ls hl => ?_)
              refine lv_aload_n hx hb dX11_takeColumn_236 rfl (lv_at hl 3 rfl) ?_
              refine lv_iconst (v := 4) hx hb dX11_takeColumn_237 (by decide) ?_
              refine kcM_l G (krV 1 rfl (As := [.int 4]) (rest := []) (ci := 12) (CC := RX11) (T := TX11) (N := 61) C G pmN (c_mt4 Z l h ad iv1_ av (a + 1) en 1 h16_1 h17_1 h18_1 (Or.inr rfl) (by omega) (by omega) _) (gdV ml_X11_213 im_X11_take se_X11_take ii_X11 co_X11_take) (by decide +kernel) ⟨Nat.le_of_ble_eq_true rfl, Nat.le_of_ble_eq_true rfl⟩ rfl 0 rfl hl rfl (Nat.le_of_ble_eq_true rfl) ⟨Nat.le_of_ble_eq_true rfl, Nat.le_of_ble_eq_true rfl⟩ dX11_takeColumn_238) (fun r_238 u H locs hu G => ?_)
              obtain ⟨iv2_, rfl, hs2, h16_2, hcs2⟩ := hu
              have h17_2 : iv2_ 17 = nI en := (hs2 17 (by decide)).trans h17_1
              rcases hcs2 with ⟨hg_2, hle_2, h18_2, r_238_e⟩ | ⟨hno_2, h18_2⟩
              · refine lv_l2i (v := r_238.toInt32) hx hb dX11_takeColumn_241 rfl ?_
                refine k_topi (y := r4 (av 3) (a + 1)) r_238_e ?_
                refine lv_istore (lv' := [(6, .int (r4 (av 3) (a + 1))), (5, .int (nI bb_1)), (4, .int (nI k)), (3, .int (nI q)), (0, .ref h), (1, .int (nI c0)), (2, .int 1)]) hx hb dX11_takeColumn_242 hl (by decide) rfl (fun ls hl => ?_)
                refine lv_aload_n hx hb dX11_takeColumn_244 rfl (lv_at hl 4 rfl) ?_
                refine lv_aload_n hx hb dX11_takeColumn_245 rfl (lv_at hl 4 rfl) ?_
                refine k_mgi (v := 1) C G 18 (by decide) mr_18 h18_2 fl_X11_175 rfl dX11_takeColumn_246 ?_
                refine lv_if_eq (tgt := 271) hx hb dX11_takeColumn_249 (by decide) (fun c_249 => ?_) (fun c_249 => ?_)
                · exact absurd c_249 (by decide)
                · have n_249 := nb_ne (a := 1) (b := 0) c_249 (by omega) (by omega)
                  refine lv_iload hx hb dX11_takeColumn_252 (lv_at hl 1 rfl) ?_
                  refine lv_iconst (v := 1) hx hb dX11_takeColumn_254 (by decide) ?_
                  refine lv_icmp_lt (tgt := 271) hx hb dX11_takeColumn_255 (by decide) (fun c_255 => ?_) (fun c_255 => ?_)
                  · have n_255 := nb_lt (a := bb_1) (b := 1) c_255 (by omega) (by omega)
                    refine lv_iconst (v := 0) hx hb dX11_takeColumn_271 (by decide) ?_
                    refine k_mpi (v := 0) (ty := .boolean) C G 18 (by decide) mr_18 fl_X11_175 rfl rfl rfl rfl rfl dX11_takeColumn_272 (fun H locs (G : wd Z A s (mdW Z h ad (upd iv2_ 18 0) av) H locs) => ?_)
                    refine lv_iconst (v := 0) hx hb dX11_takeColumn_275 (by decide) ?_
                    refine k_topi (y := nI 0) (by rfl) ?_
                    refine lv_istore (lv' := [(7, .int (nI 0)), (6, .int (r4 (av 3) (a + 1))), (5, .int (nI bb_1)), (4, .int (nI k)), (3, .int (nI q)), (0, .ref h), (1, .int (nI c0)), (2, .int 1)]) hx hb dX11_takeColumn_276 hl (by decide) rfl (fun ls hl => ?_)
                    refine lv_aload_n hx hb dX11_takeColumn_278 rfl (lv_at hl 5 rfl) ?_
                    refine k_mgi (v := 0) C G 18 (by decide) mr_18 rfl fl_X11_175 rfl dX11_takeColumn_279 ?_
                    refine lv_if_eq (tgt := 310) hx hb dX11_takeColumn_282 (by decide) (fun c_282 => ?_) (fun c_282 => ?_)
                    · have n_282 := nb_eq (a := 0) (b := 0) c_282 (by omega) (by omega)
                      refine lv_iload hx hb dX11_takeColumn_310 (lv_at hl 3 rfl) ?_
                      refine lv_iload hx hb dX11_takeColumn_312 (lv_at hl 2 rfl) ?_
                      refine lv_iadd hx hb dX11_takeColumn_314 ?_
                      refine k_topi (y := nI (k + bb_1)) (nI_add k bb_1) ?_
                      refine lv_istore (lv' := [(4, .int (nI (k + bb_1))), (7, .int (nI 0)), (6, .int (r4 (av 3) (a + 1))), (5, .int (nI bb_1)), (3, .int (nI q)), (0, .ref h), (1, .int (nI c0)), (2, .int 1)]) hx hb dX11_takeColumn_315 hl (by decide) rfl (fun ls hl => ?_)
                      refine lv_goto (tgt := 146) hx hb dX11_takeColumn_317 (by decide) ?_
                      exact lp_tcZ C rfl (fun H locs ls G hl => kk (upd iv2_ 18 0) _ (a + 1 + 4) 0 h16_2 (by omega) rfl (Or.inl rfl) (((hsI.tr hs1 (by decide)).tr hs2 (by decide)).up (k := 18) (by decide) _) hsA h21 (fun y => by
                        have hyp := hYp y
                        obtain ⟨E, b1, b2, b3, b4⟩ := hY y
                        obtain ⟨r1, r2, r3, r4_⟩ := rn_next hyp.1 b2 b1 (by have := hyp.2.2; omega)
                        have rM := rnM_le (th := th) (k := k) (by have := hyp.2.2; omega)
                        have hql := hyp.2.2
                        have hmr : bb_1 = rnM th k := by rw [hbb_1, hsA 3 (by decide), b3, r1]; exact Nat.mod_eq_of_lt (by omega)
                        have : 1 ≤ rnM th k := by unfold rnM; omega
                        exact absurd (show False by omega) id) _ _ _ G hl) G (lv_sub hl [0, 4, 5, 6, 7] rfl)
                    · exact absurd c_282 (by decide)
                  · have n_255 := nb_nlt (a := bb_1) (b := 1) c_255 (by omega) (by omega)
                    refine lv_iload hx hb dX11_takeColumn_258 (lv_at hl 2 rfl) ?_
                    refine lv_iload hx hb dX11_takeColumn_260 (lv_at hl 1 rfl) ?_
                    refine lv_iadd hx hb dX11_takeColumn_262 ?_
                    refine k_topi (y := nI (k + bb_1)) (nI_add k bb_1) ?_
                    refine lv_iload_n hx hb dX11_takeColumn_263 rfl (lv_at hl 3 rfl) ?_
                    refine lv_icmp_gt (tgt := 271) hx hb dX11_takeColumn_264 (by decide) (fun c_264 => ?_) (fun c_264 => ?_)
                    · have n_264 := nb_lt (a := q) (b := k + bb_1) c_264 (by omega) (by omega)
                      refine lv_iconst (v := 0) hx hb dX11_takeColumn_271 (by decide) ?_
                      refine k_mpi (v := 0) (ty := .boolean) C G 18 (by decide) mr_18 fl_X11_175 rfl rfl rfl rfl rfl dX11_takeColumn_272 (fun H locs (G : wd Z A s (mdW Z h ad (upd iv2_ 18 0) av) H locs) => ?_)
                      refine lv_iconst (v := 0) hx hb dX11_takeColumn_275 (by decide) ?_
                      refine k_topi (y := nI 0) (by rfl) ?_
                      refine lv_istore (lv' := [(7, .int (nI 0)), (6, .int (r4 (av 3) (a + 1))), (5, .int (nI bb_1)), (4, .int (nI k)), (3, .int (nI q)), (0, .ref h), (1, .int (nI c0)), (2, .int 1)]) hx hb dX11_takeColumn_276 hl (by decide) rfl (fun ls hl => ?_)
                      refine lv_aload_n hx hb dX11_takeColumn_278 rfl (lv_at hl 5 rfl) ?_
                      refine k_mgi (v := 0) C G 18 (by decide) mr_18 rfl fl_X11_175 rfl dX11_takeColumn_279 ?_
                      refine lv_if_eq (tgt := 310) hx hb dX11_takeColumn_282 (by decide) (fun c_282 => ?_) (fun c_282 => ?_)
                      · have n_282 := nb_eq (a := 0) (b := 0) c_282 (by omega) (by omega)
                        refine lv_iload hx hb dX11_takeColumn_310 (lv_at hl 3 rfl) ?_
                        refine lv_iload hx hb dX11_takeColumn_312 (lv_at hl 2 rfl) ?_
                        refine lv_iadd hx hb dX11_takeColumn_314 ?_
                        refine k_topi (y := nI (k + bb_1)) (nI_add k bb_1) ?_
                        refine lv_istore (lv' := [(4, .int (nI (k + bb_1))), (7, .int (nI 0)), (6, .int (r4 (av 3) (a + 1))), (5, .int (nI bb_1)), (3, .int (nI q)), (0, .ref h), (1, .int (nI c0)), (2, .int 1)]) hx hb dX11_takeColumn_315 hl (by decide) rfl (fun ls hl => ?_)
                        refine lv_goto (tgt := 146) hx hb dX11_takeColumn_317 (by decide) ?_
                        exact lp_tcZ C rfl (fun H locs ls G hl => kk (upd iv2_ 18 0) _ (a + 1 + 4) 0 h16_2 (by omega) rfl (Or.inl rfl) (((hsI.tr hs1 (by decide)).tr hs2 (by decide)).up (k := 18) (by decide) _) hsA h21 (fun y => by
                          have hyp := hYp y
                          obtain ⟨E, b1, b2, b3, b4⟩ := hY y
                          obtain ⟨r1, r2, r3, r4_⟩ := rn_next hyp.1 b2 b1 (by have := hyp.2.2; omega)
                          have rM := rnM_le (th := th) (k := k) (by have := hyp.2.2; omega)
                          have hql := hyp.2.2
                          have hmr : bb_1 = rnM th k := by rw [hbb_1, hsA 3 (by decide), b3, r1]; exact Nat.mod_eq_of_lt (by omega)
                          have : 1 ≤ rnM th k := by unfold rnM; omega
                          exact absurd (show False by omega) id) _ _ _ G hl) G (lv_sub hl [0, 4, 5, 6, 7] rfl)
                      · exact absurd c_282 (by decide)
                    · have n_264 := nb_nlt (a := q) (b := k + bb_1) c_264 (by omega) (by omega)
                      refine lv_iconst (v := 1) hx hb dX11_takeColumn_267 (by decide) ?_
                      refine lv_goto (tgt := 272) hx hb dX11_takeColumn_268 (by decide) ?_
                      refine k_mpi (v := 1) (ty := .boolean) C G 18 (by decide) mr_18 fl_X11_175 rfl rfl rfl rfl rfl dX11_takeColumn_272 (fun H locs (G : wd Z A s (mdW Z h ad (upd iv2_ 18 1) av) H locs) => ?_)
                      refine lv_iconst (v := 0) hx hb dX11_takeColumn_275 (by decide) ?_
                      refine k_topi (y := nI 0) (by rfl) ?_
                      refine lv_istore (lv' := [(7, .int (nI 0)), (6, .int (r4 (av 3) (a + 1))), (5, .int (nI bb_1)), (4, .int (nI k)), (3, .int (nI q)), (0, .ref h), (1, .int (nI c0)), (2, .int 1)]) hx hb dX11_takeColumn_276 hl (by decide) rfl (fun ls hl => ?_)
                      refine lp_tcF (v := r4 (av 3) (a + 1)) (av1 := av) C (iv := (upd iv2_ 18 1)) rfl (by omega) (fun av2 ha2 hfi2 H locs ls G hl => ?_) bb_1 0 av (by omega) sA.rf (fun j => by rw [if_neg (by omega)]) _ _ _ G (lv_sub hl [0, 1, 2, 3, 4, 5, 6, 7] rfl)
                      refine lv_iload hx hb dX11_takeColumn_310 (lv_at hl 1 rfl) ?_
                      refine lv_iload hx hb dX11_takeColumn_312 (lv_at hl 0 rfl) ?_
                      refine lv_iadd hx hb dX11_takeColumn_314 ?_
                      refine k_topi (y := nI (k + bb_1)) (nI_add k bb_1) ?_
                      refine lv_istore (lv' := [(4, .int (nI (k + bb_1))), (5, .int (nI bb_1)), (3, .int (nI q)), (0, .ref h), (1, .int (nI c0)), (2, .int 1)]) hx hb dX11_takeColumn_315 hl (by decide) rfl (fun ls hl => ?_)
                      refine lv_goto (tgt := 146) hx hb dX11_takeColumn_317 (by decide) ?_
                      exact ih (k + bb_1) (upd iv2_ 18 1) av2 (a + 1 + 4) (by omega) (by omega) h16_2 (by omega) rfl (((hsI.tr hs1 (by decide)).tr hs2 (by decide)).up (k := 18) (by decide) _) (hsA.tr ha2 (by decide)) ((ha2 21 (by decide)).trans h21) (fun y => by
                        have hyp := hYp y
                        obtain ⟨E, b1, b2, b3, b4⟩ := hY y
                        obtain ⟨r1, r2, r3, r4_⟩ := rn_next hyp.1 b2 b1 (by have := hyp.2.2; omega)
                        have rM := rnM_le (th := th) (k := k) (by have := hyp.2.2; omega)
                        have hql := hyp.2.2
                        have hmr : bb_1 = rnM th k := by rw [hbb_1, hsA 3 (by decide), b3, r1]; exact Nat.mod_eq_of_lt (by omega)
                        refine ⟨E ++ ([(nI (rnM th k)).toInt8] ++ u4b (th.getD k 0)), ?_, ?_, ?_, fun i hi => ?_⟩
                        · rw [hmr]; exact rnM_bnd (by omega)
                        · rw [hmr]; exact r4_
                        · rw [b3, List.length_append, List.length_append, List.length_singleton, u4b_len]; omega
                        · rw [hfi2 i]
                          by_cases e : k ≤ i ∧ i < k + bb_1
                          · rw [if_pos e, hsA 3 (by decide), b3, r2]
                            have h9 := rnM_all (th := th) (k := k) (i := i - k) (by omega)
                            rw [show k + (i - k) = i by omega] at h9; exact h9.symm
                          · rw [if_neg e]; exact b4 i (by omega)) _ _ _ G (lv_sub hl [0, 2, 3, 4, 5] rfl)
              · refine lv_l2i (v := r_238.toInt32) hx hb dX11_takeColumn_241 rfl ?_
                refine lv_topi (fun x4_2 ex4_2 => ?_)
                refine lv_istore (lv' := [(6, .int x4_2), (5, .int (nI bb_1)), (4, .int (nI k)), (3, .int (nI q)), (0, .ref h), (1, .int (nI c0)), (2, .int 1)]) hx hb dX11_takeColumn_242 hl (by decide) rfl (fun ls hl => ?_)
                refine lv_aload_n hx hb dX11_takeColumn_244 rfl (lv_at hl 4 rfl) ?_
                refine lv_aload_n hx hb dX11_takeColumn_245 rfl (lv_at hl 4 rfl) ?_
                refine k_mgi (v := 0) C G 18 (by decide) mr_18 h18_2 fl_X11_175 rfl dX11_takeColumn_246 ?_
                refine lv_if_eq (tgt := 271) hx hb dX11_takeColumn_249 (by decide) (fun c_249 => ?_) (fun c_249 => ?_)
                · have n_249 := nb_eq (a := 0) (b := 0) c_249 (by omega) (by omega)
                  refine lv_iconst (v := 0) hx hb dX11_takeColumn_271 (by decide) ?_
                  refine k_mpi (v := 0) (ty := .boolean) C G 18 (by decide) mr_18 fl_X11_175 rfl rfl rfl rfl rfl dX11_takeColumn_272 (fun H locs (G : wd Z A s (mdW Z h ad (upd iv2_ 18 0) av) H locs) => ?_)
                  refine lv_iconst (v := 0) hx hb dX11_takeColumn_275 (by decide) ?_
                  refine k_topi (y := nI 0) (by rfl) ?_
                  refine lv_istore (lv' := [(7, .int (nI 0)), (6, .int x4_2), (5, .int (nI bb_1)), (4, .int (nI k)), (3, .int (nI q)), (0, .ref h), (1, .int (nI c0)), (2, .int 1)]) hx hb dX11_takeColumn_276 hl (by decide) rfl (fun ls hl => ?_)
                  refine lv_aload_n hx hb dX11_takeColumn_278 rfl (lv_at hl 5 rfl) ?_
                  refine k_mgi (v := 0) C G 18 (by decide) mr_18 rfl fl_X11_175 rfl dX11_takeColumn_279 ?_
                  refine lv_if_eq (tgt := 310) hx hb dX11_takeColumn_282 (by decide) (fun c_282 => ?_) (fun c_282 => ?_)
                  · have n_282 := nb_eq (a := 0) (b := 0) c_282 (by omega) (by omega)
                    refine lv_iload hx hb dX11_takeColumn_310 (lv_at hl 3 rfl) ?_
                    refine lv_iload hx hb dX11_takeColumn_312 (lv_at hl 2 rfl) ?_
                    refine lv_iadd hx hb dX11_takeColumn_314 ?_
                    refine k_topi (y := nI (k + bb_1)) (nI_add k bb_1) ?_
                    refine lv_istore (lv' := [(4, .int (nI (k + bb_1))), (7, .int (nI 0)), (6, .int x4_2), (5, .int (nI bb_1)), (3, .int (nI q)), (0, .ref h), (1, .int (nI c0)), (2, .int 1)]) hx hb dX11_takeColumn_315 hl (by decide) rfl (fun ls hl => ?_)
                    refine lv_goto (tgt := 146) hx hb dX11_takeColumn_317 (by decide) ?_
                    exact lp_tcZ C rfl (fun H locs ls G hl => kk (upd iv2_ 18 0) _ (a + 1 + 4) 0 h16_2 (by omega) rfl (Or.inl rfl) (((hsI.tr hs1 (by decide)).tr hs2 (by decide)).up (k := 18) (by decide) _) hsA h21 (fun y => by
                      have hyp := hYp y
                      obtain ⟨E, b1, b2, b3, b4⟩ := hY y
                      obtain ⟨r1, r2, r3, r4_⟩ := rn_next hyp.1 b2 b1 (by have := hyp.2.2; omega)
                      have rM := rnM_le (th := th) (k := k) (by have := hyp.2.2; omega)
                      have hql := hyp.2.2
                      exact absurd ⟨rfl, by have := hyp.2.1; omega⟩ hno_2) _ _ _ G hl) G (lv_sub hl [0, 4, 5, 6, 7] rfl)
                  · exact absurd c_282 (by decide)
                · exact absurd c_249 (by decide)
            · subst r_230_e
              refine lv_l2i (v := (0 : Int64).toInt32) hx hb dX11_takeColumn_233 rfl ?_
              refine k_topi (y := nI 0) (by decide) ?_
              refine lv_istore (lv' := [(5, .int (nI 0)), (4, .int (nI k)), (3, .int (nI q)), (0, .ref h), (1, .int (nI c0)), (2, .int 1)]) hx hb dX11_takeColumn_234 hl (by decide) rfl (fun ls hl => ?_)
              refine lv_aload_n hx hb dX11_takeColumn_236 rfl (lv_at hl 3 rfl) ?_
              refine lv_iconst (v := 4) hx hb dX11_takeColumn_237 (by decide) ?_
              refine kcM_l G (krV 1 rfl (As := [.int 4]) (rest := []) (ci := 12) (CC := RX11) (T := TX11) (N := 61) C G pmN (c_mt4 Z l h ad iv1_ av (a + 1) en 0 h16_1 h17_1 h18_1 (Or.inl rfl) (by omega) (by omega) _) (gdV ml_X11_213 im_X11_take se_X11_take ii_X11 co_X11_take) (by decide +kernel) ⟨Nat.le_of_ble_eq_true rfl, Nat.le_of_ble_eq_true rfl⟩ rfl 0 rfl hl rfl (Nat.le_of_ble_eq_true rfl) ⟨Nat.le_of_ble_eq_true rfl, Nat.le_of_ble_eq_true rfl⟩ dX11_takeColumn_238) (fun r_238_1 u H locs hu G => ?_)
              obtain ⟨iv3_, rfl, hs3, h16_3, hcs3⟩ := hu
              have h17_3 : iv3_ 17 = nI en := (hs3 17 (by decide)).trans h17_1
              rcases hcs3 with ⟨hg_3, _, _, _⟩ | ⟨hno_3, h18_3⟩
              · exact absurd hg_3 (by decide)
              · refine lv_l2i (v := r_238_1.toInt32) hx hb dX11_takeColumn_241 rfl ?_
                refine lv_topi (fun x4_3 ex4_3 => ?_)
                refine lv_istore (lv' := [(6, .int x4_3), (5, .int (nI 0)), (4, .int (nI k)), (3, .int (nI q)), (0, .ref h), (1, .int (nI c0)), (2, .int 1)]) hx hb dX11_takeColumn_242 hl (by decide) rfl (fun ls hl => ?_)
                refine lv_aload_n hx hb dX11_takeColumn_244 rfl (lv_at hl 4 rfl) ?_
                refine lv_aload_n hx hb dX11_takeColumn_245 rfl (lv_at hl 4 rfl) ?_
                refine k_mgi (v := 0) C G 18 (by decide) mr_18 h18_3 fl_X11_175 rfl dX11_takeColumn_246 ?_
                refine lv_if_eq (tgt := 271) hx hb dX11_takeColumn_249 (by decide) (fun c_249 => ?_) (fun c_249 => ?_)
                · have n_249 := nb_eq (a := 0) (b := 0) c_249 (by omega) (by omega)
                  refine lv_iconst (v := 0) hx hb dX11_takeColumn_271 (by decide) ?_
                  refine k_mpi (v := 0) (ty := .boolean) C G 18 (by decide) mr_18 fl_X11_175 rfl rfl rfl rfl rfl dX11_takeColumn_272 (fun H locs (G : wd Z A s (mdW Z h ad (upd iv3_ 18 0) av) H locs) => ?_)
                  refine lv_iconst (v := 0) hx hb dX11_takeColumn_275 (by decide) ?_
                  refine k_topi (y := nI 0) (by rfl) ?_
                  refine lv_istore (lv' := [(7, .int (nI 0)), (6, .int x4_3), (5, .int (nI 0)), (4, .int (nI k)), (3, .int (nI q)), (0, .ref h), (1, .int (nI c0)), (2, .int 1)]) hx hb dX11_takeColumn_276 hl (by decide) rfl (fun ls hl => ?_)
                  refine lv_aload_n hx hb dX11_takeColumn_278 rfl (lv_at hl 5 rfl) ?_
                  refine k_mgi (v := 0) C G 18 (by decide) mr_18 rfl fl_X11_175 rfl dX11_takeColumn_279 ?_
                  refine lv_if_eq (tgt := 310) hx hb dX11_takeColumn_282 (by decide) (fun c_282 => ?_) (fun c_282 => ?_)
                  · have n_282 := nb_eq (a := 0) (b := 0) c_282 (by omega) (by omega)
                    refine lv_iload hx hb dX11_takeColumn_310 (lv_at hl 3 rfl) ?_
                    refine lv_iload hx hb dX11_takeColumn_312 (lv_at hl 2 rfl) ?_
                    refine lv_iadd hx hb dX11_takeColumn_314 ?_
                    refine k_topi (y := nI (k)) (Int32.add_zero _) ?_
                    refine lv_istore (lv' := [(4, .int (nI k)), (7, .int (nI 0)), (6, .int x4_3), (5, .int (nI 0)), (3, .int (nI q)), (0, .ref h), (1, .int (nI c0)), (2, .int 1)]) hx hb dX11_takeColumn_315 hl (by decide) rfl (fun ls hl => ?_)
                    refine lv_goto (tgt := 146) hx hb dX11_takeColumn_317 (by decide) ?_
                    exact lp_tcZ C rfl (fun H locs ls G hl => kk (upd iv3_ 18 0) _ (a + 1 + 4) 0 h16_3 (by omega) rfl (Or.inl rfl) (((hsI.tr hs1 (by decide)).tr hs3 (by decide)).up (k := 18) (by decide) _) hsA h21 (fun y => by
                      have hyp := hYp y
                      obtain ⟨E, b1, b2, b3, b4⟩ := hY y
                      obtain ⟨r1, r2, r3, r4_⟩ := rn_next hyp.1 b2 b1 (by have := hyp.2.2; omega)
                      have rM := rnM_le (th := th) (k := k) (by have := hyp.2.2; omega)
                      have hql := hyp.2.2
                      exact absurd ⟨rfl, by have := hyp.2.1; omega⟩ hno_1) _ _ _ G hl) G (lv_sub hl [0, 4, 5, 6, 7] rfl)
                  · exact absurd c_282 (by decide)
                · exact absurd c_249 (by decide)
          · exact absurd c_184 (by decide)
        · exact absurd c_160 (by decide)
set_option maxRecDepth 100000 in
set_option maxHeartbeats 4000000 in
theorem lp_tcY {p : Program} {l : Launch} {e : Env} {s : State} {m : MethodId} {args : Array Value} {below : List Frame} {meth : Method} {c : Code} {Z : zT} {A : Nat → Prop} {Q : State → Prop} {h : Nat} {ad : Nat → Nat} {iv : ivT} {av : avT} {c0 : Nat} {kx rx : Int32} (C : cx p s m args meth c cX11_takeColumn 8 none RX11 "takeColumn") (h18 : iv 18 = 0) (kk : ∀ (H : Heap) (locs : List Loc) (ls : Array Slot), wd Z A s (mdW Z h ad iv av) H locs → lv_has ls 8 [(0, .ref h), (1, .int (nI c0))] → W p l e ({ frames := 2, cells := 0, slots := 0, locals := 80 }) s m args below meth c H locs 0 0 Q (F0 m 416 ls [])) {H : Heap} {locs : List Loc} {ls : Array Slot} (G : wd Z A s (mdW Z h ad iv av) H locs) (hl : lv_has ls 8 [(4, .int kx), (5, .int rx), (0, .ref h), (1, .int (nI c0))]) : W p l e ({ frames := 2, cells := 0, slots := 0, locals := 80 }) s m args below meth c H locs 0 0 Q (F0 m 326 ls []) := by
  have hx := C.1
  have hb := C.2.1
  have hown := C.2.2.2.2.2.1
  have hts := C.2.2.2.2.2.2.1
  refine lv_aload_n hx hb dX11_takeColumn_326 rfl (lv_at hl 2 rfl) ?_
  refine k_mgi (v := 0) C G 18 (by decide) mr_18 h18 fl_X11_175 rfl dX11_takeColumn_327 ?_
  refine lv_if_eq (tgt := 416) hx hb dX11_takeColumn_330 (by decide) (fun c_330 => ?_) (fun c_330 => ?_)
  · have n_330 := nb_eq (a := 0) (b := 0) c_330 (by omega) (by omega)
    exact kk _ _ _ G (lv_sub hl [2, 3] rfl)
  · exact absurd c_330 (by decide)
set_option maxRecDepth 100000 in
set_option maxHeartbeats 4000000 in
theorem lp_tcW {p : Program} {l : Launch} {e : Env} {s : State} {m : MethodId} {args : Array Value} {below : List Frame} {meth : Method} {c : Code} {Z : zT} {A : Nat → Prop} {Q : State → Prop} {h : Nat} {ad : Nat → Nat} {iv0 : ivT} {av0 : avT} {c0 N : Nat} {Y : Prop} {V TH : Nat → Int32} (C : cx p s m args meth c cX11_takeColumn 8 none RX11 "takeColumn") (h20 : iv0 20 = nI N) (hN : N ≤ 48) (hc : c0 < 3) (hTH : Y → ∀ i, i < (tf (col V c0 N)).length → TH i = (tf (col V c0 N)).getD i 0) (kk : ∀ (iv : ivT) (av : avT) (g : Int32), iv 18 = g → (g = 0 ∨ g = 1) → sI [18] iv0 iv → sA [21, 25] av0 av → (∀ j, j % 3 ≠ c0 → av 21 j = av0 21 j) → (Y → g = 1 ∧ ∀ j, j < N → av 21 (3 * j + c0) = V (48 * c0 + j)) → ∀ (H : Heap) (locs : List Loc) (ls : Array Slot), wd Z A s (mdW Z h ad iv av) H locs → lv_has ls 8 [(0, .ref h), (1, .int (nI c0))] → W p l e ({ frames := 2, cells := 0, slots := 0, locals := 80 }) s m args below meth c H locs 0 0 Q (F0 m 416 ls [])) : ∀ (n : Nat) (r k : Nat) (iv : ivT) (av : avT), r + n = N → k ≤ r → iv 18 = 1 → sI [18] iv0 iv → sA [21, 25] av0 av → (∀ j, j % 3 ≠ c0 → av 21 j = av0 21 j) → av 25 = TH → (Y → k = (tf (col V c0 r)).length ∧ (∀ j, j < r → av 21 (3 * j + c0) = V (48 * c0 + j)) ∧ ∀ j, r ≤ j → j < N → av 21 (3 * j + c0) = (if V (48 * c0 + j) = MIS then MIS else 0)) → ∀ (H : Heap) (locs : List Loc) (ls : Array Slot), wd Z A s (mdW Z h ad iv av) H locs → lv_has ls 8 [(4, .int (nI k)), (5, .int (nI r)), (0, .ref h), (1, .int (nI c0))] → W p l e ({ frames := 2, cells := 0, slots := 0, locals := 80 }) s m args below meth c H locs 0 0 Q (F0 m 326 ls []) := by
  have hx := C.1
  have hb := C.2.1
  have hown := C.2.2.2.2.2.1
  have hts := C.2.2.2.2.2.2.1
  intro n
  induction n with
  | zero =>
    intro r k iv av hr hkr h18 hsI hsA hT h25 hY H locs ls G hl
    have h20v : iv 20 = nI N := (hsI 20 (by decide)).trans h20
    refine lv_aload_n hx hb dX11_takeColumn_326 rfl (lv_at hl 2 rfl) ?_
    refine k_mgi (v := 1) C G 18 (by decide) mr_18 h18 fl_X11_175 rfl dX11_takeColumn_327 ?_
    refine lv_if_eq (tgt := 416) hx hb dX11_takeColumn_330 (by decide) (fun c_330 => ?_) (fun c_330 => ?_)
    · exact absurd c_330 (by decide)
    · have n_330 := nb_ne (a := 1) (b := 0) c_330 (by omega) (by omega)
      refine lv_iload hx hb dX11_takeColumn_333 (lv_at hl 1 rfl) ?_
      refine lv_aload_n hx hb dX11_takeColumn_335 rfl (lv_at hl 2 rfl) ?_
      refine k_mgi (v := nI N) C G 20 (by decide) mr_20 h20v fl_X11_196 rfl dX11_takeColumn_336 ?_
      refine lv_icmp_ge (tgt := 416) hx hb dX11_takeColumn_339 (by decide) (fun c_339 => ?_) (fun c_339 => ?_)
      · have n_339 := nb_le (a := N) (b := r) c_339 (by omega) (by omega)
        have hrN : r = N := by omega
        subst hrN
        exact kk iv av 1 h18 (Or.inr rfl) hsI hsA hT (fun y => ⟨rfl, (hY y).2.1⟩) _ _ _ G (lv_sub hl [2, 3] rfl)
      · exact absurd (nb_nle (a := N) (b := r) c_339 (by omega) (by omega)) (by omega)
  | succ n ih =>
    intro r k iv av hr hkr h18 hsI hsA hT h25 hY H locs ls G hl
    have h20v : iv 20 = nI N := (hsI 20 (by decide)).trans h20
    refine lv_aload_n hx hb dX11_takeColumn_326 rfl (lv_at hl 2 rfl) ?_
    refine k_mgi (v := 1) C G 18 (by decide) mr_18 h18 fl_X11_175 rfl dX11_takeColumn_327 ?_
    refine lv_if_eq (tgt := 416) hx hb dX11_takeColumn_330 (by decide) (fun c_330 => ?_) (fun c_330 => ?_)
    · exact absurd c_330 (by decide)
    · have n_330 := nb_ne (a := 1) (b := 0) c_330 (by omega) (by omega)
      refine lv_iload hx hb dX11_takeColumn_333 (lv_at hl 1 rfl) ?_
      refine lv_aload_n hx hb dX11_takeColumn_335 rfl (lv_at hl 2 rfl) ?_
      refine k_mgi (v := nI N) C G 20 (by decide) mr_20 h20v fl_X11_196 rfl dX11_takeColumn_336 ?_
      refine lv_icmp_ge (tgt := 416) hx hb dX11_takeColumn_339 (by decide) (fun c_339 => ?_) (fun c_339 => ?_)
      · exact absurd (nb_le (a := N) (b := r) c_339 (by omega) (by omega)) (by omega)
      · have n_339 := nb_nle (a := N) (b := r) c_339 (by omega) (by omega)
        refine lv_aload_n hx hb dX11_takeColumn_342 rfl (lv_at hl 2 rfl) ?_
        refine k_mga C G 21 (by decide) mr_21 fl_X11_34 rfl dX11_takeColumn_343 ?_
        refine lv_iconst (v := 3) hx hb dX11_takeColumn_346 (by decide) ?_
        refine lv_iload hx hb dX11_takeColumn_347 (lv_at hl 1 rfl) ?_
        refine lv_imul hx hb dX11_takeColumn_349 ?_
        refine k_topi (y := nI (3 * r)) (pk_mul 3 r) ?_
        refine lv_iload_n hx hb dX11_takeColumn_350 rfl (lv_at hl 3 rfl) ?_
        refine lv_iadd hx hb dX11_takeColumn_351 ?_
        refine k_topi (y := nI (3 * r + c0)) (nI_add (3 * r) c0) ?_
        refine k_mil (v := (av 21) (3 * r + c0)) (i := 3 * r + c0) C G 5 (k := 21) (n := 144) mp_21 (by decide) (by omega) rfl dX11_takeColumn_352 ?_
        refine lv_ldc (v := (-2147483648)) hx hb hown (hts _ kn_X11_206) dX11_takeColumn_353 ?_
        refine lv_icmp_ne (tgt := 361) hx hb dX11_takeColumn_355 (by decide) (fun c_355 => ?_) (fun c_355 => ?_)
        · refine lv_aload_n hx hb dX11_takeColumn_361 rfl (lv_at hl 2 rfl) ?_
          refine k_mga C G 21 (by decide) mr_21 fl_X11_34 rfl dX11_takeColumn_362 ?_
          refine lv_iconst (v := 3) hx hb dX11_takeColumn_365 (by decide) ?_
          refine lv_iload hx hb dX11_takeColumn_366 (lv_at hl 1 rfl) ?_
          refine lv_imul hx hb dX11_takeColumn_368 ?_
          refine k_topi (y := nI (3 * r)) (pk_mul 3 r) ?_
          refine lv_iload_n hx hb dX11_takeColumn_369 rfl (lv_at hl 3 rfl) ?_
          refine lv_iadd hx hb dX11_takeColumn_370 ?_
          refine k_topi (y := nI (3 * r + c0)) (nI_add (3 * r) c0) ?_
          refine lv_aload_n hx hb dX11_takeColumn_371 rfl (lv_at hl 2 rfl) ?_
          refine k_mga C G 25 (by decide) mr_25 fl_X11_47 rfl dX11_takeColumn_372 ?_
          refine lv_iload hx hb dX11_takeColumn_375 (lv_at hl 0 rfl) ?_
          refine k_mil (v := TH k) (i := k) C G 9 (k := 25) (n := 48) mp_25 (by decide) (by omega) (congrFun h25 k) dX11_takeColumn_377 ?_
          refine k_mis (x := TH k) (i := 3 * r + c0) C G 5 (k := 21) (n := 144) mp_21 (by decide) (by omega) dX11_takeColumn_378 (fun H locs (G : wd Z A s (mdW Z h ad iv (ua av 21 (upd (av 21) (3 * r + c0) (TH k)))) H locs) => ?_)
          refine lv_aload_n hx hb dX11_takeColumn_379 rfl (lv_at hl 2 rfl) ?_
          refine lv_aload_n hx hb dX11_takeColumn_380 rfl (lv_at hl 2 rfl) ?_
          refine k_mgi (v := 1) C G 18 (by decide) mr_18 h18 fl_X11_175 rfl dX11_takeColumn_381 ?_
          refine lv_if_eq (tgt := 403) hx hb dX11_takeColumn_384 (by decide) (fun c_384 => ?_) (fun c_384 => ?_)
          · exact absurd c_384 (by decide)
          · have n_384 := nb_ne (a := 1) (b := 0) c_384 (by omega) (by omega)
            refine lv_aload_n hx hb dX11_takeColumn_387 rfl (lv_at hl 2 rfl) ?_
            refine k_mga C G 25 (by decide) mr_25 fl_X11_47 rfl dX11_takeColumn_388 ?_
            refine lv_iload hx hb dX11_takeColumn_391 (lv_at hl 0 rfl) ?_
            refine k_mil (v := TH k) (i := k) C G 9 (k := 25) (n := 48) mp_25 (by decide) (by omega) (congrFun h25 k) dX11_takeColumn_393 ?_
            refine lv_ldc (v := (-2147483648)) hx hb hown (hts _ kn_X11_206) dX11_takeColumn_394 ?_
            refine lv_icmp_eq (tgt := 403) hx hb dX11_takeColumn_396 (by decide) (fun c_396 => ?_) (fun c_396 => ?_)
            · refine lv_iconst (v := 0) hx hb dX11_takeColumn_403 (by decide) ?_
              refine k_mpi (v := 0) (ty := .boolean) C G 18 (by decide) mr_18 fl_X11_175 rfl rfl rfl rfl rfl dX11_takeColumn_404 (fun H locs (G : wd Z A s (mdW Z h ad (upd iv 18 0) (ua av 21 (upd (av 21) (3 * r + c0) (TH k)))) H locs) => ?_)
              refine lv_iinc (v := nI (k + 1)) (lv' := [(4, .int (nI (k + 1))), (5, .int (nI r)), (0, .ref h), (1, .int (nI c0))]) hx hb dX11_takeColumn_407 hl (k := 0) rfl (nI_1 _) (by decide) rfl (fun ls hl => ?_)
              refine lv_iinc (v := nI (r + 1)) (lv' := [(5, .int (nI (r + 1))), (4, .int (nI (k + 1))), (0, .ref h), (1, .int (nI c0))]) hx hb dX11_takeColumn_410 hl (k := 1) rfl (nI_1 _) (by decide) rfl (fun ls hl => ?_)
              refine lv_goto (tgt := 326) hx hb dX11_takeColumn_413 (by decide) ?_
              exact lp_tcY C rfl (fun H locs ls G hl => kk _ _ 0 rfl (Or.inl rfl) (hsI.up (by decide) _) (hsA.up (k := 21) (by decide) _) (fun j hj => by
                show upd (av 21) (3 * r + c0) (TH k) j = _
                rw [pk_un (by omega)]; exact hT j hj) (fun y => by
                obtain ⟨y1, y2, y3⟩ := hY y
                have hm : ¬ V (48 * c0 + r) = MIS := fun e => by
                  have h9 := y3 r (Nat.le_refl _) (by omega)
                  rw [if_pos e] at h9; exact c_355 h9
                have hval : TH k = V (48 * c0 + r) := by
                  have h7 := tf_col_get (N := N) (show r < N by omega) hm
                  have h6 : k < (tf (col V c0 N)).length := by
                    have h5 := tf_mono (V := V) (c := c0) (r := r + 1) (N := N) (by omega)
                    rw [col_s, tf_y hm, List.length_append, List.length_singleton] at h5; omega
                  rw [hTH y k h6, y1]; exact h7
                exact absurd (hval.symm.trans c_396) hm) _ _ _ G hl) G (lv_sub hl [1, 0, 2, 3] rfl)
            · refine lv_iconst (v := 1) hx hb dX11_takeColumn_399 (by decide) ?_
              refine lv_goto (tgt := 404) hx hb dX11_takeColumn_400 (by decide) ?_
              refine k_mpi (v := 1) (ty := .boolean) C G 18 (by decide) mr_18 fl_X11_175 rfl rfl rfl rfl rfl dX11_takeColumn_404 (fun H locs (G : wd Z A s (mdW Z h ad (upd iv 18 1) (ua av 21 (upd (av 21) (3 * r + c0) (TH k)))) H locs) => ?_)
              refine lv_iinc (v := nI (k + 1)) (lv' := [(4, .int (nI (k + 1))), (5, .int (nI r)), (0, .ref h), (1, .int (nI c0))]) hx hb dX11_takeColumn_407 hl (k := 0) rfl (nI_1 _) (by decide) rfl (fun ls hl => ?_)
              refine lv_iinc (v := nI (r + 1)) (lv' := [(5, .int (nI (r + 1))), (4, .int (nI (k + 1))), (0, .ref h), (1, .int (nI c0))]) hx hb dX11_takeColumn_410 hl (k := 1) rfl (nI_1 _) (by decide) rfl (fun ls hl => ?_)
              refine lv_goto (tgt := 326) hx hb dX11_takeColumn_413 (by decide) ?_
              exact ih (r + 1) (k + 1) _ _ (by omega) (by omega) rfl (hsI.up (by decide) _) (hsA.up (k := 21) (by decide) _) (fun j hj => by
                show upd (av 21) (3 * r + c0) (TH k) j = _
                rw [pk_un (by omega)]; exact hT j hj) h25 (fun y => by
                obtain ⟨y1, y2, y3⟩ := hY y
                have hm : ¬ V (48 * c0 + r) = MIS := fun e => by
                  have h9 := y3 r (Nat.le_refl _) (by omega)
                  rw [if_pos e] at h9; exact c_355 h9
                have hval : TH k = V (48 * c0 + r) := by
                  have h7 := tf_col_get (N := N) (show r < N by omega) hm
                  have h6 : k < (tf (col V c0 N)).length := by
                    have h5 := tf_mono (V := V) (c := c0) (r := r + 1) (N := N) (by omega)
                    rw [col_s, tf_y hm, List.length_append, List.length_singleton] at h5; omega
                  rw [hTH y k h6, y1]; exact h7
                refine ⟨by rw [col_s, tf_y hm, List.length_append, ← y1]; rfl, fun j hj => ?_, fun j h1 h2 => ?_⟩
                · show upd (av 21) (3 * r + c0) (TH k) (3 * j + c0) = _
                  by_cases e : j = r
                  · subst e; rw [pk_us]; exact hval
                  · rw [pk_un (by omega)]; exact y2 j (by omega)
                · show upd (av 21) (3 * r + c0) (TH k) (3 * j + c0) = _
                  rw [pk_un (by omega)]; exact y3 j (by omega) h2) _ _ _ G (lv_sub hl [1, 0, 2, 3] rfl)
        · refine lv_goto (tgt := 410) hx hb dX11_takeColumn_358 (by decide) ?_
          refine lv_iinc (v := nI (r + 1)) (lv' := [(5, .int (nI (r + 1))), (4, .int (nI k)), (0, .ref h), (1, .int (nI c0))]) hx hb dX11_takeColumn_410 hl (k := 1) rfl (nI_1 _) (by decide) rfl (fun ls hl => ?_)
          refine lv_goto (tgt := 326) hx hb dX11_takeColumn_413 (by decide) ?_
          exact ih (r + 1) k iv av (by omega) (by omega) h18 hsI hsA hT h25 (fun y => by
            obtain ⟨y1, y2, y3⟩ := hY y
            have hm : V (48 * c0 + r) = MIS := by
              have h9 := y3 r (Nat.le_refl _) (by omega)
              rw [c_355] at h9
              by_cases e : V (48 * c0 + r) = MIS
              · exact e
              · rw [if_neg e] at h9; exact absurd h9 (by decide)
            refine ⟨by rw [col_s, tf_n hm]; exact y1, fun j hj => ?_, fun j h1 h2 => y3 j (by omega) h2⟩
            by_cases e : j = r
            · subst e; rw [c_355]; exact hm.symm
            · exact y2 j (by omega)) _ _ _ G (lv_sub hl [1, 0, 2, 3] rfl)
