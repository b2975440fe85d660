/-! MODEL (X11): does. -/
/-- the FILES in the reference's arrays -/
def flS (iv : ivT) (av : avT) (F : flT) : Prop := iv 30 = nI F.length ∧ fl_at (av 31) (av 32) F ∧ F.length ≤ 200 ∧ fl_so F ∧ ∀ q ∈ F, ¬ q.1 < 0
theorem inc_m1 {k : Nat} (h : 1 ≤ k) : nI k + Int32.ofInt (-1) = nI (k - 1) := by
  rw [show Int32.ofInt (-1) = -(nI 1) from by decide, ← Int32.sub_eq_add_neg]; exact pk_sub h
def apX (ka : Nat) (x pt : Int32) (F : flT) : Option flT := if ka = 2 then some (if fl_hB F x = true then fl_del F x else F) else if fl_hB F x = true then some F else if F.length = 200 then none else some (fl_ins F x pt)
theorem apX_A (f : Nat → Int32) (k : Nat) (F : flT) : apA f k F = apX (aK f k) (aN f k) (nI (aP f k)) F := rfl
theorem fl_nn {F : flT} (h : ∀ q ∈ F, ¬ q.1 < 0) {i : Nat} (hi : i < F.length) : ¬ (F.getD i (0, 0)).1 < 0 := by
  refine h _ ?_
  rw [List.getD_eq_getElem?_getD, List.getElem?_eq_getElem hi]; exact List.getElem_mem hi
theorem fl_del_nn {F : flT} {x : Int32} (h : ∀ q ∈ F, ¬ q.1 < 0) : ∀ q ∈ fl_del F x, ¬ q.1 < 0 := by
  intro q hq
  unfold fl_del at hq
  rcases List.mem_append.mp hq with h1 | h1
  · exact h q (List.mem_of_mem_take h1)
  · exact h q (List.mem_of_mem_drop h1)
theorem fl_ins_nn {F : flT} {x pt : Int32} (h : ∀ q ∈ F, ¬ q.1 < 0) (hx : ¬ x < 0) : ∀ q ∈ fl_ins F x pt, ¬ q.1 < 0 := by
  intro q hq
  unfold fl_ins at hq
  rcases List.mem_append.mp hq with h1 | h1
  · exact h q (List.mem_of_mem_take h1)
  · rcases List.mem_cons.mp h1 with h2 | h2
    · rw [h2]; exact hx
    · exact h q (List.mem_of_mem_drop h2)
set_option maxRecDepth 100000 in
set_option maxHeartbeats 4000000 in
theorem lp_md1 {p : Program} {l : Launch} {e : Env} {s : State} {m : MethodId} {args : Array Value} {below : List Frame} {meth : Method} {c : Code} {Z : zT} {A : Nat → Prop} {Q : State → Prop} {h : Nat} {ad : Nat → Nat} {iv : ivT} {av : avT} {F : flT} {i : Nat} {x : Int32} (C : cx p s m args meth c cX11_does 5 (some .boolean) RX11 "does") (hF : flS iv av F) (hi : i < 256) (h28 : av 28 i = x) (hx0 : ¬ x < 0) (kk : ∀ (p0 : Nat), plc F x = p0 → ∀ (H : Heap) (locs : List Loc) (ls : Array Slot), wd Z A s (mdW Z h ad iv av) H locs → lv_has ls 5 [(2, .int (nI p0)), (0, .ref h), (1, .int (nI i))] → W p l e ({ frames := 1, cells := 0, slots := 0, locals := 40 }) s m args below meth c H locs 0 0 Q (F0 m 34 ls [])) : ∀ (n p0 : Nat), p0 + n = F.length → (∀ j, j < p0 → (F.getD j (0, 0)).1 < x) → ∀ (H : Heap) (locs : List Loc) (ls : Array Slot), wd Z A s (mdW Z h ad iv av) H locs → lv_has ls 5 [(2, .int (nI p0)), (0, .ref h), (1, .int (nI i))] → W p l e ({ frames := 1, cells := 0, slots := 0, locals := 40 }) s m args below meth c H locs 0 0 Q (F0 m 2 ls []) := by
  have hx := C.1
  have hb := C.2.1
  have hown := C.2.2.2.2.2.1
  have hts := C.2.2.2.2.2.2.1
  have hfl := hF.2.2.1
  intro n
  induction n with
  | zero =>
    intro p0 hp0 hlo H locs ls G hl
    refine lv_iload_n hx hb dX11_does_2 rfl (lv_at hl 0 rfl) ?_
    refine lv_aload_n hx hb dX11_does_3 rfl (lv_at hl 1 rfl) ?_
    refine k_mgi (v := nI F.length) C G 30 (by decide) mr_30 hF.1 fl_X11_245 rfl dX11_does_4 ?_
    refine lv_icmp_ge (tgt := 34) hx hb dX11_does_7 (by decide) (fun c_7 => ?_) (fun c_7 => ?_)
    · have n_7 := nb_le (a := F.length) (b := p0) c_7 (by omega) (by omega)
      exact kk p0 (by rw [plc_eq F x p0 (by omega) hlo (fun z => absurd z (by omega))]) _ _ _ G (lv_sub hl [0, 1, 2] rfl)
    · exact absurd (nb_nle (a := F.length) (b := p0) c_7 (by omega) (by omega)) (by omega)
  | succ n ih =>
    intro p0 hp0 hlo H locs ls G hl
    refine lv_iload_n hx hb dX11_does_2 rfl (lv_at hl 0 rfl) ?_
    refine lv_aload_n hx hb dX11_does_3 rfl (lv_at hl 1 rfl) ?_
    refine k_mgi (v := nI F.length) C G 30 (by decide) mr_30 hF.1 fl_X11_245 rfl dX11_does_4 ?_
    refine lv_icmp_ge (tgt := 34) hx hb dX11_does_7 (by decide) (fun c_7 => ?_) (fun c_7 => ?_)
    · exact absurd (nb_le (a := F.length) (b := p0) c_7 (by omega) (by omega)) (by omega)
    · have n_7 := nb_nle (a := F.length) (b := p0) c_7 (by omega) (by omega)
      refine lv_aload_n hx hb dX11_does_10 rfl (lv_at hl 1 rfl) ?_
      refine k_mga C G 31 (by decide) mr_31 fl_X11_59 rfl dX11_does_11 ?_
      refine lv_iload_n hx hb dX11_does_14 rfl (lv_at hl 0 rfl) ?_
      refine k_mil (v := (F.getD p0 (0, 0)).1) (i := p0) C G 13 (k := 31) (n := 260) mp_31 (by decide) (by omega) ((hF.2.1 p0 (by omega)).1) dX11_does_15 ?_
      refine lv_aload_n hx hb dX11_does_16 rfl (lv_at hl 1 rfl) ?_
      refine k_mga C G 28 (by decide) mr_28 fl_X11_53 rfl dX11_does_17 ?_
      refine lv_iload_n hx hb dX11_does_20 rfl (lv_at hl 2 rfl) ?_
      refine k_mil (v := x) (i := i) C G 11 (k := 28) (n := 256) mp_28 (by decide) (by omega) h28 dX11_does_21 ?_
      refine kcM_i G (krS 2 rfl (As := [.int ((F.getD p0 (0, 0)).1), .int x]) (rest := []) C G pmN (c_X11_isBelow Z l h ad iv av (F.getD p0 (0, 0)).1 x _) (gdS ml_X11_239 sm_X11_isBelow ii_X11 co_X11_isBelow) (by decide +kernel) ⟨Nat.le_of_ble_eq_true rfl, Nat.le_of_ble_eq_true rfl⟩ hl rfl (Nat.le_of_ble_eq_true rfl) ⟨Nat.le_of_ble_eq_true rfl, Nat.le_of_ble_eq_true rfl⟩ dX11_does_22) (fun r_22 u H locs hu G => ?_)
      obtain ⟨r_22_e, rfl⟩ := hu
      by_cases hbe : (F.getD p0 (0, 0)).1 < x
      · rw [if_pos ((bel_iff (fl_nn hF.2.2.2.2 (show p0 < F.length by omega)) hx0).mpr hbe)] at r_22_e
        subst r_22_e
        refine lv_if_eq (tgt := 34) hx hb dX11_does_25 (by decide) (fun c_25 => ?_) (fun c_25 => ?_)
        · exact absurd c_25 (by decide)
        · have n_25 := nb_ne (a := 1) (b := 0) c_25 (by omega) (by omega)
          refine lv_iinc (v := nI (p0 + 1)) (lv' := [(2, .int (nI (p0 + 1))), (0, .ref h), (1, .int (nI i))]) hx hb dX11_does_28 hl (k := 0) rfl (nI_1 _) (by decide) rfl (fun ls hl => ?_)
          refine lv_goto (tgt := 2) hx hb dX11_does_31 (by decide) ?_
          exact ih (p0 + 1) (by omega) (fun j hj => by
            by_cases e : j = p0
            · subst e; exact hbe
            · exact hlo j (by omega)) _ _ _ G (lv_sub hl [0, 1, 2] rfl)
      · rw [if_neg (fun z => hbe ((bel_iff (fl_nn hF.2.2.2.2 (show p0 < F.length by omega)) hx0).mp z))] at r_22_e
        subst r_22_e
        refine lv_if_eq (tgt := 34) hx hb dX11_does_25 (by decide) (fun c_25 => ?_) (fun c_25 => ?_)
        · have n_25 := nb_eq (a := 0) (b := 0) c_25 (by omega) (by omega)
          exact kk p0 (by rw [plc_eq F x p0 (by omega) hlo (fun _ => hbe)]) _ _ _ G (lv_sub hl [0, 1, 2] rfl)
        · exact absurd c_25 (by decide)
set_option maxRecDepth 100000 in
set_option maxHeartbeats 4000000 in
theorem lp_md2 {p : Program} {l : Launch} {e : Env} {s : State} {m : MethodId} {args : Array Value} {below : List Frame} {meth : Method} {c : Code} {Z : zT} {A : Nat → Prop} {Q : State → Prop} {h : Nat} {ad : Nat → Nat} {iv : ivT} {av0 : avT} {p0 m0 i : Nat} (C : cx p s m args meth c cX11_does 5 (some .boolean) RX11 "does") (h30 : iv 30 = nI (m0 - 1)) (hm0 : m0 ≤ 200) (hpm : p0 < m0) (kk : ∀ (av : avT), sA [31, 32] av0 av → (∀ j, av 31 j = (if p0 ≤ j ∧ j < m0 - 1 then av0 31 (j + 1) else av0 31 j)) → (∀ j, av 32 j = (if p0 ≤ j ∧ j < m0 - 1 then av0 32 (j + 1) else av0 32 j)) → ∀ (H : Heap) (locs : List Loc) (ls : Array Slot), wd Z A s (mdW Z h ad iv av) H locs → lv_has ls 5 [(2, .int (nI p0)), (3, .int 1), (0, .ref h), (1, .int (nI i))] → W p l e ({ frames := 1, cells := 0, slots := 0, locals := 40 }) s m args below meth c H locs 0 0 Q (F0 m 137 ls [])) : ∀ (n : Nat) (k : Nat) (av : avT), k + n = m0 - 1 → p0 ≤ k → sA [31, 32] av0 av → (∀ j, av 31 j = (if p0 ≤ j ∧ j < k then av0 31 (j + 1) else av0 31 j)) → (∀ j, av 32 j = (if p0 ≤ j ∧ j < k then av0 32 (j + 1) else av0 32 j)) → ∀ (H : Heap) (locs : List Loc) (ls : Array Slot), wd Z A s (mdW Z h ad iv av) H locs → lv_has ls 5 [(4, .int (nI k)), (2, .int (nI p0)), (3, .int 1), (0, .ref h), (1, .int (nI i))] → W p l e ({ frames := 1, cells := 0, slots := 0, locals := 40 }) s m args below meth c H locs 0 0 Q (F0 m 90 ls []) := by
  have hx := C.1
  have hb := C.2.1
  have hown := C.2.2.2.2.2.1
  have hts := C.2.2.2.2.2.2.1
  intro n
  induction n with
  | zero =>
    intro k av hk hpk hsA h1 h2 H locs ls G hl
    refine lv_iload hx hb dX11_does_90 (lv_at hl 0 rfl) ?_
    refine lv_aload_n hx hb dX11_does_92 rfl (lv_at hl 3 rfl) ?_
    refine k_mgi (v := nI (m0 - 1)) C G 30 (by decide) mr_30 h30 fl_X11_245 rfl dX11_does_93 ?_
    refine lv_icmp_ge (tgt := 137) hx hb dX11_does_96 (by decide) (fun c_96 => ?_) (fun c_96 => ?_)
    · have n_96 := nb_le (a := m0 - 1) (b := k) c_96 (by omega) (by omega)
      have hkm : k = m0 - 1 := by omega
      subst hkm
      exact kk av hsA h1 h2 _ _ _ G (lv_sub hl [1, 2, 3, 4] rfl)
    · exact absurd (nb_nle (a := m0 - 1) (b := k) c_96 (by omega) (by omega)) (by omega)
  | succ n ih =>
    intro k av hk hpk hsA h1 h2 H locs ls G hl
    refine lv_iload hx hb dX11_does_90 (lv_at hl 0 rfl) ?_
    refine lv_aload_n hx hb dX11_does_92 rfl (lv_at hl 3 rfl) ?_
    refine k_mgi (v := nI (m0 - 1)) C G 30 (by decide) mr_30 h30 fl_X11_245 rfl dX11_does_93 ?_
    refine lv_icmp_ge (tgt := 137) hx hb dX11_does_96 (by decide) (fun c_96 => ?_) (fun c_96 => ?_)
    · exact absurd (nb_le (a := m0 - 1) (b := k) c_96 (by omega) (by omega)) (by omega)
    · have n_96 := nb_nle (a := m0 - 1) (b := k) c_96 (by omega) (by omega)
      refine lv_aload_n hx hb dX11_does_99 rfl (lv_at hl 3 rfl) ?_
      refine k_mga C G 31 (by decide) mr_31 fl_X11_59 rfl dX11_does_100 ?_
      refine lv_iload hx hb dX11_does_103 (lv_at hl 0 rfl) ?_
      refine lv_aload_n hx hb dX11_does_105 rfl (lv_at hl 3 rfl) ?_
      refine k_mga C G 31 (by decide) mr_31 fl_X11_59 rfl dX11_does_106 ?_
      refine lv_iload hx hb dX11_does_109 (lv_at hl 0 rfl) ?_
      refine lv_iconst (v := 1) hx hb dX11_does_111 (by decide) ?_
      refine lv_iadd hx hb dX11_does_112 ?_
      refine k_topi (y := nI (k + 1)) (nI_add k 1) ?_
      refine k_mil (v := av0 31 (k + 1)) (i := k + 1) C G 13 (k := 31) (n := 260) mp_31 (by decide) (by omega) (by rw [h1 (k + 1), if_neg (by omega)]) dX11_does_113 ?_
      refine k_mis (x := av0 31 (k + 1)) (i := k) C G 13 (k := 31) (n := 260) mp_31 (by decide) (by omega) dX11_does_114 (fun H locs (G : wd Z A s (mdW Z h ad iv (ua av 31 (upd (av 31) k (av0 31 (k + 1))))) H locs) => ?_)
      refine lv_aload_n hx hb dX11_does_115 rfl (lv_at hl 3 rfl) ?_
      refine k_mga C G 32 (by decide) mr_32 fl_X11_62 rfl dX11_does_116 ?_
      refine lv_iload hx hb dX11_does_119 (lv_at hl 0 rfl) ?_
      refine lv_aload_n hx hb dX11_does_121 rfl (lv_at hl 3 rfl) ?_
      refine k_mga C G 32 (by decide) mr_32 fl_X11_62 rfl dX11_does_122 ?_
      refine lv_iload hx hb dX11_does_125 (lv_at hl 0 rfl) ?_
      refine lv_iconst (v := 1) hx hb dX11_does_127 (by decide) ?_
      refine lv_iadd hx hb dX11_does_128 ?_
      refine k_topi (y := nI (k + 1)) (nI_add k 1) ?_
      refine k_mil (v := av0 32 (k + 1)) (i := k + 1) C G 14 (k := 32) (n := 260) mp_32 (by decide) (by omega) (by show av 32 (k + 1) = _; rw [h2 (k + 1), if_neg (by omega)]) dX11_does_129 ?_
      refine k_mis (x := av0 32 (k + 1)) (i := k) C G 14 (k := 32) (n := 260) mp_32 (by decide) (by omega) dX11_does_130 (fun H locs (G : wd Z A s (mdW Z h ad iv (ua (ua av 31 (upd (av 31) k (av0 31 (k + 1)))) 32 (upd (av 32) k (av0 32 (k + 1))))) H locs) => ?_)
      refine lv_iinc (v := nI (k + 1)) (lv' := [(4, .int (nI (k + 1))), (2, .int (nI p0)), (3, .int 1), (0, .ref h), (1, .int (nI i))]) hx hb dX11_does_131 hl (k := 0) rfl (nI_1 _) (by decide) rfl (fun ls hl => ?_)
      refine lv_goto (tgt := 90) hx hb dX11_does_134 (by decide) ?_
      exact ih (k + 1) _ (by omega) (by omega) ((hsA.up (by decide) _).up (by decide) _) (fun j => by
        show upd (av 31) k (av0 31 (k + 1)) j = _
        by_cases e : j = k
        · subst e; rw [pk_us, if_pos (by omega)]
        · rw [pk_un e, h1 j]
          by_cases e2 : p0 ≤ j ∧ j < k
          · rw [if_pos e2, if_pos (by omega)]
          · rw [if_neg e2, if_neg (by omega)]) (fun j => by
        show upd (av 32) k (av0 32 (k + 1)) j = _
        by_cases e : j = k
        · subst e; rw [pk_us, if_pos (by omega)]
        · rw [pk_un e, h2 j]
          by_cases e2 : p0 ≤ j ∧ j < k
          · rw [if_pos e2, if_pos (by omega)]
          · rw [if_neg e2, if_neg (by omega)]) _ _ _ G (lv_sub hl [0, 1, 2, 3, 4] rfl)
set_option maxRecDepth 100000 in
set_option maxHeartbeats 4000000 in
theorem lp_md3 {p : Program} {l : Launch} {e : Env} {s : State} {m : MethodId} {args : Array Value} {below : List Frame} {meth : Method} {c : Code} {Z : zT} {A : Nat → Prop} {Q : State → Prop} {h : Nat} {ad : Nat → Nat} {iv : ivT} {av0 : avT} {p0 m0 i : Nat} (C : cx p s m args meth c cX11_does 5 (some .boolean) RX11 "does") (hm0 : m0 ≤ 200) (kk : ∀ (av : avT), sA [31, 32] av0 av → (∀ j, av 31 j = (if p0 < j ∧ j ≤ m0 then av0 31 (j - 1) else av0 31 j)) → (∀ j, av 32 j = (if p0 < j ∧ j ≤ m0 then av0 32 (j - 1) else av0 32 j)) → ∀ (H : Heap) (locs : List Loc) (ls : Array Slot), wd Z A s (mdW Z h ad iv av) H locs → lv_has ls 5 [(2, .int (nI p0)), (0, .ref h), (1, .int (nI i))] → W p l e ({ frames := 1, cells := 0, slots := 0, locals := 40 }) s m args below meth c H locs 0 0 Q (F0 m 215 ls [])) : ∀ (n : Nat) (k : Nat) (av : avT), k = p0 + n → k ≤ m0 → sA [31, 32] av0 av → (∀ j, av 31 j = (if k < j ∧ j ≤ m0 then av0 31 (j - 1) else av0 31 j)) → (∀ j, av 32 j = (if k < j ∧ j ≤ m0 then av0 32 (j - 1) else av0 32 j)) → ∀ (H : Heap) (locs : List Loc) (ls : Array Slot), wd Z A s (mdW Z h ad iv av) H locs → lv_has ls 5 [(4, .int (nI k)), (2, .int (nI p0)), (0, .ref h), (1, .int (nI i))] → W p l e ({ frames := 1, cells := 0, slots := 0, locals := 40 }) s m args below meth c H locs 0 0 Q (F0 m 171 ls []) := by
  have hx := C.1
  have hb := C.2.1
  have hown := C.2.2.2.2.2.1
  have hts := C.2.2.2.2.2.2.1
  intro n
  induction n with
  | zero =>
    intro k av hk hkm hsA h1 h2 H locs ls G hl
    refine lv_iload hx hb dX11_does_171 (lv_at hl 0 rfl) ?_
    refine lv_iload_n hx hb dX11_does_173 rfl (lv_at hl 1 rfl) ?_
    refine lv_icmp_le (tgt := 215) hx hb dX11_does_174 (by decide) (fun c_174 => ?_) (fun c_174 => ?_)
    · have n_174 := nb_le (a := k) (b := p0) c_174 (by omega) (by omega)
      have hkm : k = p0 := by omega
      subst hkm
      exact kk av hsA h1 h2 _ _ _ G (lv_sub hl [1, 2, 3] rfl)
    · exact absurd (nb_nle (a := k) (b := p0) c_174 (by omega) (by omega)) (by omega)
  | succ n ih =>
    intro k av hk hkm hsA h1 h2 H locs ls G hl
    refine lv_iload hx hb dX11_does_171 (lv_at hl 0 rfl) ?_
    refine lv_iload_n hx hb dX11_does_173 rfl (lv_at hl 1 rfl) ?_
    refine lv_icmp_le (tgt := 215) hx hb dX11_does_174 (by decide) (fun c_174 => ?_) (fun c_174 => ?_)
    · exact absurd (nb_le (a := k) (b := p0) c_174 (by omega) (by omega)) (by omega)
    · have n_174 := nb_nle (a := k) (b := p0) c_174 (by omega) (by omega)
      refine lv_aload_n hx hb dX11_does_177 rfl (lv_at hl 2 rfl) ?_
      refine k_mga C G 31 (by decide) mr_31 fl_X11_59 rfl dX11_does_178 ?_
      refine lv_iload hx hb dX11_does_181 (lv_at hl 0 rfl) ?_
      refine lv_aload_n hx hb dX11_does_183 rfl (lv_at hl 2 rfl) ?_
      refine k_mga C G 31 (by decide) mr_31 fl_X11_59 rfl dX11_does_184 ?_
      refine lv_iload hx hb dX11_does_187 (lv_at hl 0 rfl) ?_
      refine lv_iconst (v := 1) hx hb dX11_does_189 (by decide) ?_
      refine lv_isub hx hb dX11_does_190 ?_
      refine k_topi (y := nI (k - 1)) (pk_sub (a := k) (b := 1) (by omega)) ?_
      refine k_mil (v := av0 31 (k - 1)) (i := k - 1) C G 13 (k := 31) (n := 260) mp_31 (by decide) (by omega) (by rw [h1 (k - 1), if_neg (by omega)]) dX11_does_191 ?_
      refine k_mis (x := av0 31 (k - 1)) (i := k) C G 13 (k := 31) (n := 260) mp_31 (by decide) (by omega) dX11_does_192 (fun H locs (G : wd Z A s (mdW Z h ad iv (ua av 31 (upd (av 31) k (av0 31 (k - 1))))) H locs) => ?_)
      refine lv_aload_n hx hb dX11_does_193 rfl (lv_at hl 2 rfl) ?_
      refine k_mga C G 32 (by decide) mr_32 fl_X11_62 rfl dX11_does_194 ?_
      refine lv_iload hx hb dX11_does_197 (lv_at hl 0 rfl) ?_
      refine lv_aload_n hx hb dX11_does_199 rfl (lv_at hl 2 rfl) ?_
      refine k_mga C G 32 (by decide) mr_32 fl_X11_62 rfl dX11_does_200 ?_
      refine lv_iload hx hb dX11_does_203 (lv_at hl 0 rfl) ?_
      refine lv_iconst (v := 1) hx hb dX11_does_205 (by decide) ?_
      refine lv_isub hx hb dX11_does_206 ?_
      refine k_topi (y := nI (k - 1)) (pk_sub (a := k) (b := 1) (by omega)) ?_
      refine k_mil (v := av0 32 (k - 1)) (i := k - 1) C G 14 (k := 32) (n := 260) mp_32 (by decide) (by omega) (by show av 32 (k - 1) = _; rw [h2 (k - 1), if_neg (by omega)]) dX11_does_207 ?_
      refine k_mis (x := av0 32 (k - 1)) (i := k) C G 14 (k := 32) (n := 260) mp_32 (by decide) (by omega) dX11_does_208 (fun H locs (G : wd Z A s (mdW Z h ad iv (ua (ua av 31 (upd (av 31) k (av0 31 (k - 1)))) 32 (upd (av 32) k (av0 32 (k - 1))))) H locs) => ?_)
      refine lv_iinc (v := nI (k - 1)) (lv' := [(4, .int (nI (k - 1))), (2, .int (nI p0)), (0, .ref h), (1, .int (nI i))]) hx hb dX11_does_209 hl (k := 0) rfl (inc_m1 (by omega)) (by decide) rfl (fun ls hl => ?_)
      refine lv_goto (tgt := 171) hx hb dX11_does_212 (by decide) ?_
      exact ih (k - 1) _ (by omega) (by omega) ((hsA.up (by decide) _).up (by decide) _) (fun j => by
        show upd (av 31) k (av0 31 (k - 1)) j = _
        by_cases e : j = k
        · subst e; rw [pk_us, if_pos (by omega)]
        · rw [pk_un e, h1 j]
          by_cases e2 : k < j ∧ j ≤ m0
          · rw [if_pos e2, if_pos (by omega)]
          · rw [if_neg e2, if_neg (by omega)]) (fun j => by
        show upd (av 32) k (av0 32 (k - 1)) j = _
        by_cases e : j = k
        · subst e; rw [pk_us, if_pos (by omega)]
        · rw [pk_un e, h2 j]
          by_cases e2 : k < j ∧ j ≤ m0
          · rw [if_pos e2, if_pos (by omega)]
          · rw [if_neg e2, if_neg (by omega)]) _ _ _ G (lv_sub hl [0, 1, 2, 3] rfl)
theorem del_if {a b : Int32} (p0 j m : Nat) (h : j < m) : (if p0 ≤ j ∧ j < m then a else b) = (if j < p0 then b else a) := by
  by_cases e : j < p0
  · rw [if_neg (by omega), if_pos e]
  · rw [if_pos (by omega), if_neg e]
theorem ins_if {f g : Nat → Int32} {p0 m : Nat} (x : Int32) (h : ∀ j, f j = (if p0 < j ∧ j ≤ m then g (j - 1) else g j)) (j : Nat) (hj : j ≤ m) : upd f p0 x j = (if j < p0 then g j else if j = p0 then x else g (j - 1)) := by
  by_cases e : j = p0
  · subst e; rw [pk_us, if_neg (Nat.lt_irrefl _), if_pos rfl]
  · rw [pk_un e, h j]
    by_cases e2 : j < p0
    · rw [if_neg (by omega), if_pos e2]
    · rw [if_pos (by omega), if_neg e2, if_neg e]
set_option maxRecDepth 100000 in
set_option maxHeartbeats 4000000 in
theorem c_X11_does (Z : zT) (l : Launch) (h : Nat) (ad : Nat → Nat) (iv : ivT) (av : avT) (F : flT) (i ka : Nat) (x pt : Int32) (hF : flS iv av F) (hi : i < 256) (h27 : av 27 i = nI ka) (hka : ka < 256) (h28 : av 28 i = x) (h29 : av 29 i = pt) (hx0 : ¬ x < 0) : Ki Z l yX11_does cX11_does 5 (some .boolean) ({ frames := 1, cells := 0, slots := 0, locals := 40 }) [.ref h, .int (nI i)] (mdW Z h ad iv av) (fun r u => ∃ (iv2 : ivT) (av2 : avT), u = mdW Z h ad iv2 av2 ∧ sI [30] iv iv2 ∧ sA [31, 32] av av2 ∧ ((r = 1 ∧ ∃ F2, apX ka x pt F = some F2 ∧ flS iv2 av2 F2) ∨ (r = 0 ∧ apX ka x pt F = none))) := by
  intro sz
  refine Met.ofK (cc := cX11_does) (maxL := 5) (ret := (some .boolean)) (by decide) (Nat.le_of_ble_eq_true rfl) ?_
  intro p e s m below meth c ls C G hl
  generalize va_A _ sz = A at G ⊢
  have hx := C.1
  have hb := C.2.1
  have hown := C.2.2.2.2.2.1
  have hts := C.2.2.2.2.2.2.1
  have hfl := hF.2.2.1
  refine lv_iconst (v := 0) hx hb dX11_does_0 (by decide) ?_
  refine k_topi (y := nI 0) (by rfl) ?_
  refine lv_istore_n (lv' := [(2, .int (nI 0)), (0, .ref h), (1, .int (nI i))]) hx hb dX11_does_1 rfl hl (by decide) rfl (fun ls hl => ?_)
  refine lp_md1 C hF hi h28 hx0 (fun p0 hpl H locs ls G hl => ?_) F.length 0 (by omega) (fun j hj => absurd hj (by omega)) _ _ _ G (lv_sub hl [0, 1, 2] rfl)
  have hple : p0 ≤ F.length := by rw [← hpl]; exact plc_le F x
  refine lv_iload_n hx hb dX11_does_34 rfl (lv_at hl 0 rfl) ?_
  refine lv_aload_n hx hb dX11_does_35 rfl (lv_at hl 1 rfl) ?_
  refine k_mgi (v := nI F.length) C G 30 (by decide) mr_30 hF.1 fl_X11_245 rfl dX11_does_36 ?_
  refine lv_icmp_ge (tgt := 61) hx hb dX11_does_39 (by decide) (fun c_39 => ?_) (fun c_39 => ?_)
  · have n_39 := nb_le (a := F.length) (b := p0) c_39 (by omega) (by omega)
    refine lv_iconst (v := 0) hx hb dX11_does_61 (by decide) ?_
    refine lv_istore_n (lv' := [(3, .int 0), (2, .int (nI p0)), (0, .ref h), (1, .int (nI i))]) hx hb dX11_does_62 rfl hl (by decide) rfl (fun ls hl => ?_)
    refine lv_aload_n hx hb dX11_does_63 rfl (lv_at hl 2 rfl) ?_
    refine k_mga C G 27 (by decide) mr_27 fl_X11_50 rfl dX11_does_64 ?_
    refine lv_iload_n hx hb dX11_does_67 rfl (lv_at hl 3 rfl) ?_
    refine k_mil (v := nI ka) (i := i) C G 10 (k := 27) (n := 256) mp_27 (by decide) (by omega) h27 dX11_does_68 ?_
    refine lv_iconst (v := 2) hx hb dX11_does_69 (by decide) ?_
    refine lv_icmp_ne (tgt := 137) hx hb dX11_does_70 (by decide) (fun c_70 => ?_) (fun c_70 => ?_)
    · have n_70 := nb_ne (a := ka) (b := 2) c_70 (by omega) (by omega)
      refine lv_aload_n hx hb dX11_does_137 rfl (lv_at hl 2 rfl) ?_
      refine k_mga C G 27 (by decide) mr_27 fl_X11_50 rfl dX11_does_138 ?_
      refine lv_iload_n hx hb dX11_does_141 rfl (lv_at hl 3 rfl) ?_
      refine k_mil (v := nI ka) (i := i) C G 10 (k := 27) (n := 256) mp_27 (by decide) (by omega) h27 dX11_does_142 ?_
      refine lv_iconst (v := 2) hx hb dX11_does_143 (by decide) ?_
      refine lv_icmp_eq (tgt := 151) hx hb dX11_does_144 (by decide) (fun c_144 => ?_) (fun c_144 => ?_)
      · exact absurd (nb_eq (a := ka) (b := 2) c_144 (by omega) (by omega)) (by omega)
      · have n_144 := nb_ne (a := ka) (b := 2) c_144 (by omega) (by omega)
        refine lv_iload_n hx hb dX11_does_147 rfl (lv_at hl 0 rfl) ?_
        refine lv_if_eq (tgt := 153) hx hb dX11_does_148 (by decide) (fun c_148 => ?_) (fun c_148 => ?_)
        · have n_148 := nb_eq (a := 0) (b := 0) c_148 (by omega) (by omega)
          refine lv_aload_n hx hb dX11_does_153 rfl (lv_at hl 2 rfl) ?_
          refine k_mgi (v := nI F.length) C G 30 (by decide) mr_30 hF.1 fl_X11_245 rfl dX11_does_154 ?_
          refine lv_sipush (v := 200) hx hb dX11_does_157 (by decide) ?_
          refine lv_icmp_ne (tgt := 165) hx hb dX11_does_160 (by decide) (fun c_160 => ?_) (fun c_160 => ?_)
          · have n_160 := nb_ne (a := F.length) (b := 200) c_160 (by omega) (by omega)
            refine lv_aload_n hx hb dX11_does_165 rfl (lv_at hl 2 rfl) ?_
            refine k_mgi (v := nI F.length) C G 30 (by decide) mr_30 hF.1 fl_X11_245 rfl dX11_does_166 ?_
            refine lv_istore (lv' := [(4, .int (nI F.length)), (3, .int 0), (2, .int (nI p0)), (0, .ref h), (1, .int (nI i))]) hx hb dX11_does_169 hl (by decide) rfl (fun ls hl => ?_)
            refine lp_md3 (iv := iv) (av0 := av) (m0 := F.length) (p0 := p0) C hfl (fun av2 ha2 e1 e2 H locs ls G hl => ?_) (F.length - p0) F.length av (by omega) (Nat.le_refl _) sA.rf (fun j => by rw [if_neg (by omega)]) (fun j => by rw [if_neg (by omega)]) _ _ _ G (lv_sub hl [0, 2, 3, 4] rfl)
            refine lv_aload_n hx hb dX11_does_215 rfl (lv_at hl 1 rfl) ?_
            refine k_mga C G 31 (by decide) mr_31 fl_X11_59 rfl dX11_does_216 ?_
            refine lv_iload_n hx hb dX11_does_219 rfl (lv_at hl 0 rfl) ?_
            refine lv_aload_n hx hb dX11_does_220 rfl (lv_at hl 1 rfl) ?_
            refine k_mga C G 28 (by decide) mr_28 fl_X11_53 rfl dX11_does_221 ?_
            refine lv_iload_n hx hb dX11_does_224 rfl (lv_at hl 2 rfl) ?_
            refine k_mil (v := x) (i := i) C G 11 (k := 28) (n := 256) mp_28 (by decide) (by omega) ((congrFun (ha2 28 (by decide)) i).trans h28) dX11_does_225 ?_
            refine k_mis (x := x) (i := p0) C G 13 (k := 31) (n := 260) mp_31 (by decide) (by omega) dX11_does_226 (fun H locs (G : wd Z A s (mdW Z h ad iv (ua av2 31 (upd (av2 31) p0 x))) H locs) => ?_)
            refine lv_aload_n hx hb dX11_does_227 rfl (lv_at hl 1 rfl) ?_
            refine k_mga C G 32 (by decide) mr_32 fl_X11_62 rfl dX11_does_228 ?_
            refine lv_iload_n hx hb dX11_does_231 rfl (lv_at hl 0 rfl) ?_
            refine lv_aload_n hx hb dX11_does_232 rfl (lv_at hl 1 rfl) ?_
            refine k_mga C G 29 (by decide) mr_29 fl_X11_56 rfl dX11_does_233 ?_
            refine lv_iload_n hx hb dX11_does_236 rfl (lv_at hl 2 rfl) ?_
            refine k_mil (v := pt) (i := i) C G 12 (k := 29) (n := 256) mp_29 (by decide) (by omega) ((congrFun (ha2 29 (by decide)) i).trans h29) dX11_does_237 ?_
            refine k_mis (x := pt) (i := p0) C G 14 (k := 32) (n := 260) mp_32 (by decide) (by omega) dX11_does_238 (fun H locs (G : wd Z A s (mdW Z h ad iv (ua (ua av2 31 (upd (av2 31) p0 x)) 32 (upd (av2 32) p0 pt))) H locs) => ?_)
            refine lv_aload_n hx hb dX11_does_239 rfl (lv_at hl 1 rfl) ?_
            refine lv_dup hx hb dX11_does_240 rfl ?_
            refine k_mgi (v := nI F.length) C G 30 (by decide) mr_30 hF.1 fl_X11_245 rfl dX11_does_241 ?_
            refine lv_iconst (v := 1) hx hb dX11_does_244 (by decide) ?_
            refine lv_iadd hx hb dX11_does_245 ?_
            refine k_topi (y := nI (F.length + 1)) (nI_add F.length 1) ?_
            refine k_mpi (v := nI (F.length + 1)) (ty := .int) C G 30 (by decide) mr_30 fl_X11_245 rfl rfl rfl rfl rfl dX11_does_246 (fun H locs (G : wd Z A s (mdW Z h ad (upd iv 30 (nI (F.length + 1))) (ua (ua av2 31 (upd (av2 31) p0 x)) 32 (upd (av2 32) p0 pt))) H locs) => ?_)
            refine lv_iconst (v := 1) hx hb dX11_does_249 (by decide) ?_
            exact kr_z C G (by decide) ⟨_, _, rfl, (sI.rf.up (by decide) _), (((ha2.up (by decide) _).up (by decide) _)), Or.inl ⟨rfl, fl_ins F x pt, by rw [apX, if_neg n_144, if_neg (fun z => absurd (fl_hB_iff.mp z).1 (by rw [hpl]; omega)), if_neg n_160], ⟨by rw [fl_ins_len]; rfl, fl_ins_at hF.2.1 (fun j hj => by show upd (av2 31) p0 x j = _; rw [hpl]; exact ins_if _ e1 j hj) (fun j hj => by show upd (av2 32) p0 pt j = _; rw [hpl]; exact ins_if _ e2 j hj), by rw [fl_ins_len]; omega, fl_so_ins hF.2.2.2.1 (fun z => (fun z => absurd (fl_hB_iff.mp z).1 (by rw [hpl]; omega)) (fl_hB_iff.mpr z)), fl_ins_nn hF.2.2.2.2 hx0⟩⟩⟩ (Nat.le_of_ble_eq_true rfl) (Nat.le_of_ble_eq_true rfl) dX11_does_250
          · have n_160 := nb_eq (a := F.length) (b := 200) c_160 (by omega) (by omega)
            refine lv_iconst (v := 0) hx hb dX11_does_163 (by decide) ?_
            exact kr_z C G (by decide) ⟨iv, av, rfl, sI.rf, sA.rf, Or.inr ⟨rfl, by rw [apX, if_neg n_144, if_neg (fun z => absurd (fl_hB_iff.mp z).1 (by rw [hpl]; omega)), if_pos n_160]⟩⟩ (Nat.le_of_ble_eq_true rfl) (Nat.le_of_ble_eq_true rfl) dX11_does_164
        · exact absurd c_148 (by decide)
    · have n_70 := nb_eq (a := ka) (b := 2) c_70 (by omega) (by omega)
      have hka2 : ka = 2 := n_70
      refine lv_iload_n hx hb dX11_does_73 rfl (lv_at hl 0 rfl) ?_
      refine lv_if_eq (tgt := 137) hx hb dX11_does_74 (by decide) (fun c_74 => ?_) (fun c_74 => ?_)
      · have n_74 := nb_eq (a := 0) (b := 0) c_74 (by omega) (by omega)
        refine lv_aload_n hx hb dX11_does_137 rfl (lv_at hl 2 rfl) ?_
        refine k_mga C G 27 (by decide) mr_27 fl_X11_50 rfl dX11_does_138 ?_
        refine lv_iload_n hx hb dX11_does_141 rfl (lv_at hl 3 rfl) ?_
        refine k_mil (v := nI ka) (i := i) C G 10 (k := 27) (n := 256) mp_27 (by decide) (by omega) h27 dX11_does_142 ?_
        refine lv_iconst (v := 2) hx hb dX11_does_143 (by decide) ?_
        refine lv_icmp_eq (tgt := 151) hx hb dX11_does_144 (by decide) (fun c_144 => ?_) (fun c_144 => ?_)
        · have n_144 := nb_eq (a := ka) (b := 2) c_144 (by omega) (by omega)
          refine lv_iconst (v := 1) hx hb dX11_does_151 (by decide) ?_
          exact kr_z C G (by decide) ⟨iv, av, rfl, sI.rf, sA.rf, Or.inl ⟨rfl, F, by rw [apX, if_pos n_144, if_neg (fun z => absurd (fl_hB_iff.mp z).1 (by rw [hpl]; omega))], hF⟩⟩ (Nat.le_of_ble_eq_true rfl) (Nat.le_of_ble_eq_true rfl) dX11_does_152
        · exact absurd (nb_ne (a := ka) (b := 2) c_144 (by omega) (by omega)) (by omega)
      · exact absurd c_74 (by decide)
  · have n_39 := nb_nle (a := F.length) (b := p0) c_39 (by omega) (by omega)
    refine lv_aload_n hx hb dX11_does_42 rfl (lv_at hl 1 rfl) ?_
    refine k_mga C G 31 (by decide) mr_31 fl_X11_59 rfl dX11_does_43 ?_
    refine lv_iload_n hx hb dX11_does_46 rfl (lv_at hl 0 rfl) ?_
    refine k_mil (v := (F.getD p0 (0, 0)).1) (i := p0) C G 13 (k := 31) (n := 260) mp_31 (by decide) (by omega) ((hF.2.1 p0 (by omega)).1) dX11_does_47 ?_
    refine lv_aload_n hx hb dX11_does_48 rfl (lv_at hl 1 rfl) ?_
    refine k_mga C G 28 (by decide) mr_28 fl_X11_53 rfl dX11_does_49 ?_
    refine lv_iload_n hx hb dX11_does_52 rfl (lv_at hl 2 rfl) ?_
    refine k_mil (v := x) (i := i) C G 11 (k := 28) (n := 256) mp_28 (by decide) (by omega) h28 dX11_does_53 ?_
    refine lv_icmp_ne (tgt := 61) hx hb dX11_does_54 (by decide) (fun c_54 => ?_) (fun c_54 => ?_)
    · refine lv_iconst (v := 0) hx hb dX11_does_61 (by decide) ?_
      refine lv_istore_n (lv' := [(3, .int 0), (2, .int (nI p0)), (0, .ref h), (1, .int (nI i))]) hx hb dX11_does_62 rfl hl (by decide) rfl (fun ls hl => ?_)
      refine lv_aload_n hx hb dX11_does_63 rfl (lv_at hl 2 rfl) ?_
      refine k_mga C G 27 (by decide) mr_27 fl_X11_50 rfl dX11_does_64 ?_
      refine lv_iload_n hx hb dX11_does_67 rfl (lv_at hl 3 rfl) ?_
      refine k_mil (v := nI ka) (i := i) C G 10 (k := 27) (n := 256) mp_27 (by decide) (by omega) h27 dX11_does_68 ?_
      refine lv_iconst (v := 2) hx hb dX11_does_69 (by decide) ?_
      refine lv_icmp_ne (tgt := 137) hx hb dX11_does_70 (by decide) (fun c_70 => ?_) (fun c_70 => ?_)
      · have n_70 := nb_ne (a := ka) (b := 2) c_70 (by omega) (by omega)
        refine lv_aload_n hx hb dX11_does_137 rfl (lv_at hl 2 rfl) ?_
        refine k_mga C G 27 (by decide) mr_27 fl_X11_50 rfl dX11_does_138 ?_
        refine lv_iload_n hx hb dX11_does_141 rfl (lv_at hl 3 rfl) ?_
        refine k_mil (v := nI ka) (i := i) C G 10 (k := 27) (n := 256) mp_27 (by decide) (by omega) h27 dX11_does_142 ?_
        refine lv_iconst (v := 2) hx hb dX11_does_143 (by decide) ?_
        refine lv_icmp_eq (tgt := 151) hx hb dX11_does_144 (by decide) (fun c_144 => ?_) (fun c_144 => ?_)
        · exact absurd (nb_eq (a := ka) (b := 2) c_144 (by omega) (by omega)) (by omega)
        · have n_144 := nb_ne (a := ka) (b := 2) c_144 (by omega) (by omega)
          refine lv_iload_n hx hb dX11_does_147 rfl (lv_at hl 0 rfl) ?_
          refine lv_if_eq (tgt := 153) hx hb dX11_does_148 (by decide) (fun c_148 => ?_) (fun c_148 => ?_)
          · have n_148 := nb_eq (a := 0) (b := 0) c_148 (by omega) (by omega)
            refine lv_aload_n hx hb dX11_does_153 rfl (lv_at hl 2 rfl) ?_
            refine k_mgi (v := nI F.length) C G 30 (by decide) mr_30 hF.1 fl_X11_245 rfl dX11_does_154 ?_
            refine lv_sipush (v := 200) hx hb dX11_does_157 (by decide) ?_
            refine lv_icmp_ne (tgt := 165) hx hb dX11_does_160 (by decide) (fun c_160 => ?_) (fun c_160 => ?_)
            · have n_160 := nb_ne (a := F.length) (b := 200) c_160 (by omega) (by omega)
              refine lv_aload_n hx hb dX11_does_165 rfl (lv_at hl 2 rfl) ?_
              refine k_mgi (v := nI F.length) C G 30 (by decide) mr_30 hF.1 fl_X11_245 rfl dX11_does_166 ?_
              refine lv_istore (lv' := [(4, .int (nI F.length)), (3, .int 0), (2, .int (nI p0)), (0, .ref h), (1, .int (nI i))]) hx hb dX11_does_169 hl (by decide) rfl (fun ls hl => ?_)
              refine lp_md3 (iv := iv) (av0 := av) (m0 := F.length) (p0 := p0) C hfl (fun av2 ha2 e1 e2 H locs ls G hl => ?_) (F.length - p0) F.length av (by omega) (Nat.le_refl _) sA.rf (fun j => by rw [if_neg (by omega)]) (fun j => by rw [if_neg (by omega)]) _ _ _ G (lv_sub hl [0, 2, 3, 4] rfl)
              refine lv_aload_n hx hb dX11_does_215 rfl (lv_at hl 1 rfl) ?_
              refine k_mga C G 31 (by decide) mr_31 fl_X11_59 rfl dX11_does_216 ?_
              refine lv_iload_n hx hb dX11_does_219 rfl (lv_at hl 0 rfl) ?_
              refine lv_aload_n hx hb dX11_does_220 rfl (lv_at hl 1 rfl) ?_
              refine k_mga C G 28 (by decide) mr_28 fl_X11_53 rfl dX11_does_221 ?_
              refine lv_iload_n hx hb dX11_does_224 rfl (lv_at hl 2 rfl) ?_
              refine k_mil (v := x) (i := i) C G 11 (k := 28) (n := 256) mp_28 (by decide) (by omega) ((congrFun (ha2 28 (by decide)) i).trans h28) dX11_does_225 ?_
              refine k_mis (x := x) (i := p0) C G 13 (k := 31) (n := 260) mp_31 (by decide) (by omega) dX11_does_226 (fun H locs (G : wd Z A s (mdW Z h ad iv (ua av2 31 (upd (av2 31) p0 x))) H locs) => ?_)
              refine lv_aload_n hx hb dX11_does_227 rfl (lv_at hl 1 rfl) ?_
              refine k_mga C G 32 (by decide) mr_32 fl_X11_62 rfl dX11_does_228 ?_
              refine lv_iload_n hx hb dX11_does_231 rfl (lv_at hl 0 rfl) ?_
              refine lv_aload_n hx hb dX11_does_232 rfl (lv_at hl 1 rfl) ?_
              refine k_mga C G 29 (by decide) mr_29 fl_X11_56 rfl dX11_does_233 ?_
              refine lv_iload_n hx hb dX11_does_236 rfl (lv_at hl 2 rfl) ?_
              refine k_mil (v := pt) (i := i) C G 12 (k := 29) (n := 256) mp_29 (by decide) (by omega) ((congrFun (ha2 29 (by decide)) i).trans h29) dX11_does_237 ?_
              refine k_mis (x := pt) (i := p0) C G 14 (k := 32) (n := 260) mp_32 (by decide) (by omega) dX11_does_238 (fun H locs (G : wd Z A s (mdW Z h ad iv (ua (ua av2 31 (upd (av2 31) p0 x)) 32 (upd (av2 32) p0 pt))) H locs) => ?_)
              refine lv_aload_n hx hb dX11_does_239 rfl (lv_at hl 1 rfl) ?_
              refine lv_dup hx hb dX11_does_240 rfl ?_
              refine k_mgi (v := nI F.length) C G 30 (by decide) mr_30 hF.1 fl_X11_245 rfl dX11_does_241 ?_
              refine lv_iconst (v := 1) hx hb dX11_does_244 (by decide) ?_
              refine lv_iadd hx hb dX11_does_245 ?_
              refine k_topi (y := nI (F.length + 1)) (nI_add F.length 1) ?_
              refine k_mpi (v := nI (F.length + 1)) (ty := .int) C G 30 (by decide) mr_30 fl_X11_245 rfl rfl rfl rfl rfl dX11_does_246 (fun H locs (G : wd Z A s (mdW Z h ad (upd iv 30 (nI (F.length + 1))) (ua (ua av2 31 (upd (av2 31) p0 x)) 32 (upd (av2 32) p0 pt))) H locs) => ?_)
              refine lv_iconst (v := 1) hx hb dX11_does_249 (by decide) ?_
              exact kr_z C G (by decide) ⟨_, _, rfl, (sI.rf.up (by decide) _), (((ha2.up (by decide) _).up (by decide) _)), Or.inl ⟨rfl, fl_ins F x pt, by rw [apX, if_neg n_144, if_neg (fun z => c_54 (by have h9 := (fl_hB_iff.mp z).2; rw [hpl] at h9; exact h9)), if_neg n_160], ⟨by rw [fl_ins_len]; rfl, fl_ins_at hF.2.1 (fun j hj => by show upd (av2 31) p0 x j = _; rw [hpl]; exact ins_if _ e1 j hj) (fun j hj => by show upd (av2 32) p0 pt j = _; rw [hpl]; exact ins_if _ e2 j hj), by rw [fl_ins_len]; omega, fl_so_ins hF.2.2.2.1 (fun z => (fun z => c_54 (by have h9 := (fl_hB_iff.mp z).2; rw [hpl] at h9; exact h9)) (fl_hB_iff.mpr z)), fl_ins_nn hF.2.2.2.2 hx0⟩⟩⟩ (Nat.le_of_ble_eq_true rfl) (Nat.le_of_ble_eq_true rfl) dX11_does_250
            · have n_160 := nb_eq (a := F.length) (b := 200) c_160 (by omega) (by omega)
              refine lv_iconst (v := 0) hx hb dX11_does_163 (by decide) ?_
              exact kr_z C G (by decide) ⟨iv, av, rfl, sI.rf, sA.rf, Or.inr ⟨rfl, by rw [apX, if_neg n_144, if_neg (fun z => c_54 (by have h9 := (fl_hB_iff.mp z).2; rw [hpl] at h9; exact h9)), if_pos n_160]⟩⟩ (Nat.le_of_ble_eq_true rfl) (Nat.le_of_ble_eq_true rfl) dX11_does_164
          · exact absurd c_148 (by decide)
      · have n_70 := nb_eq (a := ka) (b := 2) c_70 (by omega) (by omega)
        have hka2 : ka = 2 := n_70
        refine lv_iload_n hx hb dX11_does_73 rfl (lv_at hl 0 rfl) ?_
        refine lv_if_eq (tgt := 137) hx hb dX11_does_74 (by decide) (fun c_74 => ?_) (fun c_74 => ?_)
        · have n_74 := nb_eq (a := 0) (b := 0) c_74 (by omega) (by omega)
          refine lv_aload_n hx hb dX11_does_137 rfl (lv_at hl 2 rfl) ?_
          refine k_mga C G 27 (by decide) mr_27 fl_X11_50 rfl dX11_does_138 ?_
          refine lv_iload_n hx hb dX11_does_141 rfl (lv_at hl 3 rfl) ?_
          refine k_mil (v := nI ka) (i := i) C G 10 (k := 27) (n := 256) mp_27 (by decide) (by omega) h27 dX11_does_142 ?_
          refine lv_iconst (v := 2) hx hb dX11_does_143 (by decide) ?_
          refine lv_icmp_eq (tgt := 151) hx hb dX11_does_144 (by decide) (fun c_144 => ?_) (fun c_144 => ?_)
          · have n_144 := nb_eq (a := ka) (b := 2) c_144 (by omega) (by omega)
            refine lv_iconst (v := 1) hx hb dX11_does_151 (by decide) ?_
            exact kr_z C G (by decide) ⟨iv, av, rfl, sI.rf, sA.rf, Or.inl ⟨rfl, F, by rw [apX, if_pos n_144, if_neg (fun z => c_54 (by have h9 := (fl_hB_iff.mp z).2; rw [hpl] at h9; exact h9))], hF⟩⟩ (Nat.le_of_ble_eq_true rfl) (Nat.le_of_ble_eq_true rfl) dX11_does_152
          · exact absurd (nb_ne (a := ka) (b := 2) c_144 (by omega) (by omega)) (by omega)
        · exact absurd c_74 (by decide)
    · refine lv_iconst (v := 1) hx hb dX11_does_57 (by decide) ?_
      refine lv_goto (tgt := 62) hx hb dX11_does_58 (by decide) ?_
      refine lv_istore_n (lv' := [(3, .int 1), (2, .int (nI p0)), (0, .ref h), (1, .int (nI i))]) hx hb dX11_does_62 rfl hl (by decide) rfl (fun ls hl => ?_)
      refine lv_aload_n hx hb dX11_does_63 rfl (lv_at hl 2 rfl) ?_
      refine k_mga C G 27 (by decide) mr_27 fl_X11_50 rfl dX11_does_64 ?_
      refine lv_iload_n hx hb dX11_does_67 rfl (lv_at hl 3 rfl) ?_
      refine k_mil (v := nI ka) (i := i) C G 10 (k := 27) (n := 256) mp_27 (by decide) (by omega) h27 dX11_does_68 ?_
      refine lv_iconst (v := 2) hx hb dX11_does_69 (by decide) ?_
      refine lv_icmp_ne (tgt := 137) hx hb dX11_does_70 (by decide) (fun c_70 => ?_) (fun c_70 => ?_)
      · have n_70 := nb_ne (a := ka) (b := 2) c_70 (by omega) (by omega)
        refine lv_aload_n hx hb dX11_does_137 rfl (lv_at hl 2 rfl) ?_
        refine k_mga C G 27 (by decide) mr_27 fl_X11_50 rfl dX11_does_138 ?_
        refine lv_iload_n hx hb dX11_does_141 rfl (lv_at hl 3 rfl) ?_
        refine k_mil (v := nI ka) (i := i) C G 10 (k := 27) (n := 256) mp_27 (by decide) (by omega) h27 dX11_does_142 ?_
        refine lv_iconst (v := 2) hx hb dX11_does_143 (by decide) ?_
        refine lv_icmp_eq (tgt := 151) hx hb dX11_does_144 (by decide) (fun c_144 => ?_) (fun c_144 => ?_)
        · exact absurd (nb_eq (a := ka) (b := 2) c_144 (by omega) (by omega)) (by omega)
        · have n_144 := nb_ne (a := ka) (b := 2) c_144 (by omega) (by omega)
          refine lv_iload_n hx hb dX11_does_147 rfl (lv_at hl 0 rfl) ?_
          refine lv_if_eq (tgt := 153) hx hb dX11_does_148 (by decide) (fun c_148 => ?_) (fun c_148 => ?_)
          · exact absurd c_148 (by decide)
          · have n_148 := nb_ne (a := 1) (b := 0) c_148 (by omega) (by omega)
            refine lv_iconst (v := 1) hx hb dX11_does_151 (by decide) ?_
            exact kr_z C G (by decide) ⟨iv, av, rfl, sI.rf, sA.rf, Or.inl ⟨rfl, F, by rw [apX, if_neg n_144, if_pos (fl_hB_iff.mpr ⟨by rw [hpl]; omega, by rw [hpl]; exact c_54⟩)], hF⟩⟩ (Nat.le_of_ble_eq_true rfl) (Nat.le_of_ble_eq_true rfl) dX11_does_152
      · have n_70 := nb_eq (a := ka) (b := 2) c_70 (by omega) (by omega)
        have hka2 : ka = 2 := n_70
        refine lv_iload_n hx hb dX11_does_73 rfl (lv_at hl 0 rfl) ?_
        refine lv_if_eq (tgt := 137) hx hb dX11_does_74 (by decide) (fun c_74 => ?_) (fun c_74 => ?_)
        · exact absurd c_74 (by decide)
        · have n_74 := nb_ne (a := 1) (b := 0) c_74 (by omega) (by omega)
          refine lv_aload_n hx hb dX11_does_77 rfl (lv_at hl 2 rfl) ?_
          refine lv_dup hx hb dX11_does_78 rfl ?_
          refine k_mgi (v := nI F.length) C G 30 (by decide) mr_30 hF.1 fl_X11_245 rfl dX11_does_79 ?_
          refine lv_iconst (v := 1) hx hb dX11_does_82 (by decide) ?_
          refine lv_isub hx hb dX11_does_83 ?_
          refine k_topi (y := nI (F.length - 1)) (pk_sub (a := F.length) (b := 1) (by omega)) ?_
          refine k_mpi (v := nI (F.length - 1)) (ty := .int) C G 30 (by decide) mr_30 fl_X11_245 rfl rfl rfl rfl rfl dX11_does_84 (fun H locs (G : wd Z A s (mdW Z h ad (upd iv 30 (nI (F.length - 1))) av) H locs) => ?_)
          refine lv_iload_n hx hb dX11_does_87 rfl (lv_at hl 1 rfl) ?_
          refine lv_istore (lv' := [(4, .int (nI p0)), (3, .int 1), (2, .int (nI p0)), (0, .ref h), (1, .int (nI i))]) hx hb dX11_does_88 hl (by decide) rfl (fun ls hl => ?_)
          have hhas : fl_hB F x = true := fl_hB_iff.mpr ⟨by rw [hpl]; omega, by rw [hpl]; exact c_54⟩
          refine lp_md2 (iv := (upd iv 30 (nI (F.length - 1)))) (av0 := av) (m0 := F.length) (p0 := p0) C rfl hfl (by omega) (fun av2 ha2 e1 e2 H locs ls G hl => ?_) (F.length - 1 - p0) p0 av (by omega) (Nat.le_refl _) sA.rf (fun j => by rw [if_neg (by omega)]) (fun j => by rw [if_neg (by omega)]) _ _ _ G (lv_sub hl [0, 2, 1, 3, 4] rfl)
          refine lv_aload_n hx hb dX11_does_137 rfl (lv_at hl 2 rfl) ?_
          refine k_mga C G 27 (by decide) mr_27 fl_X11_50 rfl dX11_does_138 ?_
          refine lv_iload_n hx hb dX11_does_141 rfl (lv_at hl 3 rfl) ?_
          refine k_mil (v := nI ka) (i := i) C G 10 (k := 27) (n := 256) mp_27 (by decide) (by omega) ((congrFun (ha2 27 (by decide)) i).trans h27) dX11_does_142 ?_
          refine lv_iconst (v := 2) hx hb dX11_does_143 (by decide) ?_
          refine lv_icmp_eq (tgt := 151) hx hb dX11_does_144 (by decide) (fun c_144 => ?_) (fun c_144 => ?_)
          · have n_144 := nb_eq (a := ka) (b := 2) c_144 (by omega) (by omega)
            refine lv_iconst (v := 1) hx hb dX11_does_151 (by decide) ?_
            exact kr_z C G (by decide) ⟨(upd iv 30 (nI (F.length - 1))), av2, rfl, sI.rf.up (by decide) _, ha2, Or.inl ⟨rfl, fl_del F x, by rw [apX, if_pos hka2, if_pos hhas], ⟨by have h9 := fl_del_len (F := F) (x := x) (by rw [hpl]; omega); show nI (F.length - 1) = _; congr 1; omega, fl_del_at hF.2.1 (by rw [hpl]; omega) (fun j hj => by rw [e1 j, hpl]; exact del_if _ _ _ (by omega)) (fun j hj => by rw [e2 j, hpl]; exact del_if _ _ _ (by omega)), by have h9 := fl_del_len (F := F) (x := x) (by rw [hpl]; omega); omega, fl_so_del hF.2.2.2.1, fl_del_nn hF.2.2.2.2⟩⟩⟩ (Nat.le_of_ble_eq_true rfl) (Nat.le_of_ble_eq_true rfl) dX11_does_152
          · exact absurd (nb_ne (a := ka) (b := 2) c_144 (by omega) (by omega)) (by omega)
