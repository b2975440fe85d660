/-! MODEL (X11): takeColumn whole. -/
set_option maxRecDepth 100000 in
set_option maxHeartbeats 4000000 in
theorem lp_tc416 {p : Program} {l : Launch} {e : Env} {s : State} {m : MethodId} {args : Array Value} {below : List Frame} {meth : Method} {c : Code} {Z : zT} {A : Nat → Prop} {h : Nat} {ad : Nat → Nat} {iv0 : ivT} {av0 : avT} {c0 N a0 aE en : Nat} {Y : Prop} {V : Nat → Int32} {post : va_W → Prop} (C : cx p s m args meth c cX11_takeColumn 8 none RX11 "takeColumn") (hp : ∀ (iv2 : ivT) (av2 : avT) (a2 : Nat), sI [16, 18] iv0 iv2 → sA [21, 25] av0 av2 → iv2 16 = nI a2 → a2 ≤ a0 + 300 → (iv2 18 = 0 ∨ iv2 18 = 1) → (∀ j, j % 3 ≠ c0 → av2 21 j = av0 21 j) → (Y → iv2 18 = 1 ∧ a2 = aE + 8 ∧ ∀ j, j < N → av2 21 (3 * j + c0) = V (48 * c0 + j)) → post (mdW Z h ad iv2 av2)) (h17 : iv0 17 = nI en) (hen : en ≤ 140000) (ha0 : a0 ≤ 140000) {iv : ivT} {av : avT} {a : Nat} {g : Int32} (h16 : iv 16 = nI a) (ha : a ≤ a0 + 292) (h18 : iv 18 = g) (hg : g = 0 ∨ g = 1) (hsI : sI [16, 18] iv0 iv) (hsA : sA [21, 25] av0 av) (hT : (∀ j, j % 3 ≠ c0 → av 21 j = av0 21 j)) (hY : Y → g = 1 ∧ a = aE ∧ aE + 8 ≤ en ∧ ∀ j, j < N → av 21 (3 * j + c0) = V (48 * c0 + j)) {H : Heap} {locs : List Loc} {ls : Array Slot} (G : wd Z A s (mdW Z h ad iv av) H locs) (hl : lv_has ls 8 [(0, .ref h), (1, .int (nI c0))]) : W p l e ({ frames := 2, cells := 0, slots := 0, locals := 80 }) s m args below meth c H locs 0 0 (MQ below (va_Qv post (mB Z A) A) args s 0 0 A) (F0 m 416 ls []) := by
  have hx := C.1
  have hb := C.2.1
  have hown := C.2.2.2.2.2.1
  have hts := C.2.2.2.2.2.2.1
  refine lv_aload_n hx hb dX11_takeColumn_416 rfl (lv_at hl 0 rfl) ?_
  refine lv_bipush (v := 8) hx hb dX11_takeColumn_417 (by decide) ?_
  refine kcM_l G (krV 1 rfl (As := [.int 8]) (rest := []) (ci := 12) (CC := RX11) (T := TX11) (N := 61) C G pmN (c_mt8 Z l h ad iv av a en g h16 ((hsI 17 (by decide)).trans h17) h18 hg (by omega) hen _) (gdV ml_X11_213 im_X11_take se_X11_take ii_X11 co_X11_take) (by decide +kernel) ⟨Nat.le_of_ble_eq_true rfl, Nat.le_of_ble_eq_true rfl⟩ rfl 0 rfl hl rfl (Nat.le_of_ble_eq_true rfl) ⟨Nat.le_of_ble_eq_true rfl, Nat.le_of_ble_eq_true rfl⟩ dX11_takeColumn_419) (fun r_419 u H locs hu G => ?_)
  obtain ⟨iv3, rfl, hs3, h163, hcs3⟩ := hu
  refine lv_pop2_2 hx hb dX11_takeColumn_422 rfl ?_
  exact kr_v C G (hp iv3 av (a + 8) (hsI.tr hs3 (by decide)) hsA h163 (by omega) (by rcases hcs3 with ⟨_, _, z⟩ | ⟨_, z⟩; exact Or.inr z; exact Or.inl z) hT (fun y => by
    obtain ⟨y1, y2, y3, y4⟩ := hY y
    rcases hcs3 with ⟨_, _, z⟩ | ⟨z0, z⟩
    · exact ⟨z, by rw [y2], y4⟩
    · exact absurd ⟨y1, by omega⟩ z0)) (Nat.le_of_ble_eq_true rfl) (Nat.le_of_ble_eq_true rfl) dX11_takeColumn_423
set_option maxRecDepth 100000 in
set_option maxHeartbeats 4000000 in
theorem lp_tc320 {p : Program} {l : Launch} {e : Env} {s : State} {m : MethodId} {args : Array Value} {below : List Frame} {meth : Method} {c : Code} {Z : zT} {A : Nat → Prop} {h : Nat} {ad : Nat → Nat} {iv0 : ivT} {av0 : avT} {c0 N a0 aE en : Nat} {Y : Prop} {V : Nat → Int32} {post : va_W → Prop} (C : cx p s m args meth c cX11_takeColumn 8 none RX11 "takeColumn") (hp : ∀ (iv2 : ivT) (av2 : avT) (a2 : Nat), sI [16, 18] iv0 iv2 → sA [21, 25] av0 av2 → iv2 16 = nI a2 → a2 ≤ a0 + 300 → (iv2 18 = 0 ∨ iv2 18 = 1) → (∀ j, j % 3 ≠ c0 → av2 21 j = av0 21 j) → (Y → iv2 18 = 1 ∧ a2 = aE + 8 ∧ ∀ j, j < N → av2 21 (3 * j + c0) = V (48 * c0 + j)) → post (mdW Z h ad iv2 av2)) (h17 : iv0 17 = nI en) (h20 : iv0 20 = nI N) (hN : N ≤ 48) (hc : c0 < 3) (hen : en ≤ 140000) (ha0 : a0 ≤ 140000) {iv : ivT} {av : avT} {a q : Nat} {g qx wy : Int32} (h16 : iv 16 = nI a) (ha : a ≤ a0 + 292) (h18 : iv 18 = g) (hg : g = 0 ∨ g = 1) (hsI : sI [16, 18] iv0 iv) (hsA : sA [21, 25] av0 av) (hT : (∀ j, j % 3 ≠ c0 → av 21 j = av0 21 j)) (hY : Y → g = 1 ∧ a = aE ∧ aE + 8 ≤ en ∧ tcR V c0 N q (av 21) ∧ ∀ i, i < (tf (col V c0 N)).length → av 25 i = (tf (col V c0 N)).getD i 0) {H : Heap} {locs : List Loc} {ls : Array Slot} (G : wd Z A s (mdW Z h ad iv av) H locs) (hl : lv_has ls 8 [(3, .int qx), (0, .ref h), (1, .int (nI c0)), (2, .int wy)]) : W p l e ({ frames := 2, cells := 0, slots := 0, locals := 80 }) s m args below meth c H locs 0 0 (MQ below (va_Qv post (mB Z A) A) args s 0 0 A) (F0 m 320 ls []) := by
  have hx := C.1
  have hb := C.2.1
  have hown := C.2.2.2.2.2.1
  have hts := C.2.2.2.2.2.2.1
  refine lv_iconst (v := 0) hx hb dX11_takeColumn_320 (by decide) ?_
  refine k_topi (y := nI 0) (by rfl) ?_
  refine lv_istore (lv' := [(4, .int (nI 0)), (3, .int qx), (0, .ref h), (1, .int (nI c0)), (2, .int wy)]) hx hb dX11_takeColumn_321 hl (by decide) rfl (fun ls hl => ?_)
  refine lv_iconst (v := 0) hx hb dX11_takeColumn_323 (by decide) ?_
  refine k_topi (y := nI 0) (by rfl) ?_
  refine lv_istore (lv' := [(5, .int (nI 0)), (4, .int (nI 0)), (3, .int qx), (0, .ref h), (1, .int (nI c0)), (2, .int wy)]) hx hb dX11_takeColumn_324 hl (by decide) rfl (fun ls hl => ?_)
  rcases hg with hg0 | hg1
  · subst hg0
    exact lp_tcY C h18 (fun H locs ls G hl => lp_tc416 C hp h17 hen ha0 h16 ha h18 (Or.inl rfl) hsI hsA hT (fun y => absurd (hY y).1 (by decide)) G hl) G (lv_sub hl [1, 0, 3, 4] rfl)
  · subst hg1
    exact lp_tcW (iv0 := iv) (av0 := av) (Y := Y) (V := V) (TH := av 25) C ((hsI 20 (by decide)).trans h20) hN hc (fun y => (hY y).2.2.2.2) (fun iv5 av5 g5 b1 b2 b3 b4 b5 b6 H locs ls G hl => lp_tc416 C hp h17 hen ha0 ((b3 16 (by decide)).trans h16) ha b1 b2 (hsI.tr b3 (by decide)) (hsA.tr b4 (by decide)) (fun j hj => (b5 j hj).trans (hT j hj)) (fun y => ⟨(b6 y).1, (hY y).2.1, (hY y).2.2.1, (b6 y).2⟩) G hl) N 0 0 iv av (by omega) (by omega) h18 sI.rf sA.rf (fun _ _ => rfl) rfl (fun y => ⟨rfl, fun j hj => absurd hj (by omega), fun j _ h2 => (hY y).2.2.2.1.1 j h2⟩) _ _ _ G (lv_sub hl [1, 0, 3, 4] rfl)
set_option maxRecDepth 100000 in
set_option maxHeartbeats 4000000 in
theorem lp_tc122 {p : Program} {l : Launch} {e : Env} {s : State} {m : MethodId} {args : Array Value} {below : List Frame} {meth : Method} {c : Code} {Z : zT} {A : Nat → Prop} {h : Nat} {ad : Nat → Nat} {iv0 : ivT} {av0 : avT} {c0 N a0 aE en : Nat} {Y : Prop} {V : Nat → Int32} {post : va_W → Prop} {a1 bb : Nat} (C : cx p s m args meth c cX11_takeColumn 8 none RX11 "takeColumn") (hp : ∀ (iv2 : ivT) (av2 : avT) (a2 : Nat), sI [16, 18] iv0 iv2 → sA [21, 25] av0 av2 → iv2 16 = nI a2 → a2 ≤ a0 + 300 → (iv2 18 = 0 ∨ iv2 18 = 1) → (∀ j, j % 3 ≠ c0 → av2 21 j = av0 21 j) → (Y → iv2 18 = 1 ∧ a2 = aE + 8 ∧ ∀ j, j < N → av2 21 (3 * j + c0) = V (48 * c0 + j)) → post (mdW Z h ad iv2 av2)) (hf0 : ∀ i, fits .byte (.int (av0 3 i)) = true) (h17 : iv0 17 = nI en) (h20 : iv0 20 = nI N) (hN : N ≤ 48) (hc : c0 < 3) (hen : en ≤ 140000) (ha0 : a0 ≤ 140000) (ha1 : a1 = a0 + 1) (hbb : bb < 256) (hYw : Y → bb ≤ 2 ∧ bb = swW (col V c0 N) ∧ aE + 8 ≤ en) (hYp : Y → bat (av0 3) (a1 + (N + 7) / 8) (pay V c0 N) ∧ a1 + (N + 7) / 8 + (pay V c0 N).length = aE ∧ True) {iv : ivT} {av : avT} {q : Nat} {g : Int32} (h16 : iv 16 = nI (a1 + (N + 7) / 8)) (h18 : iv 18 = g) (hg : g = 0 ∨ g = 1) (hq : q ≤ N) (hsI : sI [16, 18] iv0 iv) (hsA : sA [21, 25] av0 av) (hT : (∀ j, j % 3 ≠ c0 → av 21 j = av0 21 j)) (hY : Y → g = 1 ∧ tcR V c0 N q (av 21)) {H : Heap} {locs : List Loc} {ls : Array Slot} (G : wd Z A s (mdW Z h ad iv av) H locs) (hl : lv_has ls 8 [(3, .int (nI q)), (0, .ref h), (1, .int (nI c0)), (2, .int (nI bb))]) : W p l e ({ frames := 2, cells := 0, slots := 0, locals := 80 }) s m args below meth c H locs 0 0 (MQ below (va_Qv post (mB Z A) A) args s 0 0 A) (F0 m 122 ls []) := by
  have hx := C.1
  have hb := C.2.1
  have hown := C.2.2.2.2.2.1
  have hts := C.2.2.2.2.2.2.1
  refine lv_iconst (v := 0) hx hb dX11_takeColumn_122 (by decide) ?_
  refine k_topi (y := nI 0) (by rfl) ?_
  refine lv_istore (lv' := [(4, .int (nI 0)), (3, .int (nI q)), (0, .ref h), (1, .int (nI c0)), (2, .int (nI bb))]) hx hb dX11_takeColumn_123 hl (by decide) rfl (fun ls hl => ?_)
  refine lv_aload_n hx hb dX11_takeColumn_125 rfl (lv_at hl 2 rfl) ?_
  refine lv_aload_n hx hb dX11_takeColumn_126 rfl (lv_at hl 2 rfl) ?_
  refine k_mgi (v := g) C G 18 (by decide) mr_18 h18 fl_X11_175 rfl dX11_takeColumn_127 ?_
  refine lv_if_eq (tgt := 142) hx hb dX11_takeColumn_130 (by decide) (fun c_130 => ?_) (fun c_130 => ?_)
  · refine lv_iconst (v := 0) hx hb dX11_takeColumn_142 (by decide) ?_
    refine k_mpi (v := 0) (ty := .boolean) C G 18 (by decide) mr_18 fl_X11_175 rfl rfl rfl rfl rfl dX11_takeColumn_143 (fun H locs (G : wd Z A s (mdW Z h ad (upd iv 18 0) av) H locs) => ?_)
    exact lp_tcZ C rfl (fun H locs ls G hl => lp_tc320 (q := q) C hp h17 h20 hN hc hen ha0 (iv := (upd iv 18 0)) h16 (by omega) rfl (Or.inl rfl) (hsI.up (by decide) _) hsA hT (fun y => absurd ((hY y).1.symm.trans c_130) (by decide)) G hl) G (lv_sub hl [0, 1, 2, 3, 4] rfl)
  · refine lv_iload_n hx hb dX11_takeColumn_133 rfl (lv_at hl 4 rfl) ?_
    refine lv_iconst (v := 3) hx hb dX11_takeColumn_134 (by decide) ?_
    refine lv_icmp_ge (tgt := 142) hx hb dX11_takeColumn_135 (by decide) (fun c_135 => ?_) (fun c_135 => ?_)
    · have n_135 := nb_le (a := 3) (b := bb) c_135 (by omega) (by omega)
      refine lv_iconst (v := 0) hx hb dX11_takeColumn_142 (by decide) ?_
      refine k_mpi (v := 0) (ty := .boolean) C G 18 (by decide) mr_18 fl_X11_175 rfl rfl rfl rfl rfl dX11_takeColumn_143 (fun H locs (G : wd Z A s (mdW Z h ad (upd iv 18 0) av) H locs) => ?_)
      exact lp_tcZ C rfl (fun H locs ls G hl => lp_tc320 (q := q) C hp h17 h20 hN hc hen ha0 (iv := (upd iv 18 0)) h16 (by omega) rfl (Or.inl rfl) (hsI.up (by decide) _) hsA hT (fun y => absurd (hYw y).1 (by omega)) G hl) G (lv_sub hl [0, 1, 2, 3, 4] rfl)
    · have n_135 := nb_nle (a := 3) (b := bb) c_135 (by omega) (by omega)
      refine lv_iconst (v := 1) hx hb dX11_takeColumn_138 (by decide) ?_
      refine lv_goto (tgt := 143) hx hb dX11_takeColumn_139 (by decide) ?_
      refine k_mpi (v := 1) (ty := .boolean) C G 18 (by decide) mr_18 fl_X11_175 rfl rfl rfl rfl rfl dX11_takeColumn_143 (fun H locs (G : wd Z A s (mdW Z h ad (upd iv 18 1) av) H locs) => ?_)
      have hth : Y → q = (tf (col V c0 N)).length := fun y => (hY y).2.2
      rcases (show bb = 0 ∨ bb = 1 ∨ bb = 2 by omega) with h9 | h9 | h9
      · subst h9
        have hpay : Y → pay V c0 N = (obF 0 (tf (col V c0 N))).1 := fun y => by unfold pay; rw [← (hYw y).2.1, if_neg (by decide), tf_ob]; rfl
        have hPLE : Y → a1 + (N + 7) / 8 + (obF 0 (tf (col V c0 N))).1.length = aE := fun y => by rw [← hpay y]; exact (hYp y).2.1
        have hnx : Y → ∀ k, k < q → _ := fun y k hk => ob_next 0 (th := tf (col V c0 N)) (fun v hv => tf_mem hv) (by rw [← hpay y]; exact (hYp y).1) (show k < (tf (col V c0 N)).length by rw [← hth y]; exact hk)
        exact lp_tcV0 (iv0 := (upd iv 18 1)) (av0 := av) (aP := a1 + (N + 7) / 8) (PL := (obF 0 (tf (col V c0 N))).1.length) (Y := Y) (th := tf (col V c0 N)) C ((hsI 17 (by decide)).trans h17) hen (by omega) (by omega) (fun y => by rw [hth y, List.take_length]) (fun y k hk => by
          obtain ⟨n1, n2, n3⟩ := hnx y k hk
          rw [if_pos rfl] at n1 n2
          rw [u4b_len] at n2
          refine ⟨by rw [hsA 3 (by decide)]; exact r4_u4 n1, ?_, n2⟩
          have e1 := (hYw y).2.2
          have e2 := hPLE y
          omega) (fun iv5 av5 a5 g5 b1 b2 b3 b4 b5 b6 b7 b8 H locs ls G hl => lp_tc320 (q := q) C hp h17 h20 hN hc hen ha0 (iv := iv5) (av := av5) b1 (by omega) b3 b4 ((hsI.up (k := 18) (by decide) _).tr b5 (by decide)) (hsA.tr b6 (by decide)) (fun j hj => by rw [b7]; exact hT j hj) (fun y => ⟨(b8 y).1, (b8 y).2.1.trans (hPLE y), (hYw y).2.2, by rw [b7]; exact (hY y).2, fun i hi => (b8 y).2.2 i (by rw [hth y]; exact hi)⟩) G hl) q 0 (upd iv 18 1) av (a1 + (N + 7) / 8) (by omega) h16 (by omega) rfl sI.rf sA.rf rfl (fun y => ⟨rfl, fun i hi => absurd hi (by omega)⟩) _ _ _ G (lv_sub hl [0, 1, 2, 3, 4] rfl)
      · subst h9
        have hpay : Y → pay V c0 N = emR none (tf (col V c0 N)) := fun y => by unfold pay; rw [← (hYw y).2.1, if_pos rfl, ← emR_B (fun v hv => tf_mem hv)]; unfold rnB; rw [tf_rn]
        have hPLE : Y → a1 + (N + 7) / 8 + (emR none (tf (col V c0 N))).length = aE := fun y => by rw [← hpay y]; exact (hYp y).2.1
        exact lp_tcV1 (iv0 := (upd iv 18 1)) (av0 := av) (aP := a1 + (N + 7) / 8) (Y := Y) (th := tf (col V c0 N)) C ((hsI 17 (by decide)).trans h17) hen (by omega) (by omega) (fun y => ⟨by rw [hsA 3 (by decide), ← hpay y]; exact (hYp y).1, by have e1 := (hYw y).2.2; have e2 := hPLE y; omega, hth y⟩) (fun iv5 av5 a5 g5 b1 b2 b3 b4 b5 b6 b7 b8 H locs ls G hl => lp_tc320 (q := q) C hp h17 h20 hN hc hen ha0 (iv := iv5) (av := av5) b1 (by omega) b3 b4 ((hsI.up (k := 18) (by decide) _).tr b5 (by decide)) (hsA.tr b6 (by decide)) (fun j hj => by rw [b7]; exact hT j hj) (fun y => ⟨(b8 y).1, (b8 y).2.1.trans (hPLE y), (hYw y).2.2, by rw [b7]; exact (hY y).2, fun i hi => (b8 y).2.2 i (by rw [hth y]; exact hi)⟩) G hl) q 0 (upd iv 18 1) av (a1 + (N + 7) / 8) (by omega) (by omega) h16 (by omega) rfl sI.rf sA.rf rfl (fun y => ⟨[], Or.inl rfl, rfl, rfl, fun i hi => absurd hi (by omega)⟩) _ _ _ G (lv_sub hl [0, 1, 2, 3, 4] rfl)
      · subst h9
        have hpay : Y → pay V c0 N = (obF 2 (tf (col V c0 N))).1 := fun y => by unfold pay; rw [← (hYw y).2.1, if_neg (by decide), tf_ob]; rfl
        have hPLE : Y → a1 + (N + 7) / 8 + (obF 2 (tf (col V c0 N))).1.length = aE := fun y => by rw [← hpay y]; exact (hYp y).2.1
        have hnx : Y → ∀ k, k < q → _ := fun y k hk => ob_next 2 (th := tf (col V c0 N)) (fun v hv => tf_mem hv) (by rw [← hpay y]; exact (hYp y).1) (show k < (tf (col V c0 N)).length by rw [← hth y]; exact hk)
        exact lp_tcV2 (iv0 := (upd iv 18 1)) (av0 := av) (aP := a1 + (N + 7) / 8) (PL := (obF 2 (tf (col V c0 N))).1.length) (Y := Y) (th := tf (col V c0 N)) C ((hsI 17 (by decide)).trans h17) hen (by omega) (by omega) (by rw [hsA 3 (by decide)]; exact hf0) (fun y => by rw [hth y, List.take_length]) (fun y k hk => by
          obtain ⟨n1, n2, n3⟩ := hnx y k hk
          rw [if_neg (by decide)] at n1 n2
          have e1 := (hYw y).2.2
          have e2 := hPLE y
          rw [hsA 3 (by decide), rdV_vb hf0 n1 (by omega), n2, Nat.add_assoc]) (fun iv5 av5 a5 g5 b1 b2 b3 b4 b5 b6 b7 b8 H locs ls G hl => lp_tc320 (q := q) C hp h17 h20 hN hc hen ha0 (iv := iv5) (av := av5) b1 (by omega) b3 b4 ((hsI.up (k := 18) (by decide) _).tr b5 (by decide)) (hsA.tr b6 (by decide)) (fun j hj => by rw [b7]; exact hT j hj) (fun y => ⟨(b8 y).1, (b8 y).2.1.trans (hPLE y), (hYw y).2.2, by rw [b7]; exact (hY y).2, fun i hi => (b8 y).2.2 i (by rw [hth y]; exact hi)⟩) G hl) q 0 (upd iv 18 1) av (a1 + (N + 7) / 8) (by omega) h16 (by omega) rfl sI.rf sA.rf rfl (fun y => ⟨rfl, fun i hi => absurd hi (by omega)⟩) _ _ _ G (lv_sub hl [0, 1, 2, 3, 4] rfl)
theorem swW_le (l : List Int32) : swW l ≤ 2 := by
  unfold swW
  split
  · exact Nat.le_refl _
  · split
    · omega
    · omega
set_option maxRecDepth 100000 in
set_option maxHeartbeats 4000000 in
theorem c_X11_takeColumn (Z : zT) (l : Launch) (h : Nat) (ad : Nat → Nat) (iv : ivT) (av : avT) (c0 N a0 en : Nat) (V le gr : Nat → Int32) (hf : ∀ i, fits .byte (.int (av 3 i)) = true) (h16 : iv 16 = nI a0) (h17 : iv 17 = nI en) (h18 : iv 18 = 1) (h20 : iv 20 = nI N) (hN : N ≤ 48) (hc : c0 < 3) (hen : en ≤ 140000) (ha0 : a0 ≤ 140000) : Kv Z l yX11_takeColumn cX11_takeColumn 8 none ({ frames := 2, cells := 0, slots := 0, locals := 80 }) [.ref h, .int (nI c0)] (mdW Z h ad iv av) (fun u => ∃ (iv2 : ivT) (av2 : avT) (a2 : Nat), u = mdW Z h ad iv2 av2 ∧ sI [16, 18] iv iv2 ∧ sA [21, 25] av av2 ∧ iv2 16 = nI a2 ∧ a2 ≤ a0 + 300 ∧ (iv2 18 = 0 ∨ iv2 18 = 1) ∧ (∀ j, j % 3 ≠ c0 → av2 21 j = av 21 j) ∧ (bat (av 3) a0 (encC V le gr N c0) → a0 + (encC V le gr N c0).length ≤ en → iv2 18 = 1 ∧ a2 = a0 + (encC V le gr N c0).length ∧ ∀ j, j < N → av2 21 (3 * j + c0) = V (48 * c0 + j))) := by
  intro sz
  refine Met.ofK (cc := cX11_takeColumn) (maxL := 8) (ret := none) (by decide) (Nat.le_of_ble_eq_true rfl) ?_
  intro p e s m below meth c ls C G hl
  generalize va_A _ sz = A at G ⊢
  have hx := C.1
  have hb := C.2.1
  have hown := C.2.2.2.2.2.1
  have hts := C.2.2.2.2.2.2.1
  refine lv_aload_n hx hb dX11_takeColumn_0 rfl (lv_at hl 0 rfl) ?_
  refine lv_iconst (v := 1) hx hb dX11_takeColumn_1 (by decide) ?_
  refine kcM_l G (krV 1 rfl (As := [.int 1]) (rest := []) (ci := 12) (CC := RX11) (T := TX11) (N := 61) C G pmN (c_mt1 Z l h ad iv av a0 en 1 h16 h17 h18 (Or.inr rfl) (by omega) (by omega) _) (gdV ml_X11_213 im_X11_take se_X11_take ii_X11 co_X11_take) (by decide +kernel) ⟨Nat.le_of_ble_eq_true rfl, Nat.le_of_ble_eq_true rfl⟩ rfl 0 rfl hl rfl (Nat.le_of_ble_eq_true rfl) ⟨Nat.le_of_ble_eq_true rfl, Nat.le_of_ble_eq_true rfl⟩ dX11_takeColumn_2) (fun r_2 u H locs hu G => ?_)
  obtain ⟨iv1_, rfl, hs1, h16_1, hcs1⟩ := hu
  have h17_1 : iv1_ 17 = nI en := (hs1 17 (by decide)).trans h17
  have q20_1 : iv1_ 20 = nI N := (hs1 20 (by decide)).trans h20
  rcases hcs1 with ⟨hg_1, hle_1, h18_1, r_2_e⟩ | ⟨hno_1, h18_1, r_2_e⟩
  · obtain ⟨bb_1, hbb_1⟩ : ∃ b, b = ub ((av 3) a0) := ⟨_, rfl⟩
    have hlbb_1 : bb_1 < 256 := by rw [hbb_1]; exact ub_lt _
    rw [← hbb_1] at r_2_e
    subst r_2_e
    refine lv_l2i (v := ((nI bb_1).toInt64).toInt32) hx hb dX11_takeColumn_5 rfl ?_
    refine k_topi (y := nI bb_1) (l2i_i2l _) ?_
    refine lv_istore_n (lv' := [(2, .int (nI bb_1)), (0, .ref h), (1, .int (nI c0))]) hx hb dX11_takeColumn_6 rfl hl (by decide) rfl (fun ls hl => ?_)
    refine lv_iconst (v := 0) hx hb dX11_takeColumn_7 (by decide) ?_
    refine k_topi (y := nI 0) (by rfl) ?_
    refine lv_istore_n (lv' := [(3, .int (nI 0)), (2, .int (nI bb_1)), (0, .ref h), (1, .int (nI c0))]) hx hb dX11_takeColumn_8 rfl hl (by decide) rfl (fun ls hl => ?_)
    refine lv_iconst (v := 0) hx hb dX11_takeColumn_9 (by decide) ?_
    refine k_topi (y := nI (8 * 0)) (by rfl) ?_
    refine lv_istore (lv' := [(4, .int (nI (8 * 0))), (3, .int (nI 0)), (2, .int (nI bb_1)), (0, .ref h), (1, .int (nI c0))]) hx hb dX11_takeColumn_10 hl (by decide) rfl (fun ls hl => ?_)
    exact lp_tcO (iv0 := iv1_) (av0 := av) (a1 := a0 + 1) (wy := nI bb_1) (Y := (bat (av 3) a0 (encC V le gr N c0) ∧ a0 + (encC V le gr N c0).length ≤ en)) (V := V) C ((hs1 20 (by decide)).trans h20) h17_1 hen (by omega) hN hc (fun y t ht => ⟨enc_bits y.1 ht, by have := y.2; rw [enc_len] at this; omega⟩) (fun iv6 av6 q6 g6 e1 e2 e3 e4 e5 e6 e7 e8 H locs ls G hl => lp_tc122 (iv0 := iv1_) (av0 := av) (a0 := a0) (aE := a0 + 1 + (N + 7) / 8 + (pay V c0 N).length) (Y := (bat (av 3) a0 (encC V le gr N c0) ∧ a0 + (encC V le gr N c0).length ≤ en)) (V := V) (bb := bb_1) C (fun iv2 av2 a2 b1 b2 b3 b4 b5 b6 b7 => ⟨iv2, av2, a2, rfl, (hs1.mo (by decide)).tr b1 (by decide), b2, b3, b4, b5, b6, fun y1 y2 => by
      obtain ⟨c1, c2, c3⟩ := b7 ⟨y1, y2⟩
      exact ⟨c1, by rw [c2, enc_len]; omega, c3⟩⟩) hf h17_1 ((hs1 20 (by decide)).trans h20) hN hc hen ha0 rfl hlbb_1 (fun y => ⟨by rw [hbb_1, enc_way y.1]; exact swW_le _, by rw [hbb_1]; exact enc_way y.1, by have := y.2; rw [enc_len] at this; omega⟩) (fun y => ⟨enc_pay y.1, rfl, trivial⟩) e1 e2 e3 e4 e5 e6 e7 e8 G hl) ((N + 7) / 8) 0 iv1_ av 0 1 (by omega) h16_1 h18_1 (Or.inr rfl) (by omega) sI.rf sA.rf (fun _ _ => rfl) (fun y => ⟨rfl, fun r hr => absurd hr (by omega), by rw [show min N (8 * 0) = 0 by omega]; rfl⟩) _ _ _ G (lv_sub hl [1, 0, 3, 4, 2] rfl)
  · subst r_2_e
    refine lv_l2i (v := (0 : Int64).toInt32) hx hb dX11_takeColumn_5 rfl ?_
    refine k_topi (y := nI 0) (by decide) ?_
    refine lv_istore_n (lv' := [(2, .int (nI 0)), (0, .ref h), (1, .int (nI c0))]) hx hb dX11_takeColumn_6 rfl hl (by decide) rfl (fun ls hl => ?_)
    refine lv_iconst (v := 0) hx hb dX11_takeColumn_7 (by decide) ?_
    refine k_topi (y := nI 0) (by rfl) ?_
    refine lv_istore_n (lv' := [(3, .int (nI 0)), (2, .int (nI 0)), (0, .ref h), (1, .int (nI c0))]) hx hb dX11_takeColumn_8 rfl hl (by decide) rfl (fun ls hl => ?_)
    refine lv_iconst (v := 0) hx hb dX11_takeColumn_9 (by decide) ?_
    refine k_topi (y := nI (8 * 0)) (by rfl) ?_
    refine lv_istore (lv' := [(4, .int (nI (8 * 0))), (3, .int (nI 0)), (2, .int (nI 0)), (0, .ref h), (1, .int (nI c0))]) hx hb dX11_takeColumn_10 hl (by decide) rfl (fun ls hl => ?_)
    exact lp_tcO (iv0 := iv1_) (av0 := av) (a1 := a0 + 1) (wy := nI 0) (Y := (bat (av 3) a0 (encC V le gr N c0) ∧ a0 + (encC V le gr N c0).length ≤ en)) (V := V) C ((hs1 20 (by decide)).trans h20) h17_1 hen (by omega) hN hc (fun y t ht => ⟨enc_bits y.1 ht, by have := y.2; rw [enc_len] at this; omega⟩) (fun iv6 av6 q6 g6 e1 e2 e3 e4 e5 e6 e7 e8 H locs ls G hl => lp_tc122 (iv0 := iv1_) (av0 := av) (a0 := a0) (aE := a0 + 1 + (N + 7) / 8 + (pay V c0 N).length) (Y := (bat (av 3) a0 (encC V le gr N c0) ∧ a0 + (encC V le gr N c0).length ≤ en)) (V := V) (bb := 0) C (fun iv2 av2 a2 b1 b2 b3 b4 b5 b6 b7 => ⟨iv2, av2, a2, rfl, (hs1.mo (by decide)).tr b1 (by decide), b2, b3, b4, b5, b6, fun y1 y2 => by
      obtain ⟨c1, c2, c3⟩ := b7 ⟨y1, y2⟩
      exact ⟨c1, by rw [c2, enc_len]; omega, c3⟩⟩) hf h17_1 ((hs1 20 (by decide)).trans h20) hN hc hen ha0 rfl (by omega) (fun y => absurd ⟨rfl, by have := y.2; rw [enc_len] at this; omega⟩ hno_1) (fun y => ⟨enc_pay y.1, rfl, trivial⟩) e1 e2 e3 e4 e5 e6 e7 e8 G hl) ((N + 7) / 8) 0 iv1_ av 0 0 (by omega) h16_1 h18_1 (Or.inl rfl) (by omega) sI.rf sA.rf (fun _ _ => rfl) (fun y => ⟨(fun y => absurd ⟨rfl, by have := y.2; rw [enc_len] at this; omega⟩ hno_1) y, fun r hr => absurd hr (by omega), by rw [show min N (8 * 0) = 0 by omega]; rfl⟩) _ _ _ G (lv_sub hl [1, 0, 3, 4, 2] rfl)
