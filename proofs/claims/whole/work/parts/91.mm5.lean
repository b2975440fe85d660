/-! MODEL (X11): makeColumn, makeData. -/
set_option maxRecDepth 100000 in
set_option maxHeartbeats 4000000 in
theorem lp_mcF {p : Program} {l : Launch} {e : Env} {s : State} {m : MethodId} {args : Array Value} {below : List Frame} {meth : Method} {c : Code} {Z : zT} {A : Nat → Prop} {Q : State → Prop} {h : Nat} {ad : Nat → Nat} {iv : ivT} {av : avT} {c0 : Nat} {th : List Int32} {hbf lev grv : Nat → Int32} (C : cx p s m args meth c cX11_makeColumn 9 none RX11 "makeColumn") (hT : ∀ i, i < th.length → av 25 i = th.getD i 0) (hm : ∀ v ∈ th, ¬ v = MIS) (hth : th.length ≤ 48) (hc : c0 < 3) (kk : ∀ (le gr : Nat → Int32), le c0 = (stF th).2.1 → gr c0 = (stF th).2.2 → (∀ d, d ≠ c0 → le d = lev d ∧ gr d = grv d) → ∀ (H : Heap) (locs : List Loc) (ls : Array Slot), wd Z A s (mdW Z h ad iv (ua (ua (ua av 22 hbf) 23 le) 24 gr)) H locs → lv_has ls 9 [(0, .ref h), (1, .int (nI c0)), (2, .int (nI th.length))] → W p l e ({ frames := 2, cells := 0, slots := 0, locals := 60 }) s m args below meth c H locs 0 0 Q (F0 m 584 ls [])) : ∀ (n : Nat) (k : Nat) (le gr : Nat → Int32), k + n = th.length → 1 ≤ k → (stF (th.take k)).1 = k → le c0 = (stF (th.take k)).2.1 → gr c0 = (stF (th.take k)).2.2 → (∀ d, d ≠ c0 → le d = lev d ∧ gr d = grv d) → ∀ (H : Heap) (locs : List Loc) (ls : Array Slot), wd Z A s (mdW Z h ad iv (ua (ua (ua av 22 hbf) 23 le) 24 gr)) H locs → lv_has ls 9 [(6, .int (nI k)), (0, .ref h), (1, .int (nI c0)), (2, .int (nI th.length))] → W p l e ({ frames := 2, cells := 0, slots := 0, locals := 60 }) s m args below meth c H locs 0 0 Q (F0 m 496 ls []) := by
  have hx := C.1
  have hb := C.2.1
  have hown := C.2.2.2.2.2.1
  have hts := C.2.2.2.2.2.2.1
  intro n
  induction n with
  | zero =>
    intro k le gr hk hk1 h1 h2 h3 hd H locs ls G hl
    refine lv_iload hx hb dX11_makeColumn_496 (lv_at hl 0 rfl) ?_
    refine lv_iload_n hx hb dX11_makeColumn_498 rfl (lv_at hl 3 rfl) ?_
    refine lv_icmp_ge (tgt := 584) hx hb dX11_makeColumn_499 (by decide) (fun c_499 => ?_) (fun c_499 => ?_)
    · have n_499 := nb_le (a := th.length) (b := k) c_499 (by omega) (by omega)
      have hkt : k = th.length := by omega
      subst hkt
      rw [List.take_length] at h1 h2 h3
      exact kk le gr h2 h3 hd _ _ _ G (lv_sub hl [1, 2, 3] rfl)
    · exact absurd (nb_nle (a := th.length) (b := k) c_499 (by omega) (by omega)) (by omega)
  | succ n ih =>
    intro k le gr hk hk1 h1 h2 h3 hd H locs ls G hl
    have hst := st_k hm (show k < th.length by omega) h1
    refine lv_iload hx hb dX11_makeColumn_496 (lv_at hl 0 rfl) ?_
    refine lv_iload_n hx hb dX11_makeColumn_498 rfl (lv_at hl 3 rfl) ?_
    refine lv_icmp_ge (tgt := 584) hx hb dX11_makeColumn_499 (by decide) (fun c_499 => ?_) (fun c_499 => ?_)
    · exact absurd (nb_le (a := th.length) (b := k) c_499 (by omega) (by omega)) (by omega)
    · have n_499 := nb_nle (a := th.length) (b := k) c_499 (by omega) (by omega)
      refine lv_aload_n hx hb dX11_makeColumn_502 rfl (lv_at hl 1 rfl) ?_
      refine k_mga C G 23 (by decide) mr_23 fl_X11_41 rfl dX11_makeColumn_503 ?_
      refine lv_iload_n hx hb dX11_makeColumn_506 rfl (lv_at hl 2 rfl) ?_
      refine lv_aload_n hx hb dX11_makeColumn_507 rfl (lv_at hl 1 rfl) ?_
      refine k_mga C G 25 (by decide) mr_25 fl_X11_47 rfl dX11_makeColumn_508 ?_
      refine lv_iload hx hb dX11_makeColumn_511 (lv_at hl 0 rfl) ?_
      refine k_mil (v := th.getD k 0) (i := k) C G 9 (k := 25) (n := 48) mp_25 (by decide) (by omega) (hT k (by omega)) dX11_makeColumn_513 ?_
      refine lv_aload_n hx hb dX11_makeColumn_514 rfl (lv_at hl 1 rfl) ?_
      refine k_mga C G 23 (by decide) mr_23 fl_X11_41 rfl dX11_makeColumn_515 ?_
      refine lv_iload_n hx hb dX11_makeColumn_518 rfl (lv_at hl 2 rfl) ?_
      refine k_mil (v := le c0) (i := c0) C G 7 (k := 23) (n := 3) mp_23 (by decide) (by omega) rfl dX11_makeColumn_519 ?_
      refine lv_icmp_ge (tgt := 533) hx hb dX11_makeColumn_520 (by decide) (fun c_520 => ?_) (fun c_520 => ?_)
      · refine lv_aload_n hx hb dX11_makeColumn_533 rfl (lv_at hl 1 rfl) ?_
        refine k_mga C G 23 (by decide) mr_23 fl_X11_41 rfl dX11_makeColumn_534 ?_
        refine lv_iload_n hx hb dX11_makeColumn_537 rfl (lv_at hl 2 rfl) ?_
        refine k_mil (v := le c0) (i := c0) C G 7 (k := 23) (n := 3) mp_23 (by decide) (by omega) rfl dX11_makeColumn_538 ?_
        refine k_mis (x := le c0) (i := c0) C G 7 (k := 23) (n := 3) mp_23 (by decide) (by omega) dX11_makeColumn_539 (fun H locs (G : wd Z A s (mdW Z h ad iv (ua (ua (ua (ua av 22 hbf) 23 le) 24 gr) 23 (upd le c0 (le c0)))) H locs) => ?_)
        refine lv_aload_n hx hb dX11_makeColumn_540 rfl (lv_at hl 1 rfl) ?_
        refine k_mga C G 24 (by decide) mr_24 fl_X11_44 rfl dX11_makeColumn_541 ?_
        refine lv_iload_n hx hb dX11_makeColumn_544 rfl (lv_at hl 2 rfl) ?_
        refine lv_aload_n hx hb dX11_makeColumn_545 rfl (lv_at hl 1 rfl) ?_
        refine k_mga C G 25 (by decide) mr_25 fl_X11_47 rfl dX11_makeColumn_546 ?_
        refine lv_iload hx hb dX11_makeColumn_549 (lv_at hl 0 rfl) ?_
        refine k_mil (v := th.getD k 0) (i := k) C G 9 (k := 25) (n := 48) mp_25 (by decide) (by omega) (hT k (by omega)) dX11_makeColumn_551 ?_
        refine lv_aload_n hx hb dX11_makeColumn_552 rfl (lv_at hl 1 rfl) ?_
        refine k_mga C G 24 (by decide) mr_24 fl_X11_44 rfl dX11_makeColumn_553 ?_
        refine lv_iload_n hx hb dX11_makeColumn_556 rfl (lv_at hl 2 rfl) ?_
        refine k_mil (v := gr c0) (i := c0) C G 8 (k := 24) (n := 3) mp_24 (by decide) (by omega) rfl dX11_makeColumn_557 ?_
        refine lv_icmp_le (tgt := 571) hx hb dX11_makeColumn_558 (by decide) (fun c_558 => ?_) (fun c_558 => ?_)
        · refine lv_aload_n hx hb dX11_makeColumn_571 rfl (lv_at hl 1 rfl) ?_
          refine k_mga C G 24 (by decide) mr_24 fl_X11_44 rfl dX11_makeColumn_572 ?_
          refine lv_iload_n hx hb dX11_makeColumn_575 rfl (lv_at hl 2 rfl) ?_
          refine k_mil (v := gr c0) (i := c0) C G 8 (k := 24) (n := 3) mp_24 (by decide) (by omega) rfl dX11_makeColumn_576 ?_
          refine k_mis (x := gr c0) (i := c0) C G 8 (k := 24) (n := 3) mp_24 (by decide) (by omega) dX11_makeColumn_577 (fun H locs (G : wd Z A s (mdW Z h ad iv (ua (ua (ua (ua (ua av 22 hbf) 23 le) 24 gr) 23 (upd le c0 (le c0))) 24 (upd gr c0 (gr c0)))) H locs) => ?_)
          refine lv_iinc (v := nI (k + 1)) (lv' := [(6, .int (nI (k + 1))), (0, .ref h), (1, .int (nI c0)), (2, .int (nI th.length))]) hx hb dX11_makeColumn_578 hl (k := 0) rfl (nI_1 _) (by decide) rfl (fun ls hl => ?_)
          refine lv_goto (tgt := 496) hx hb dX11_makeColumn_581 (by decide) ?_
          have e9 : (ua (ua (ua (ua (ua av 22 hbf) 23 le) 24 gr) 23 (upd le c0 (le c0))) 24 (upd gr c0 (gr c0))) = (ua (ua (ua av 22 hbf) 23 (upd le c0 (le c0))) 24 (upd gr c0 (gr c0))) := by
            funext j; unfold ua; by_cases e1 : j = 24
            · subst e1; rfl
            · by_cases e2 : j = 23
              · subst e2; rfl
              · simp only [if_neg e1, if_neg e2]
          rw [e9] at G
          exact ih (k + 1) _ _ (by omega) (by omega) (by rw [hst]) (by rw [hst]; dsimp only; rw [pk_us, if_neg (by rintro (z | z); exact absurd z (by omega); exact absurd z (Int32.not_lt.mpr (by rw [← h2]; exact c_520))), h2]) (by rw [hst]; dsimp only; rw [pk_us, if_neg (by rintro (z | z); exact absurd z (by omega); exact absurd z (Int32.not_lt.mpr (by rw [← h3]; exact c_558))), h3]) (fun d h9 => by rw [pk_un h9, pk_un h9]; exact hd d h9) _ _ _ G (lv_sub hl [0, 1, 2, 3] rfl)
        · refine lv_aload_n hx hb dX11_makeColumn_561 rfl (lv_at hl 1 rfl) ?_
          refine k_mga C G 25 (by decide) mr_25 fl_X11_47 rfl dX11_makeColumn_562 ?_
          refine lv_iload hx hb dX11_makeColumn_565 (lv_at hl 0 rfl) ?_
          refine k_mil (v := th.getD k 0) (i := k) C G 9 (k := 25) (n := 48) mp_25 (by decide) (by omega) (hT k (by omega)) dX11_makeColumn_567 ?_
          refine lv_goto (tgt := 577) hx hb dX11_makeColumn_568 (by decide) ?_
          refine k_mis (x := th.getD k 0) (i := c0) C G 8 (k := 24) (n := 3) mp_24 (by decide) (by omega) dX11_makeColumn_577 (fun H locs (G : wd Z A s (mdW Z h ad iv (ua (ua (ua (ua (ua av 22 hbf) 23 le) 24 gr) 23 (upd le c0 (le c0))) 24 (upd gr c0 (th.getD k 0)))) H locs) => ?_)
          refine lv_iinc (v := nI (k + 1)) (lv' := [(6, .int (nI (k + 1))), (0, .ref h), (1, .int (nI c0)), (2, .int (nI th.length))]) hx hb dX11_makeColumn_578 hl (k := 0) rfl (nI_1 _) (by decide) rfl (fun ls hl => ?_)
          refine lv_goto (tgt := 496) hx hb dX11_makeColumn_581 (by decide) ?_
          have e9 : (ua (ua (ua (ua (ua av 22 hbf) 23 le) 24 gr) 23 (upd le c0 (le c0))) 24 (upd gr c0 (th.getD k 0))) = (ua (ua (ua av 22 hbf) 23 (upd le c0 (le c0))) 24 (upd gr c0 (th.getD k 0))) := by
            funext j; unfold ua; by_cases e1 : j = 24
            · subst e1; rfl
            · by_cases e2 : j = 23
              · subst e2; rfl
              · simp only [if_neg e1, if_neg e2]
          rw [e9] at G
          exact ih (k + 1) _ _ (by omega) (by omega) (by rw [hst]) (by rw [hst]; dsimp only; rw [pk_us, if_neg (by rintro (z | z); exact absurd z (by omega); exact absurd z (Int32.not_lt.mpr (by rw [← h2]; exact c_520))), h2]) (by rw [hst]; dsimp only; rw [pk_us, if_pos (Or.inr (by rw [← h3]; exact Int32.not_le.mp c_558))]) (fun d h9 => by rw [pk_un h9, pk_un h9]; exact hd d h9) _ _ _ G (lv_sub hl [0, 1, 2, 3] rfl)
      · refine lv_aload_n hx hb dX11_makeColumn_523 rfl (lv_at hl 1 rfl) ?_
        refine k_mga C G 25 (by decide) mr_25 fl_X11_47 rfl dX11_makeColumn_524 ?_
        refine lv_iload hx hb dX11_makeColumn_527 (lv_at hl 0 rfl) ?_
        refine k_mil (v := th.getD k 0) (i := k) C G 9 (k := 25) (n := 48) mp_25 (by decide) (by omega) (hT k (by omega)) dX11_makeColumn_529 ?_
        refine lv_goto (tgt := 539) hx hb dX11_makeColumn_530 (by decide) ?_
        refine k_mis (x := th.getD k 0) (i := c0) C G 7 (k := 23) (n := 3) mp_23 (by decide) (by omega) dX11_makeColumn_539 (fun H locs (G : wd Z A s (mdW Z h ad iv (ua (ua (ua (ua av 22 hbf) 23 le) 24 gr) 23 (upd le c0 (th.getD k 0)))) H locs) => ?_)
        refine lv_aload_n hx hb dX11_makeColumn_540 rfl (lv_at hl 1 rfl) ?_
        refine k_mga C G 24 (by decide) mr_24 fl_X11_44 rfl dX11_makeColumn_541 ?_
        refine lv_iload_n hx hb dX11_makeColumn_544 rfl (lv_at hl 2 rfl) ?_
        refine lv_aload_n hx hb dX11_makeColumn_545 rfl (lv_at hl 1 rfl) ?_
        refine k_mga C G 25 (by decide) mr_25 fl_X11_47 rfl dX11_makeColumn_546 ?_
        refine lv_iload hx hb dX11_makeColumn_549 (lv_at hl 0 rfl) ?_
        refine k_mil (v := th.getD k 0) (i := k) C G 9 (k := 25) (n := 48) mp_25 (by decide) (by omega) (hT k (by omega)) dX11_makeColumn_551 ?_
        refine lv_aload_n hx hb dX11_makeColumn_552 rfl (lv_at hl 1 rfl) ?_
        refine k_mga C G 24 (by decide) mr_24 fl_X11_44 rfl dX11_makeColumn_553 ?_
        refine lv_iload_n hx hb dX11_makeColumn_556 rfl (lv_at hl 2 rfl) ?_
        refine k_mil (v := gr c0) (i := c0) C G 8 (k := 24) (n := 3) mp_24 (by decide) (by omega) rfl dX11_makeColumn_557 ?_
        refine lv_icmp_le (tgt := 571) hx hb dX11_makeColumn_558 (by decide) (fun c_558 => ?_) (fun c_558 => ?_)
        · refine lv_aload_n hx hb dX11_makeColumn_571 rfl (lv_at hl 1 rfl) ?_
          refine k_mga C G 24 (by decide) mr_24 fl_X11_44 rfl dX11_makeColumn_572 ?_
          refine lv_iload_n hx hb dX11_makeColumn_575 rfl (lv_at hl 2 rfl) ?_
          refine k_mil (v := gr c0) (i := c0) C G 8 (k := 24) (n := 3) mp_24 (by decide) (by omega) rfl dX11_makeColumn_576 ?_
          refine k_mis (x := gr c0) (i := c0) C G 8 (k := 24) (n := 3) mp_24 (by decide) (by omega) dX11_makeColumn_577 (fun H locs (G : wd Z A s (mdW Z h ad iv (ua (ua (ua (ua (ua av 22 hbf) 23 le) 24 gr) 23 (upd le c0 (th.getD k 0))) 24 (upd gr c0 (gr c0)))) H locs) => ?_)
          refine lv_iinc (v := nI (k + 1)) (lv' := [(6, .int (nI (k + 1))), (0, .ref h), (1, .int (nI c0)), (2, .int (nI th.length))]) hx hb dX11_makeColumn_578 hl (k := 0) rfl (nI_1 _) (by decide) rfl (fun ls hl => ?_)
          refine lv_goto (tgt := 496) hx hb dX11_makeColumn_581 (by decide) ?_
          have e9 : (ua (ua (ua (ua (ua av 22 hbf) 23 le) 24 gr) 23 (upd le c0 (th.getD k 0))) 24 (upd gr c0 (gr c0))) = (ua (ua (ua av 22 hbf) 23 (upd le c0 (th.getD k 0))) 24 (upd gr c0 (gr c0))) := by
            funext j; unfold ua; by_cases e1 : j = 24
            · subst e1; rfl
            · by_cases e2 : j = 23
              · subst e2; rfl
              · simp only [if_neg e1, if_neg e2]
          rw [e9] at G
          exact ih (k + 1) _ _ (by omega) (by omega) (by rw [hst]) (by rw [hst]; dsimp only; rw [pk_us, if_pos (Or.inr (by rw [← h2]; exact Int32.not_le.mp c_520))]) (by rw [hst]; dsimp only; rw [pk_us, if_neg (by rintro (z | z); exact absurd z (by omega); exact absurd z (Int32.not_lt.mpr (by rw [← h3]; exact c_558))), h3]) (fun d h9 => by rw [pk_un h9, pk_un h9]; exact hd d h9) _ _ _ G (lv_sub hl [0, 1, 2, 3] rfl)
        · refine lv_aload_n hx hb dX11_makeColumn_561 rfl (lv_at hl 1 rfl) ?_
          refine k_mga C G 25 (by decide) mr_25 fl_X11_47 rfl dX11_makeColumn_562 ?_
          refine lv_iload hx hb dX11_makeColumn_565 (lv_at hl 0 rfl) ?_
          refine k_mil (v := th.getD k 0) (i := k) C G 9 (k := 25) (n := 48) mp_25 (by decide) (by omega) (hT k (by omega)) dX11_makeColumn_567 ?_
          refine lv_goto (tgt := 577) hx hb dX11_makeColumn_568 (by decide) ?_
          refine k_mis (x := th.getD k 0) (i := c0) C G 8 (k := 24) (n := 3) mp_24 (by decide) (by omega) dX11_makeColumn_577 (fun H locs (G : wd Z A s (mdW Z h ad iv (ua (ua (ua (ua (ua av 22 hbf) 23 le) 24 gr) 23 (upd le c0 (th.getD k 0))) 24 (upd gr c0 (th.getD k 0)))) H locs) => ?_)
          refine lv_iinc (v := nI (k + 1)) (lv' := [(6, .int (nI (k + 1))), (0, .ref h), (1, .int (nI c0)), (2, .int (nI th.length))]) hx hb dX11_makeColumn_578 hl (k := 0) rfl (nI_1 _) (by decide) rfl (fun ls hl => ?_)
          refine lv_goto (tgt := 496) hx hb dX11_makeColumn_581 (by decide) ?_
          have e9 : (ua (ua (ua (ua (ua av 22 hbf) 23 le) 24 gr) 23 (upd le c0 (th.getD k 0))) 24 (upd gr c0 (th.getD k 0))) = (ua (ua (ua av 22 hbf) 23 (upd le c0 (th.getD k 0))) 24 (upd gr c0 (th.getD k 0))) := by
            funext j; unfold ua; by_cases e1 : j = 24
            · subst e1; rfl
            · by_cases e2 : j = 23
              · subst e2; rfl
              · simp only [if_neg e1, if_neg e2]
          rw [e9] at G
          exact ih (k + 1) _ _ (by omega) (by omega) (by rw [hst]) (by rw [hst]; dsimp only; rw [pk_us, if_pos (Or.inr (by rw [← h2]; exact Int32.not_le.mp c_520))]) (by rw [hst]; dsimp only; rw [pk_us, if_pos (Or.inr (by rw [← h3]; exact Int32.not_le.mp c_558))]) (fun d h9 => by rw [pk_un h9, pk_un h9]; exact hd d h9) _ _ _ G (lv_sub hl [0, 1, 2, 3] rfl)
set_option maxRecDepth 100000 in
set_option maxHeartbeats 4000000 in
theorem lp_mcG {p : Program} {l : Launch} {e : Env} {s : State} {m : MethodId} {args : Array Value} {below : List Frame} {meth : Method} {c : Code} {Z : zT} {A : Nat → Prop} {h : Nat} {ad : Nat → Nat} {iv : ivT} {av : avT} {c0 nt : Nat} {bs : List Int8} {LE GR : Int32} {post : va_W → Prop} (C : cx p s m args meth c cX11_makeColumn 9 none RX11 "makeColumn") (hc : c0 < 3) (hmk : mk_at iv av bs) (hbs : bs.length + 8 ≤ 1500) (hle : av 23 c0 = LE) (hgr : av 24 c0 = GR) (hp : ∀ iv2 av2, mk_at iv2 av2 (bs ++ u4b LE ++ u4b GR) → sI [15] iv iv2 → sA [14] av av2 → post (mdW Z h ad iv2 av2)) {H : Heap} {locs : List Loc} {ls : Array Slot} (G : wd Z A s (mdW Z h ad iv av) H locs) (hl : lv_has ls 9 [(0, .ref h), (1, .int (nI c0)), (2, .int (nI nt))]) : W p l e ({ frames := 2, cells := 0, slots := 0, locals := 60 }) s m args below meth c H locs 0 0 (MQ below (va_Qv post (mB Z A) A) args s 0 0 A) (F0 m 584 ls []) := by
  have hx := C.1
  have hb := C.2.1
  have hown := C.2.2.2.2.2.1
  have hts := C.2.2.2.2.2.2.1
  refine lv_aload_n hx hb dX11_makeColumn_584 rfl (lv_at hl 0 rfl) ?_
  refine lv_aload_n hx hb dX11_makeColumn_585 rfl (lv_at hl 0 rfl) ?_
  refine k_mga C G 23 (by decide) mr_23 fl_X11_41 rfl dX11_makeColumn_586 ?_
  refine lv_iload_n hx hb dX11_makeColumn_589 rfl (lv_at hl 1 rfl) ?_
  refine k_mil (v := LE) (i := c0) C G 7 (k := 23) (n := 3) mp_23 (by decide) (by omega) hle dX11_makeColumn_590 ?_
  refine lv_i2l (v := LE.toInt64) hx hb dX11_makeColumn_591 rfl ?_
  refine lv_iconst (v := 4) hx hb dX11_makeColumn_592 (by decide) ?_
  refine kcM_v G (krV 2 rfl (As := [.long LE.toInt64, .int 4]) (rest := []) (ci := 12) (CC := RX11) (T := TX11) (N := 61) C G pmN (c_mu4 Z l h ad iv av _ LE hmk (by omega) _) (gdV ml_X11_161 im_X11_u se_X11_u ii_X11 co_X11_u) (by decide +kernel) ⟨Nat.le_of_ble_eq_true rfl, Nat.le_of_ble_eq_true rfl⟩ rfl 0 rfl hl rfl (Nat.le_of_ble_eq_true rfl) ⟨Nat.le_of_ble_eq_true rfl, Nat.le_of_ble_eq_true rfl⟩ dX11_makeColumn_593) (fun u H locs hu G => ?_)
  obtain ⟨iv1_, av1_, rfl, hm1, hs1, ha1⟩ := hu
  refine lv_aload_n hx hb dX11_makeColumn_596 rfl (lv_at hl 0 rfl) ?_
  refine lv_aload_n hx hb dX11_makeColumn_597 rfl (lv_at hl 0 rfl) ?_
  refine k_mga C G 24 (by decide) mr_24 fl_X11_44 rfl dX11_makeColumn_598 ?_
  refine lv_iload_n hx hb dX11_makeColumn_601 rfl (lv_at hl 1 rfl) ?_
  refine k_mil (v := GR) (i := c0) C G 8 (k := 24) (n := 3) mp_24 (by decide) (by omega) ((congrFun (ha1 24 (by decide)) c0).trans hgr) dX11_makeColumn_602 ?_
  refine lv_i2l (v := GR.toInt64) hx hb dX11_makeColumn_603 rfl ?_
  refine lv_iconst (v := 4) hx hb dX11_makeColumn_604 (by decide) ?_
  refine kcM_v G (krV 2 rfl (As := [.long GR.toInt64, .int 4]) (rest := []) (ci := 12) (CC := RX11) (T := TX11) (N := 61) C G pmN (c_mu4 Z l h ad iv1_ av1_ _ GR hm1 (by rw [List.length_append, u4b_len]; omega) _) (gdV ml_X11_161 im_X11_u se_X11_u ii_X11 co_X11_u) (by decide +kernel) ⟨Nat.le_of_ble_eq_true rfl, Nat.le_of_ble_eq_true rfl⟩ rfl 0 rfl hl rfl (Nat.le_of_ble_eq_true rfl) ⟨Nat.le_of_ble_eq_true rfl, Nat.le_of_ble_eq_true rfl⟩ dX11_makeColumn_605) (fun u H locs hu G => ?_)
  obtain ⟨iv2_, av2_, rfl, hm2, hs2, ha2⟩ := hu
  exact kr_v C G (hp _ _ hm2 (hs1.tr hs2 (by decide)) (ha1.tr ha2 (by decide))) (Nat.le_of_ble_eq_true rfl) (Nat.le_of_ble_eq_true rfl) dX11_makeColumn_608
set_option maxRecDepth 100000 in
set_option maxHeartbeats 4000000 in
theorem lp_mcH {p : Program} {l : Launch} {e : Env} {s : State} {m : MethodId} {args : Array Value} {below : List Frame} {meth : Method} {c : Code} {Z : zT} {A : Nat → Prop} {h : Nat} {ad : Nat → Nat} {iv : ivT} {av : avT} {c0 : Nat} {th : List Int32} {bs : List Int8} {post : va_W → Prop} (C : cx p s m args meth c cX11_makeColumn 9 none RX11 "makeColumn") (hT : ∀ i, i < th.length → av 25 i = th.getD i 0) (hm : ∀ v ∈ th, ¬ v = MIS) (hth : th.length ≤ 48) (hcnt : (stF th).1 = th.length) (hc : c0 < 3) (hmk : mk_at iv av bs) (hbs : bs.length + 8 ≤ 1500) (hp : ∀ iv2 av2, mk_at iv2 av2 (bs ++ u4b (stF th).2.1 ++ u4b (stF th).2.2) → sI [15] iv iv2 → sA [14, 22, 23, 24] av av2 → (∀ d, d ≠ c0 → av2 22 d = av 22 d ∧ av2 23 d = av 23 d ∧ av2 24 d = av 24 d) → av2 22 c0 = (if (stF th).1 = 0 then 0 else 1) → av2 23 c0 = (stF th).2.1 → av2 24 c0 = (stF th).2.2 → post (mdW Z h ad iv2 av2)) {H : Heap} {locs : List Loc} {ls : Array Slot} (G : wd Z A s (mdW Z h ad iv av) H locs) (hl : lv_has ls 9 [(0, .ref h), (1, .int (nI c0)), (2, .int (nI th.length))]) : W p l e ({ frames := 2, cells := 0, slots := 0, locals := 60 }) s m args below meth c H locs 0 0 (MQ below (va_Qv post (mB Z A) A) args s 0 0 A) (F0 m 446 ls []) := by
  have hx := C.1
  have hb := C.2.1
  have hown := C.2.2.2.2.2.1
  have hts := C.2.2.2.2.2.2.1
  refine lv_aload_n hx hb dX11_makeColumn_446 rfl (lv_at hl 0 rfl) ?_
  refine k_mga C G 22 (by decide) mr_22 fl_X11_37 rfl dX11_makeColumn_447 ?_
  refine lv_iload_n hx hb dX11_makeColumn_450 rfl (lv_at hl 1 rfl) ?_
  refine lv_iload_n hx hb dX11_makeColumn_451 rfl (lv_at hl 2 rfl) ?_
  refine lv_if_le (tgt := 459) hx hb dX11_makeColumn_452 (by decide) (fun c_452 => ?_) (fun c_452 => ?_)
  · have n_452 := nb_le (a := th.length) (b := 0) c_452 (by omega) (by omega)
    have hz0 : stF th = (0, 0, 0) := by rw [List.eq_nil_of_length_eq_zero (show th.length = 0 by omega)]; rfl
    refine lv_iconst (v := 0) hx hb dX11_makeColumn_459 (by decide) ?_
    refine k_mzs (x := 0) (i := c0) C G 6 (k := 22) (n := 3) mp_22 (by decide) (by omega) (by decide) dX11_makeColumn_460 (fun H locs (G : wd Z A s (mdW Z h ad iv (ua av 22 (upd (av 22) c0 0))) H locs) => ?_)
    refine lv_aload_n hx hb dX11_makeColumn_461 rfl (lv_at hl 0 rfl) ?_
    refine k_mga C G 23 (by decide) mr_23 fl_X11_41 rfl dX11_makeColumn_462 ?_
    refine lv_iload_n hx hb dX11_makeColumn_465 rfl (lv_at hl 1 rfl) ?_
    refine lv_iload_n hx hb dX11_makeColumn_466 rfl (lv_at hl 2 rfl) ?_
    refine lv_if_le (tgt := 479) hx hb dX11_makeColumn_467 (by decide) (fun c_467 => ?_) (fun c_467 => ?_)
    · have n_467 := nb_le (a := th.length) (b := 0) c_467 (by omega) (by omega)
      refine lv_iconst (v := 0) hx hb dX11_makeColumn_479 (by decide) ?_
      refine k_mis (x := 0) (i := c0) C G 7 (k := 23) (n := 3) mp_23 (by decide) (by omega) dX11_makeColumn_480 (fun H locs (G : wd Z A s (mdW Z h ad iv (ua (ua av 22 (upd (av 22) c0 0)) 23 (upd (av 23) c0 0))) H locs) => ?_)
      refine lv_aload_n hx hb dX11_makeColumn_481 rfl (lv_at hl 0 rfl) ?_
      refine k_mga C G 24 (by decide) mr_24 fl_X11_44 rfl dX11_makeColumn_482 ?_
      refine lv_iload_n hx hb dX11_makeColumn_485 rfl (lv_at hl 1 rfl) ?_
      refine lv_aload_n hx hb dX11_makeColumn_486 rfl (lv_at hl 0 rfl) ?_
      refine k_mga C G 23 (by decide) mr_23 fl_X11_41 rfl dX11_makeColumn_487 ?_
      refine lv_iload_n hx hb dX11_makeColumn_490 rfl (lv_at hl 1 rfl) ?_
      refine k_mil (v := 0) (i := c0) C G 7 (k := 23) (n := 3) mp_23 (by decide) (by omega) pk_us dX11_makeColumn_491 ?_
      refine k_mis (x := 0) (i := c0) C G 8 (k := 24) (n := 3) mp_24 (by decide) (by omega) dX11_makeColumn_492 (fun H locs (G : wd Z A s (mdW Z h ad iv (ua (ua (ua av 22 (upd (av 22) c0 0)) 23 (upd (av 23) c0 0)) 24 (upd (av 24) c0 0))) H locs) => ?_)
      refine lv_iconst (v := 1) hx hb dX11_makeColumn_493 (by decide) ?_
      refine k_topi (y := nI 1) (by rfl) ?_
      refine lv_istore (lv' := [(6, .int (nI 1)), (0, .ref h), (1, .int (nI c0)), (2, .int (nI th.length))]) hx hb dX11_makeColumn_494 hl (by decide) rfl (fun ls hl => ?_)
      refine lv_iload hx hb dX11_makeColumn_496 (lv_at hl 0 rfl) ?_
      refine lv_iload_n hx hb dX11_makeColumn_498 rfl (lv_at hl 3 rfl) ?_
      refine lv_icmp_ge (tgt := 584) hx hb dX11_makeColumn_499 (by decide) (fun c_499 => ?_) (fun c_499 => ?_)
      · have n_499 := nb_le (a := th.length) (b := 1) c_499 (by omega) (by omega)
        exact lp_mcG (iv := iv) (av := (ua (ua (ua av 22 (upd (av 22) c0 0)) 23 (upd (av 23) c0 0)) 24 (upd (av 24) c0 0))) (LE := 0) (GR := 0) C hc (hmk.same rfl rfl) (by omega) pk_us pk_us (fun iv2 av2 a1 a2 a3 => hp iv2 av2 (by rw [hz0]; exact a1) a2 ((((sA.rf.up (by decide) _).up (by decide) _).up (by decide) _).tr a3 (by decide)) (fun d h9 => ⟨by rw [a3 22 (by decide)]; exact pk_un h9, by rw [a3 23 (by decide)]; exact pk_un h9, by rw [a3 24 (by decide)]; exact pk_un h9⟩) (by rw [a3 22 (by decide), if_pos (by rw [hz0])]; exact pk_us) (by rw [a3 23 (by decide), hz0]; exact pk_us) (by rw [a3 24 (by decide), hz0]; exact pk_us)) G (lv_sub hl [1, 2, 3] rfl)
      · exact absurd (nb_nle (a := th.length) (b := 1) c_499 (by omega) (by omega)) (by omega)
    · exact absurd (nb_nle (a := th.length) (b := 0) c_467 (by omega) (by omega)) (by omega)
  · have n_452 := nb_nle (a := th.length) (b := 0) c_452 (by omega) (by omega)
    have ht1 : stF (th.take 1) = (1, th.getD 0 0, th.getD 0 0) := by rw [st_k (k := 0) hm (by omega) rfl, if_pos (Or.inl rfl), if_pos (Or.inl rfl)]
    have hn0 : ¬ (stF th).1 = 0 := by rw [hcnt]; omega
    refine lv_iconst (v := 1) hx hb dX11_makeColumn_455 (by decide) ?_
    refine lv_goto (tgt := 460) hx hb dX11_makeColumn_456 (by decide) ?_
    refine k_mzs (x := 1) (i := c0) C G 6 (k := 22) (n := 3) mp_22 (by decide) (by omega) (by decide) dX11_makeColumn_460 (fun H locs (G : wd Z A s (mdW Z h ad iv (ua av 22 (upd (av 22) c0 1))) H locs) => ?_)
    refine lv_aload_n hx hb dX11_makeColumn_461 rfl (lv_at hl 0 rfl) ?_
    refine k_mga C G 23 (by decide) mr_23 fl_X11_41 rfl dX11_makeColumn_462 ?_
    refine lv_iload_n hx hb dX11_makeColumn_465 rfl (lv_at hl 1 rfl) ?_
    refine lv_iload_n hx hb dX11_makeColumn_466 rfl (lv_at hl 2 rfl) ?_
    refine lv_if_le (tgt := 479) hx hb dX11_makeColumn_467 (by decide) (fun c_467 => ?_) (fun c_467 => ?_)
    · exact absurd (nb_le (a := th.length) (b := 0) c_467 (by omega) (by omega)) (by omega)
    · have n_467 := nb_nle (a := th.length) (b := 0) c_467 (by omega) (by omega)
      refine lv_aload_n hx hb dX11_makeColumn_470 rfl (lv_at hl 0 rfl) ?_
      refine k_mga C G 25 (by decide) mr_25 fl_X11_47 rfl dX11_makeColumn_471 ?_
      refine lv_iconst (v := 0) hx hb dX11_makeColumn_474 (by decide) ?_
      refine k_mil (v := th.getD 0 0) (i := 0) C G 9 (k := 25) (n := 48) mp_25 (by decide) (by omega) (hT 0 (by omega)) dX11_makeColumn_475 ?_
      refine lv_goto (tgt := 480) hx hb dX11_makeColumn_476 (by decide) ?_
      refine k_mis (x := th.getD 0 0) (i := c0) C G 7 (k := 23) (n := 3) mp_23 (by decide) (by omega) dX11_makeColumn_480 (fun H locs (G : wd Z A s (mdW Z h ad iv (ua (ua av 22 (upd (av 22) c0 1)) 23 (upd (av 23) c0 (th.getD 0 0)))) H locs) => ?_)
      refine lv_aload_n hx hb dX11_makeColumn_481 rfl (lv_at hl 0 rfl) ?_
      refine k_mga C G 24 (by decide) mr_24 fl_X11_44 rfl dX11_makeColumn_482 ?_
      refine lv_iload_n hx hb dX11_makeColumn_485 rfl (lv_at hl 1 rfl) ?_
      refine lv_aload_n hx hb dX11_makeColumn_486 rfl (lv_at hl 0 rfl) ?_
      refine k_mga C G 23 (by decide) mr_23 fl_X11_41 rfl dX11_makeColumn_487 ?_
      refine lv_iload_n hx hb dX11_makeColumn_490 rfl (lv_at hl 1 rfl) ?_
      refine k_mil (v := th.getD 0 0) (i := c0) C G 7 (k := 23) (n := 3) mp_23 (by decide) (by omega) pk_us dX11_makeColumn_491 ?_
      refine k_mis (x := th.getD 0 0) (i := c0) C G 8 (k := 24) (n := 3) mp_24 (by decide) (by omega) dX11_makeColumn_492 (fun H locs (G : wd Z A s (mdW Z h ad iv (ua (ua (ua av 22 (upd (av 22) c0 1)) 23 (upd (av 23) c0 (th.getD 0 0))) 24 (upd (av 24) c0 (th.getD 0 0)))) H locs) => ?_)
      refine lv_iconst (v := 1) hx hb dX11_makeColumn_493 (by decide) ?_
      refine k_topi (y := nI 1) (by rfl) ?_
      refine lv_istore (lv' := [(6, .int (nI 1)), (0, .ref h), (1, .int (nI c0)), (2, .int (nI th.length))]) hx hb dX11_makeColumn_494 hl (by decide) rfl (fun ls hl => ?_)
      refine lp_mcF (hbf := upd (av 22) c0 1) (lev := av 23) (grv := av 24) C hT hm hth hc (fun le gr b1 b2 b3 H locs ls G hl => ?_) (th.length - 1) 1 _ _ (by omega) (by omega) (by rw [ht1]) (by rw [ht1]; exact pk_us) (by rw [ht1]; exact pk_us) (fun d h9 => ⟨pk_un h9, pk_un h9⟩) _ _ _ G (lv_sub hl [0, 1, 2, 3] rfl)
      exact lp_mcG (iv := iv) (av := ua (ua (ua av 22 (upd (av 22) c0 1)) 23 le) 24 gr) C hc (hmk.same rfl rfl) (by omega) b1 b2 (fun iv2 av2 a1 a2 a3 => hp iv2 av2 a1 a2 ((((sA.rf.up (by decide) _).up (by decide) _).up (by decide) _).tr a3 (by decide)) (fun d h9 => ⟨by rw [a3 22 (by decide)]; exact pk_un h9, by rw [a3 23 (by decide)]; exact (b3 d h9).1, by rw [a3 24 (by decide)]; exact (b3 d h9).2⟩) (by rw [a3 22 (by decide), if_neg (by omega)]; exact pk_us) (by rw [a3 23 (by decide)]; exact b1) (by rw [a3 24 (by decide)]; exact b2)) G hl
theorem st_cnt {th : List Int32} (hm : ∀ v ∈ th, ¬ v = MIS) : ∀ k, k ≤ th.length → (stF (th.take k)).1 = k
  | 0, _ => by simp [stF]
  | k + 1, h => by rw [st_k hm (by omega) (st_cnt hm k (by omega))]
set_option maxRecDepth 100000 in
set_option maxHeartbeats 4000000 in
theorem c_X11_makeColumn (Z : zT) (l : Launch) (h : Nat) (ad : Nat → Nat) (iv : ivT) (av : avT) (bs : List Int8) (c0 N : Nat) (h20 : iv 20 = nI N) (hN : N ≤ 48) (hc : c0 < 3) (hmk : mk_at iv av bs) (hbs : bs.length ≤ 1000) : Kv Z l yX11_makeColumn cX11_makeColumn 9 none ({ frames := 2, cells := 0, slots := 0, locals := 60 }) [.ref h, .int (nI c0)] (mdW Z h ad iv av) (fun u => ∃ iv2 av2, u = mdW Z h ad iv2 av2 ∧ mk_at iv2 av2 (bs ++ encC (mV av) (leF (mV av) N) (grF (mV av) N) N c0) ∧ (∀ d, d ≠ c0 → av2 22 d = av 22 d ∧ av2 23 d = av 23 d ∧ av2 24 d = av 24 d) ∧ av2 22 c0 = (if (stF (col (mV av) c0 N)).1 = 0 then 0 else 1) ∧ av2 23 c0 = leF (mV av) N c0 ∧ av2 24 c0 = grF (mV av) N c0 ∧ sI [15] iv iv2 ∧ sA [14, 22, 23, 24, 25] av av2) := by
  intro sz
  refine Met.ofK (cc := cX11_makeColumn) (maxL := 9) (ret := none) (by decide) (Nat.le_of_ble_eq_true rfl) ?_
  intro p e s m below meth c ls C G hl
  generalize va_A _ sz = A at G ⊢
  have hx := C.1
  have hb := C.2.1
  have hown := C.2.2.2.2.2.1
  have hts := C.2.2.2.2.2.2.1
  refine lv_iconst (v := 0) hx hb dX11_makeColumn_0 (by decide) ?_
  refine k_topi (y := nI 0) (by rfl) ?_
  refine lv_istore_n (lv' := [(2, .int (nI 0)), (0, .ref h), (1, .int (nI c0))]) hx hb dX11_makeColumn_1 rfl hl (by decide) rfl (fun ls hl => ?_)
  refine lv_iconst (v := 0) hx hb dX11_makeColumn_2 (by decide) ?_
  refine k_topi (y := nI 0) (by rfl) ?_
  refine lv_istore_n (lv' := [(3, .int (nI 0)), (2, .int (nI 0)), (0, .ref h), (1, .int (nI c0))]) hx hb dX11_makeColumn_3 rfl hl (by decide) rfl (fun ls hl => ?_)
  have G : wd Z A s (mdW Z h ad iv (ua av 25 (av 25))) s.heap [] := by
    have e9 : ua av 25 (av 25) = av := by
      funext j
      by_cases e : j = 25
      · subst e; exact ua_s
      · exact ua_n e
    rw [e9]; exact G
  refine lp_mcA C h20 hN hc (fun T hT0 H locs ls G hl => ?_) N 0 0 (av 25) (by omega) rfl (fun i hi => absurd hi (by omega)) _ _ _ G (lv_sub hl [0, 1, 2, 3] rfl)
  obtain ⟨th, hthe⟩ : ∃ th, th = tf (col (mV av) c0 N) := ⟨_, rfl⟩
  rw [← hthe] at hT0 hl
  have hm : ∀ v ∈ th, ¬ v = MIS := fun v hv => tf_mem (by rw [hthe] at hv; exact hv)
  have hth : th.length ≤ 48 := by rw [hthe]; have h9 := tf_len (col (mV av) c0 N); rw [col_len] at h9; omega
  refine lv_iconst (v := 0) hx hb dX11_makeColumn_55 (by decide) ?_
  refine k_topi (y := nI 0) (by rfl) ?_
  refine lv_istore_n (lv' := [(3, .int (nI 0)), (2, .int (nI th.length)), (0, .ref h), (1, .int (nI c0))]) hx hb dX11_makeColumn_56 rfl hl (by decide) rfl (fun ls hl => ?_)
  refine lv_iconst (v := 0) hx hb dX11_makeColumn_57 (by decide) ?_
  refine k_topi (y := nI 0) (by rfl) ?_
  refine lv_istore (lv' := [(4, .int (nI 0)), (3, .int (nI 0)), (2, .int (nI th.length)), (0, .ref h), (1, .int (nI c0))]) hx hb dX11_makeColumn_58 hl (by decide) rfl (fun ls hl => ?_)
  refine lv_iconst (v := 0) hx hb dX11_makeColumn_60 (by decide) ?_
  refine k_topi (y := nI 0) (by rfl) ?_
  refine lv_istore (lv' := [(5, .int (nI 0)), (4, .int (nI 0)), (3, .int (nI 0)), (2, .int (nI th.length)), (0, .ref h), (1, .int (nI c0))]) hx hb dX11_makeColumn_61 hl (by decide) rfl (fun ls hl => ?_)
  refine lp_mcB (av := ua av 25 T) C hT0 hm hth (fun ru va z hsw H locs ls G hl => ?_) th.length 0 0 0 (by omega) rfl _ _ _ G (lv_sub hl [0, 2, 1, 4, 5, 3] rfl)
  refine lp_mcC C hth hsw (fun wn hwn H locs ls G hl => ?_) G hl
  refine lv_aload_n hx hb dX11_makeColumn_186 rfl (lv_at hl 1 rfl) ?_
  refine lv_iload hx hb dX11_makeColumn_187 (lv_at hl 0 rfl) ?_
  refine lv_i2l (v := (nI wn).toInt64) hx hb dX11_makeColumn_189 rfl ?_
  refine lv_iconst (v := 1) hx hb dX11_makeColumn_190 (by decide) ?_
  refine kcM_v G (krV 2 rfl (As := [.long ((nI wn).toInt64), .int 1]) (rest := []) (ci := 12) (CC := RX11) (T := TX11) (N := 61) C G pmN (c_mu1 Z l h ad iv (ua av 25 T) bs (nI wn) (hmk.same rfl rfl) (by omega) _) (gdV ml_X11_161 im_X11_u se_X11_u ii_X11 co_X11_u) (by decide +kernel) ⟨Nat.le_of_ble_eq_true rfl, Nat.le_of_ble_eq_true rfl⟩ rfl 0 rfl hl rfl (Nat.le_of_ble_eq_true rfl) ⟨Nat.le_of_ble_eq_true rfl, Nat.le_of_ble_eq_true rfl⟩ dX11_makeColumn_191) (fun u H locs hu G => ?_)
  obtain ⟨iv1_, av1_, rfl, hm1, hs1, ha1⟩ := hu
  refine lv_iconst (v := 0) hx hb dX11_makeColumn_194 (by decide) ?_
  refine k_topi (y := nI (8 * 0)) (by rfl) ?_
  refine lv_istore (lv' := [(6, .int (nI (8 * 0))), (5, .int (nI wn)), (0, .ref h), (1, .int (nI c0)), (2, .int (nI th.length))]) hx hb dX11_makeColumn_195 hl (by decide) rfl (fun ls hl => ?_)
  refine lp_mcD (iv0 := iv1_) (av0 := av1_) (nt := th.length) (wn := wn) C (by rw [hs1 20 (by decide)]; exact h20) hN hc (bs := bs ++ [(nI wn).toInt8]) (by rw [List.length_append, List.length_singleton]; omega) (fun iv3 av3 hm3 hs3 ha3 H locs ls G hl => ?_) ((N + 7) / 8) 0 _ _ (by omega) (by rw [show mBs (mV av1_) c0 N 0 = [] from rfl, List.append_nil]; exact hm1) sI.rf sA.rf _ _ _ G (lv_sub hl [0, 2, 3, 4, 1] rfl)
  have hmv : mV av1_ = mV av := mV_same (ha1 21 (by decide))
  rw [hmv] at hm3
  have hT3 : ∀ i, i < th.length → av3 25 i = th.getD i 0 := fun i hi => by rw [ha3 25 (by decide), ha1 25 (by decide)]; exact hT0 i hi
  refine lv_iconst (v := 0) hx hb dX11_makeColumn_282 (by decide) ?_
  refine k_topi (y := nI 0) (by rfl) ?_
  refine lv_istore (lv' := [(6, .int (nI 0)), (0, .ref h), (1, .int (nI c0)), (2, .int (nI th.length)), (5, .int (nI wn))]) hx hb dX11_makeColumn_283 hl (by decide) rfl (fun ls hl => ?_)
  have hwcl : swW (col (mV av) c0 N) = wn := by rw [← hwn]; unfold swW; rw [hthe, tf_sw]
  have hstc : stF th = stF (col (mV av) c0 N) := by rw [hthe, tf_st]
  have hcnt : (stF th).1 = th.length := by have h9 := st_cnt hm th.length (Nat.le_refl _); rwa [List.take_length] at h9
  have hEl : (pay (mV av) c0 N).length ≤ 4 * N := pay_le (mV av) c0 N
  have hw3 : wn = 0 ∨ wn = 1 ∨ wn = 2 := by
    rw [← hwn]
    unfold swW
    split
    · exact Or.inr (Or.inr rfl)
    · split
      · exact Or.inr (Or.inl rfl)
      · exact Or.inl rfl
  rcases hw3 with h9 | h9 | h9
  · subst h9
    refine lp_mcE0 C hT3 hm hth (bs := bs ++ [(nI 0).toInt8] ++ mBs (mV av) c0 N ((N + 7) / 8)) (by rw [List.length_append, List.length_append, List.length_singleton, mBs_len]; omega) (fun iv4 av4 hm4 hs4 ha4 H locs ls G hl => ?_) th.length 0  _ _ (by omega) (by rw [show (obF 0 (th.take 0)).1 = [] from rfl, List.append_nil]; exact hm3) sI.rf sA.rf _ _ _ G (lv_sub hl [0, 1, 2, 3, 4] rfl)
    have hpay : pay (mV av) c0 N = (obF 0 th).1 := by unfold pay; rw [hwcl]; rw [if_neg (by decide), hthe, tf_ob]; rfl
    exact lp_mcH (av := av4) (bs := bs ++ [(nI 0).toInt8] ++ mBs (mV av) c0 N ((N + 7) / 8) ++ pay (mV av) c0 N) C (fun i hi => by rw [ha4 25 (by decide)]; exact hT3 i hi) hm hth hcnt hc (by rw [hpay]; exact hm4) (by rw [List.length_append, List.length_append, List.length_append, List.length_singleton, mBs_len]; omega) (fun iv5 av5 b1 b2 b3 b4 b5 b6 b7 => by
      rw [hstc] at b1 b5 b6 b7
      have hAA : sA [14, 25] av av4 := (((sA.rf.up (k := 25) (by decide) T).tr ha1 (by decide)).tr ha3 (by decide)).tr ha4 (by decide)
      refine ⟨iv5, av5, rfl, ?_, fun d h9 => ?_, b5, b6, b7, (((sI.rf.tr hs1 (by decide)).tr hs3 (by decide)).tr hs4 (by decide)).tr b2 (by decide), (hAA.mo (by decide)).tr b3 (by decide)⟩
      · unfold encC
        rw [hwcl]
        simp only [List.append_assoc] at b1 ⊢
        exact b1
      · obtain ⟨q1, q2, q3⟩ := b4 d h9
        rw [q1, q2, q3, hAA 22 (by decide), hAA 23 (by decide), hAA 24 (by decide)]
        exact ⟨rfl, rfl, rfl⟩) G hl
  · subst h9
    refine lp_mcE1 C hT3 hth (bs := bs ++ [(nI 1).toInt8] ++ mBs (mV av) c0 N ((N + 7) / 8)) (by rw [List.length_append, List.length_append, List.length_singleton, mBs_len]; omega) (by rw [hthe]; exact rnB_len hN) (fun iv4 av4 hm4 hs4 ha4 H locs ls G hl => ?_) th.length 0 [] _ _ (by omega) (by rw [List.nil_append]; exact (emR_B hm).symm) (by rw [List.append_nil]; exact hm3) sI.rf sA.rf _ _ _ G (lv_sub hl [0, 1, 2, 3, 4] rfl)
    have hpay : pay (mV av) c0 N = rnB th := by unfold pay; rw [hwcl]; rw [if_pos rfl, hthe]; unfold rnB; rw [tf_rn]
    exact lp_mcH (av := av4) (bs := bs ++ [(nI 1).toInt8] ++ mBs (mV av) c0 N ((N + 7) / 8) ++ pay (mV av) c0 N) C (fun i hi => by rw [ha4 25 (by decide)]; exact hT3 i hi) hm hth hcnt hc (by rw [hpay]; exact hm4) (by rw [List.length_append, List.length_append, List.length_append, List.length_singleton, mBs_len]; omega) (fun iv5 av5 b1 b2 b3 b4 b5 b6 b7 => by
      rw [hstc] at b1 b5 b6 b7
      have hAA : sA [14, 25] av av4 := (((sA.rf.up (k := 25) (by decide) T).tr ha1 (by decide)).tr ha3 (by decide)).tr ha4 (by decide)
      refine ⟨iv5, av5, rfl, ?_, fun d h9 => ?_, b5, b6, b7, (((sI.rf.tr hs1 (by decide)).tr hs3 (by decide)).tr hs4 (by decide)).tr b2 (by decide), (hAA.mo (by decide)).tr b3 (by decide)⟩
      · unfold encC
        rw [hwcl]
        simp only [List.append_assoc] at b1 ⊢
        exact b1
      · obtain ⟨q1, q2, q3⟩ := b4 d h9
        rw [q1, q2, q3, hAA 22 (by decide), hAA 23 (by decide), hAA 24 (by decide)]
        exact ⟨rfl, rfl, rfl⟩) G hl
  · subst h9
    refine lp_mcE2 C hT3 hm hth (bs := bs ++ [(nI 2).toInt8] ++ mBs (mV av) c0 N ((N + 7) / 8)) (by rw [List.length_append, List.length_append, List.length_singleton, mBs_len]; omega) (fun iv4 av4 hm4 hs4 ha4 H locs ls G hl => ?_) th.length 0  _ _ (by omega) (by rw [show (obF 2 (th.take 0)).1 = [] from rfl, List.append_nil]; exact hm3) sI.rf sA.rf _ _ _ G (lv_sub hl [0, 1, 2, 3, 4] rfl)
    have hpay : pay (mV av) c0 N = (obF 2 th).1 := by unfold pay; rw [hwcl]; rw [if_neg (by decide), hthe, tf_ob]; rfl
    exact lp_mcH (av := av4) (bs := bs ++ [(nI 2).toInt8] ++ mBs (mV av) c0 N ((N + 7) / 8) ++ pay (mV av) c0 N) C (fun i hi => by rw [ha4 25 (by decide)]; exact hT3 i hi) hm hth hcnt hc (by rw [hpay]; exact hm4) (by rw [List.length_append, List.length_append, List.length_append, List.length_singleton, mBs_len]; omega) (fun iv5 av5 b1 b2 b3 b4 b5 b6 b7 => by
      rw [hstc] at b1 b5 b6 b7
      have hAA : sA [14, 25] av av4 := (((sA.rf.up (k := 25) (by decide) T).tr ha1 (by decide)).tr ha3 (by decide)).tr ha4 (by decide)
      refine ⟨iv5, av5, rfl, ?_, fun d h9 => ?_, b5, b6, b7, (((sI.rf.tr hs1 (by decide)).tr hs3 (by decide)).tr hs4 (by decide)).tr b2 (by decide), (hAA.mo (by decide)).tr b3 (by decide)⟩
      · unfold encC
        rw [hwcl]
        simp only [List.append_assoc] at b1 ⊢
        exact b1
      · obtain ⟨q1, q2, q3⟩ := b4 d h9
        rw [q1, q2, q3, hAA 22 (by decide), hAA 23 (by decide), hAA 24 (by decide)]
        exact ⟨rfl, rfl, rfl⟩) G hl
