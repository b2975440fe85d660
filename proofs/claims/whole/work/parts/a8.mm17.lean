/-! MODEL (X11): reads. -/
set_option maxRecDepth 100000 in
set_option maxHeartbeats 4000000 in
theorem lp_mrs {p : Program} {l : Launch} {e : Env} {s : State} {m : MethodId} {args : Array Value} {below : List Frame} {meth : Method} {c : Code} {Z : zT} {A : Nat → Prop} {Q : State → Prop} {h : Nat} {ad : Nat → Nat} {iv : ivT} {av : avT} {ob : List obT} {b vn : Nat} (C : cx p s m args meth c cX11_reads 7 (some .boolean) RX11 "reads") (h4 : iv 4 = nI ob.length) (hob : ob.length ≤ 100) (hat : mo_at av ob) (kk : ∀ (best : Int32), ((best = -1 ∧ ∀ (j : Nat) (o : obT), j < ob.length → ob[j]? = some o → ¬ (o.1 = 2 ∧ o.2.1 < nI b)) ∨ ∃ (j0 : Nat) (o0 : obT), best = nI j0 ∧ j0 < ob.length ∧ ob[j0]? = some o0 ∧ o0.1 = 2 ∧ o0.2.1 < nI b ∧ ∀ (j : Nat) (o : obT), j < ob.length → ob[j]? = some o → o.1 = 2 → o.2.1 < nI b → o.2.1 ≤ o0.2.1) → ∀ (H : Heap) (locs : List Loc) (ls : Array Slot), wd Z A s (mdW Z h ad iv av) H locs → lv_has ls 7 [(5, .int best), (3, .int (nI b)), (2, .int (nI 0)), (0, .ref h), (1, .int (nI vn))] → W p l e ({ frames := 3, cells := 0, slots := 0, locals := 100 }) s m args below meth c H locs 0 0 Q (F0 m 113 ls [])) : ∀ (n k : Nat) (best : Int32), k + n = ob.length → ((best = -1 ∧ ∀ (j : Nat) (o : obT), j < k → ob[j]? = some o → ¬ (o.1 = 2 ∧ o.2.1 < nI b)) ∨ ∃ (j0 : Nat) (o0 : obT), best = nI j0 ∧ j0 < k ∧ ob[j0]? = some o0 ∧ o0.1 = 2 ∧ o0.2.1 < nI b ∧ ∀ (j : Nat) (o : obT), j < k → ob[j]? = some o → o.1 = 2 → o.2.1 < nI b → o.2.1 ≤ o0.2.1) → ∀ (H : Heap) (locs : List Loc) (ls : Array Slot), wd Z A s (mdW Z h ad iv av) H locs → lv_has ls 7 [(6, .int (nI k)), (5, .int best), (3, .int (nI b)), (2, .int (nI 0)), (0, .ref h), (1, .int (nI vn))] → W p l e ({ frames := 3, cells := 0, slots := 0, locals := 100 }) s m args below meth c H locs 0 0 Q (F0 m 50 ls []) := by
  have hx := C.1
  have hb := C.2.1
  have hown := C.2.2.2.2.2.1
  have hts := C.2.2.2.2.2.2.1
  intro n
  induction n with
  | zero =>
    intro k best hkn hbst H locs ls G hl
    refine lv_iload hx hb dX11_reads_50 (lv_at hl 0 rfl) ?_
    refine lv_aload_n hx hb dX11_reads_52 rfl (lv_at hl 4 rfl) ?_
    refine k_mgi (v := nI ob.length) C G 4 (by decide) mr_4 h4 fl_X11_150 rfl dX11_reads_53 ?_
    refine lv_icmp_ge (tgt := 113) hx hb dX11_reads_56 (by decide) (fun c_56 => ?_) (fun c_56 => ?_)
    · have n_56 := nb_le (a := ob.length) (b := k) c_56 (by omega) (by omega)
      have hkl : k = ob.length := by omega
      subst hkl
      exact kk best hbst _ _ _ G (lv_sub hl [1, 2, 3, 4, 5] rfl)
    · exact absurd (nb_nle (a := ob.length) (b := k) c_56 (by omega) (by omega)) (by omega)
  | succ n ih =>
    intro k best hkn hbst H locs ls G hl
    obtain ⟨q, hk⟩ : ∃ q, ob[k]? = some q := ⟨_, List.getElem?_eq_getElem (show k < ob.length by omega)⟩
    rcases hbst with ⟨hb1, hno⟩ | ⟨j0, o0, hb1, hjk, hj0, hs0, hb0, hmx⟩
    · subst hb1
      refine lv_iload hx hb dX11_reads_50 (lv_at hl 0 rfl) ?_
      refine lv_aload_n hx hb dX11_reads_52 rfl (lv_at hl 4 rfl) ?_
      refine k_mgi (v := nI ob.length) C G 4 (by decide) mr_4 h4 fl_X11_150 rfl dX11_reads_53 ?_
      refine lv_icmp_ge (tgt := 113) hx hb dX11_reads_56 (by decide) (fun c_56 => ?_) (fun c_56 => ?_)
      · exact absurd (nb_le (a := ob.length) (b := k) c_56 (by omega) (by omega)) (by omega)
      · have n_56 := nb_nle (a := ob.length) (b := k) c_56 (by omega) (by omega)
        refine lv_aload_n hx hb dX11_reads_59 rfl (lv_at hl 4 rfl) ?_
        refine k_mga C G 0 (by decide) mr_0 fl_X11_7 rfl dX11_reads_60 ?_
        refine lv_iload hx hb dX11_reads_63 (lv_at hl 0 rfl) ?_
        refine k_mil (v := q.1) (i := k) C G 0 (k := 0) (n := 100) mp_0 (by decide) (by omega) ((hat.1 k q hk).1) dX11_reads_65 ?_
        refine lv_iconst (v := 2) hx hb dX11_reads_66 (by decide) ?_
        refine lv_icmp_ne (tgt := 107) hx hb dX11_reads_67 (by decide) (fun c_67 => ?_) (fun c_67 => ?_)
        · refine lv_iinc (v := nI (k + 1)) (lv' := [(6, .int (nI (k + 1))), (5, .int (-1)), (3, .int (nI b)), (2, .int (nI 0)), (0, .ref h), (1, .int (nI vn))]) hx hb dX11_reads_107 hl (k := 0) rfl (nI_1 _) (by decide) rfl (fun ls hl => ?_)
          refine lv_goto (tgt := 50) hx hb dX11_reads_110 (by decide) ?_
          exact ih (k + 1) _ (by omega) (Or.inl ⟨rfl, (fun j o hj ho => by
            by_cases e : j = k
            · subst e; rw [hk] at ho; cases ho; exact fun z => c_67 z.1
            · exact hno j o (by omega) ho)⟩) _ _ _ G (lv_sub hl [0, 1, 2, 3, 4, 5] rfl)
        · refine lv_aload_n hx hb dX11_reads_70 rfl (lv_at hl 4 rfl) ?_
          refine k_mga C G 1 (by decide) mr_1 fl_X11_13 rfl dX11_reads_71 ?_
          refine lv_iload hx hb dX11_reads_74 (lv_at hl 0 rfl) ?_
          refine k_mil (v := q.2.1) (i := k) C G 1 (k := 1) (n := 100) mp_1 (by decide) (by omega) ((hat.1 k q hk).2.1) dX11_reads_76 ?_
          refine lv_iload_n hx hb dX11_reads_77 rfl (lv_at hl 2 rfl) ?_
          refine lv_icmp_ge (tgt := 107) hx hb dX11_reads_78 (by decide) (fun c_78 => ?_) (fun c_78 => ?_)
          · refine lv_iinc (v := nI (k + 1)) (lv' := [(6, .int (nI (k + 1))), (5, .int (-1)), (3, .int (nI b)), (2, .int (nI 0)), (0, .ref h), (1, .int (nI vn))]) hx hb dX11_reads_107 hl (k := 0) rfl (nI_1 _) (by decide) rfl (fun ls hl => ?_)
            refine lv_goto (tgt := 50) hx hb dX11_reads_110 (by decide) ?_
            exact ih (k + 1) _ (by omega) (Or.inl ⟨rfl, (fun j o hj ho => by
              by_cases e : j = k
              · subst e; rw [hk] at ho; cases ho; exact fun z => absurd z.2 (Int32.not_lt.mpr c_78)
              · exact hno j o (by omega) ho)⟩) _ _ _ G (lv_sub hl [0, 1, 2, 3, 4, 5] rfl)
          · refine lv_iload hx hb dX11_reads_81 (lv_at hl 1 rfl) ?_
            refine lv_if_lt (tgt := 103) hx hb dX11_reads_83 (by decide) (fun c_83 => ?_) (fun c_83 => ?_)
            · refine lv_iload hx hb dX11_reads_103 (lv_at hl 0 rfl) ?_
              refine lv_istore (lv' := [(5, .int (nI k)), (6, .int (nI k)), (3, .int (nI b)), (2, .int (nI 0)), (0, .ref h), (1, .int (nI vn))]) hx hb dX11_reads_105 hl (by decide) rfl (fun ls hl => ?_)
              refine lv_iinc (v := nI (k + 1)) (lv' := [(6, .int (nI (k + 1))), (5, .int (nI k)), (3, .int (nI b)), (2, .int (nI 0)), (0, .ref h), (1, .int (nI vn))]) hx hb dX11_reads_107 hl (k := 1) rfl (nI_1 _) (by decide) rfl (fun ls hl => ?_)
              refine lv_goto (tgt := 50) hx hb dX11_reads_110 (by decide) ?_
              exact ih (k + 1) _ (by omega) (Or.inr ⟨k, q, rfl, by omega, hk, c_67, Int32.not_le.mp c_78, fun j o hj ho h1 h2 => by
                by_cases e : j = k
                · subst e; rw [hk] at ho; cases ho; exact Int32.le_refl _
                · exact absurd ⟨h1, h2⟩ (hno j o (by omega) ho)⟩) _ _ _ G (lv_sub hl [0, 1, 2, 3, 4, 5] rfl)
            · exact absurd c_83 (by decide)
    · subst hb1
      refine lv_iload hx hb dX11_reads_50 (lv_at hl 0 rfl) ?_
      refine lv_aload_n hx hb dX11_reads_52 rfl (lv_at hl 4 rfl) ?_
      refine k_mgi (v := nI ob.length) C G 4 (by decide) mr_4 h4 fl_X11_150 rfl dX11_reads_53 ?_
      refine lv_icmp_ge (tgt := 113) hx hb dX11_reads_56 (by decide) (fun c_56 => ?_) (fun c_56 => ?_)
      · exact absurd (nb_le (a := ob.length) (b := k) c_56 (by omega) (by omega)) (by omega)
      · have n_56 := nb_nle (a := ob.length) (b := k) c_56 (by omega) (by omega)
        refine lv_aload_n hx hb dX11_reads_59 rfl (lv_at hl 4 rfl) ?_
        refine k_mga C G 0 (by decide) mr_0 fl_X11_7 rfl dX11_reads_60 ?_
        refine lv_iload hx hb dX11_reads_63 (lv_at hl 0 rfl) ?_
        refine k_mil (v := q.1) (i := k) C G 0 (k := 0) (n := 100) mp_0 (by decide) (by omega) ((hat.1 k q hk).1) dX11_reads_65 ?_
        refine lv_iconst (v := 2) hx hb dX11_reads_66 (by decide) ?_
        refine lv_icmp_ne (tgt := 107) hx hb dX11_reads_67 (by decide) (fun c_67 => ?_) (fun c_67 => ?_)
        · refine lv_iinc (v := nI (k + 1)) (lv' := [(6, .int (nI (k + 1))), (5, .int (nI j0)), (3, .int (nI b)), (2, .int (nI 0)), (0, .ref h), (1, .int (nI vn))]) hx hb dX11_reads_107 hl (k := 0) rfl (nI_1 _) (by decide) rfl (fun ls hl => ?_)
          refine lv_goto (tgt := 50) hx hb dX11_reads_110 (by decide) ?_
          exact ih (k + 1) _ (by omega) (Or.inr ⟨j0, o0, rfl, by omega, hj0, hs0, hb0, (fun j o hj ho h1 h2 => by
            by_cases e : j = k
            · subst e; rw [hk] at ho; cases ho; exact absurd h1 c_67
            · exact hmx j o (by omega) ho h1 h2)⟩) _ _ _ G (lv_sub hl [0, 1, 2, 3, 4, 5] rfl)
        · refine lv_aload_n hx hb dX11_reads_70 rfl (lv_at hl 4 rfl) ?_
          refine k_mga C G 1 (by decide) mr_1 fl_X11_13 rfl dX11_reads_71 ?_
          refine lv_iload hx hb dX11_reads_74 (lv_at hl 0 rfl) ?_
          refine k_mil (v := q.2.1) (i := k) C G 1 (k := 1) (n := 100) mp_1 (by decide) (by omega) ((hat.1 k q hk).2.1) dX11_reads_76 ?_
          refine lv_iload_n hx hb dX11_reads_77 rfl (lv_at hl 2 rfl) ?_
          refine lv_icmp_ge (tgt := 107) hx hb dX11_reads_78 (by decide) (fun c_78 => ?_) (fun c_78 => ?_)
          · refine lv_iinc (v := nI (k + 1)) (lv' := [(6, .int (nI (k + 1))), (5, .int (nI j0)), (3, .int (nI b)), (2, .int (nI 0)), (0, .ref h), (1, .int (nI vn))]) hx hb dX11_reads_107 hl (k := 0) rfl (nI_1 _) (by decide) rfl (fun ls hl => ?_)
            refine lv_goto (tgt := 50) hx hb dX11_reads_110 (by decide) ?_
            exact ih (k + 1) _ (by omega) (Or.inr ⟨j0, o0, rfl, by omega, hj0, hs0, hb0, (fun j o hj ho h1 h2 => by
              by_cases e : j = k
              · subst e; rw [hk] at ho; cases ho; exact absurd h2 (Int32.not_lt.mpr c_78)
              · exact hmx j o (by omega) ho h1 h2)⟩) _ _ _ G (lv_sub hl [0, 1, 2, 3, 4, 5] rfl)
          · refine lv_iload hx hb dX11_reads_81 (lv_at hl 1 rfl) ?_
            refine lv_if_lt (tgt := 103) hx hb dX11_reads_83 (by decide) (fun c_83 => ?_) (fun c_83 => ?_)
            · exact absurd (nb_lt (a := j0) (b := 0) c_83 (by omega) (by omega)) (by omega)
            · have n_83 := nb_nlt (a := j0) (b := 0) c_83 (by omega) (by omega)
              refine lv_aload_n hx hb dX11_reads_86 rfl (lv_at hl 4 rfl) ?_
              refine k_mga C G 1 (by decide) mr_1 fl_X11_13 rfl dX11_reads_87 ?_
              refine lv_iload hx hb dX11_reads_90 (lv_at hl 0 rfl) ?_
              refine k_mil (v := q.2.1) (i := k) C G 1 (k := 1) (n := 100) mp_1 (by decide) (by omega) ((hat.1 k q hk).2.1) dX11_reads_92 ?_
              refine lv_aload_n hx hb dX11_reads_93 rfl (lv_at hl 4 rfl) ?_
              refine k_mga C G 1 (by decide) mr_1 fl_X11_13 rfl dX11_reads_94 ?_
              refine lv_iload hx hb dX11_reads_97 (lv_at hl 1 rfl) ?_
              refine k_mil (v := o0.2.1) (i := j0) C G 1 (k := 1) (n := 100) mp_1 (by decide) (by omega) ((hat.1 j0 o0 hj0).2.1) dX11_reads_99 ?_
              refine lv_icmp_le (tgt := 107) hx hb dX11_reads_100 (by decide) (fun c_100 => ?_) (fun c_100 => ?_)
              · refine lv_iinc (v := nI (k + 1)) (lv' := [(6, .int (nI (k + 1))), (5, .int (nI j0)), (3, .int (nI b)), (2, .int (nI 0)), (0, .ref h), (1, .int (nI vn))]) hx hb dX11_reads_107 hl (k := 0) rfl (nI_1 _) (by decide) rfl (fun ls hl => ?_)
                refine lv_goto (tgt := 50) hx hb dX11_reads_110 (by decide) ?_
                exact ih (k + 1) _ (by omega) (Or.inr ⟨j0, o0, rfl, by omega, hj0, hs0, hb0, (fun j o hj ho h1 h2 => by
                  by_cases e : j = k
                  · subst e; rw [hk] at ho; cases ho; exact c_100
                  · exact hmx j o (by omega) ho h1 h2)⟩) _ _ _ G (lv_sub hl [0, 1, 2, 3, 4, 5] rfl)
              · refine lv_iload hx hb dX11_reads_103 (lv_at hl 0 rfl) ?_
                refine lv_istore (lv' := [(5, .int (nI k)), (6, .int (nI k)), (3, .int (nI b)), (2, .int (nI 0)), (0, .ref h), (1, .int (nI vn))]) hx hb dX11_reads_105 hl (by decide) rfl (fun ls hl => ?_)
                refine lv_iinc (v := nI (k + 1)) (lv' := [(6, .int (nI (k + 1))), (5, .int (nI k)), (3, .int (nI b)), (2, .int (nI 0)), (0, .ref h), (1, .int (nI vn))]) hx hb dX11_reads_107 hl (k := 1) rfl (nI_1 _) (by decide) rfl (fun ls hl => ?_)
                refine lv_goto (tgt := 50) hx hb dX11_reads_110 (by decide) ?_
                exact ih (k + 1) _ (by omega) (Or.inr ⟨k, q, rfl, by omega, hk, c_67, Int32.not_le.mp c_78, fun j o hj ho h1 h2 => by
                  by_cases e : j = k
                  · subst e; rw [hk] at ho; cases ho; exact Int32.le_refl _
                  · exact Int32.le_of_lt (Int32.lt_of_le_of_lt (hmx j o (by omega) ho h1 h2) (Int32.not_le.mp c_100))⟩) _ _ _ G (lv_sub hl [0, 1, 2, 3, 4, 5] rfl)
set_option maxRecDepth 100000 in
set_option maxHeartbeats 4000000 in
theorem lp_mrw {p : Program} {l : Launch} {e : Env} {s : State} {m : MethodId} {args : Array Value} {below : List Frame} {meth : Method} {c : Code} {Z : zT} {A : Nat → Prop} {Q : State → Prop} {h : Nat} {ad : Nat → Nat} {iv0 : ivT} {av0 : avT} {ob : List obT} {vn : Nat} (C : cx p s m args meth c cX11_reads 7 (some .boolean) RX11 "reads") (ho : mo_ok iv0 av0 ob) (hin : mo_in ob) (hvn : vn < 2 ^ 20) (kk1 : ∀ (iv : ivT) (av : avT), ckM ob (vn + 1) = none → iv 30 = 0 → sI [16, 17, 18, 30] iv0 iv → sA [31, 32] av0 av → ∀ (H : Heap) (locs : List Loc) (ls : Array Slot), wd Z A s (mdW Z h ad iv av) H locs → lv_has ls 7 [(2, .int (nI 0)), (0, .ref h), (1, .int (nI vn))] → W p l e ({ frames := 3, cells := 0, slots := 0, locals := 100 }) s m args below meth c H locs 0 0 Q (F0 m 165 ls [])) (kk2 : ∀ (iv : ivT) (av : avT) (b : Nat) (bs : List Int8), b ≤ vn → ckM ob (vn + 1) = some (b, bs) → iv 30 = nI (ub (fnB bs 5)) → (∀ j, j < ub (fnB bs 5) → av 31 j = cN (fnB bs) j ∧ av 32 j = nI (cP (fnB bs) j)) → sI [16, 17, 18, 30] iv0 iv → sA [31, 32] av0 av → ∀ (H : Heap) (locs : List Loc) (ls : Array Slot), wd Z A s (mdW Z h ad iv av) H locs → lv_has ls 7 [(2, .int (nI (b + 1))), (0, .ref h), (1, .int (nI vn))] → W p l e ({ frames := 3, cells := 0, slots := 0, locals := 100 }) s m args below meth c H locs 0 0 Q (F0 m 165 ls [])) : ∀ (b : Nat) (iv : ivT) (av : avT), b ≤ vn + 1 → ckM ob (vn + 1) = ckM ob b → sI [16, 17, 18, 30] iv0 iv → sA [31, 32] av0 av → ∀ (H : Heap) (locs : List Loc) (ls : Array Slot), wd Z A s (mdW Z h ad iv av) H locs → lv_has ls 7 [(4, .int 1), (3, .int (nI b)), (2, .int (nI 0)), (0, .ref h), (1, .int (nI vn))] → W p l e ({ frames := 3, cells := 0, slots := 0, locals := 100 }) s m args below meth c H locs 0 0 Q (F0 m 39 ls []) := by
  have hx := C.1
  have hb := C.2.1
  have hown := C.2.2.2.2.2.1
  have hts := C.2.2.2.2.2.2.1
  intro b
  induction b using Nat.strongRecOn with
  | _ b ih =>
    intro iv av hbv hinv hsI hsA H locs ls G hl
    have hob := ho.2.1
    have h4v : iv 4 = nI ob.length := (hsI 4 (by decide)).trans ho.1
    have h5v : iv 5 = nI (oSz ob) := (hsI 5 (by decide)).trans ho.2.2.1
    have hatv : mo_at av ob := ho.2.2.2.same (hsA 0 (by decide)) (hsA 1 (by decide)) (hsA 2 (by decide)) (hsA 3 (by decide))
    refine lv_iload hx hb dX11_reads_39 (lv_at hl 0 rfl) ?_
    refine lv_if_eq (tgt := 165) hx hb dX11_reads_41 (by decide) (fun c_41 => ?_) (fun c_41 => ?_)
    · exact absurd c_41 (by decide)
    · have n_41 := nb_ne (a := 1) (b := 0) c_41 (by omega) (by omega)
      refine lv_iconst (v := (-1)) hx hb dX11_reads_44 (by decide) ?_
      refine lv_istore (lv' := [(5, .int (-1)), (4, .int 1), (3, .int (nI b)), (2, .int (nI 0)), (0, .ref h), (1, .int (nI vn))]) hx hb dX11_reads_45 hl (by decide) rfl (fun ls hl => ?_)
      refine lv_iconst (v := 0) hx hb dX11_reads_47 (by decide) ?_
      refine k_topi (y := nI 0) (by rfl) ?_
      refine lv_istore (lv' := [(6, .int (nI 0)), (5, .int (-1)), (4, .int 1), (3, .int (nI b)), (2, .int (nI 0)), (0, .ref h), (1, .int (nI vn))]) hx hb dX11_reads_48 hl (by decide) rfl (fun ls hl => ?_)
      refine lp_mrs (b := b) (vn := vn) C h4v hob hatv (fun best hbst H locs ls G hl => ?_) ob.length 0 (-1) (by omega) (Or.inl ⟨rfl, fun j o hj => absurd hj (by omega)⟩) _ _ _ G (lv_sub hl [0, 1, 3, 4, 5, 6] rfl)
      rcases hbst with ⟨hb1, hno⟩ | ⟨j0, o0, hb1, hjk, hj0, hs0, hb0, hmx⟩
      · subst hb1
        refine lv_iload hx hb dX11_reads_113 (lv_at hl 0 rfl) ?_
        refine lv_if_lt (tgt := 122) hx hb dX11_reads_115 (by decide) (fun c_115 => ?_) (fun c_115 => ?_)
        · refine lv_iconst (v := 0) hx hb dX11_reads_122 (by decide) ?_
          refine lv_istore (lv' := [(4, .int 0), (5, .int (-1)), (3, .int (nI b)), (2, .int (nI 0)), (0, .ref h), (1, .int (nI vn))]) hx hb dX11_reads_123 hl (by decide) rfl (fun ls hl => ?_)
          refine lv_aload_n hx hb dX11_reads_125 rfl (lv_at hl 4 rfl) ?_
          refine lv_iconst (v := 0) hx hb dX11_reads_126 (by decide) ?_
          refine k_mpi (v := 0) (ty := .int) C G 30 (by decide) mr_30 fl_X11_245 rfl rfl rfl rfl rfl dX11_reads_127 (fun H locs (G : wd Z A s (mdW Z h ad (upd iv 30 0) av) H locs) => ?_)
          refine lv_iload hx hb dX11_reads_130 (lv_at hl 0 rfl) ?_
          refine lv_if_ne (tgt := 138) hx hb dX11_reads_132 (by decide) (fun c_132 => ?_) (fun c_132 => ?_)
          · exact absurd c_132 (by decide)
          · have n_132 := nb_eq (a := 0) (b := 0) c_132 (by omega) (by omega)
            refine lv_goto (tgt := 39) hx hb dX11_reads_135 (by decide) ?_
            have hnone : ckM ob b = none := by
              have h9 := ckM_gap (ob := ob) (a := 0) b (fun k h1 h2 => by
                cases hq : mLk ob 2 (nI k) with
                | none => rfl
                | some bs =>
                  obtain ⟨k2, o2, _, e2, e3, e4, _⟩ := mLk_mem hq
                  exact absurd ⟨e3, by rw [e4]; exact nI_lt (by omega) (by omega)⟩ (hno k2 o2 (List.getElem?_eq_some_iff.mp e2).1 e2))
              rw [Nat.zero_add] at h9; exact h9
            refine lv_iload hx hb dX11_reads_39 (lv_at hl 0 rfl) ?_
            refine lv_if_eq (tgt := 165) hx hb dX11_reads_41 (by decide) (fun c_41 => ?_) (fun c_41 => ?_)
            · have n_41 := nb_eq (a := 0) (b := 0) c_41 (by omega) (by omega)
              exact kk1 _ _ (by rw [hinv, show ckM ob b = none from hnone]) rfl (hsI.up (by decide) _) hsA _ _ _ G (lv_sub hl [3, 4, 5] rfl)
            · exact absurd c_41 (by decide)
        · exact absurd c_115 (by decide)
      · subst hb1
        obtain ⟨n0, hn0s, hn0⟩ := hin.2.1 o0 (List.mem_of_getElem? hj0)
        have hnb : n0 < b := nb_lt (by rw [← hn0]; exact hb0) (by omega) (by omega)
        have hgap : ckM ob b = ckM ob (n0 + 1) := by
          have h9 := ckM_gap (ob := ob) (a := n0 + 1) (b - (n0 + 1)) (fun k h1 h2 => by
            cases hq : mLk ob 2 (nI k) with
            | none => rfl
            | some bs =>
              obtain ⟨k2, o2, _, e2, e3, e4, _⟩ := mLk_mem hq
              have h8 := hmx k2 o2 (List.getElem?_eq_some_iff.mp e2).1 e2 e3 (by rw [e4]; exact nI_lt (by omega) (by omega))
              rw [e4, hn0] at h8
              exact absurd (nb_le h8 (by omega) (by omega)) (by omega))
          rw [show n0 + 1 + (b - (n0 + 1)) = b by omega] at h9; exact h9
        have hlk : mLk ob 2 (nI n0) = some o0.2.2 := by rw [← hs0, ← hn0]; exact mLk_at hin.1 hj0
        have hok2 : mo_ok (upd iv 30 0) av ob := ⟨h4v, hob, h5v, hatv⟩
        refine lv_iload hx hb dX11_reads_113 (lv_at hl 0 rfl) ?_
        refine lv_if_lt (tgt := 122) hx hb dX11_reads_115 (by decide) (fun c_115 => ?_) (fun c_115 => ?_)
        · exact absurd (nb_lt (a := j0) (b := 0) c_115 (by omega) (by omega)) (by omega)
        · have n_115 := nb_nlt (a := j0) (b := 0) c_115 (by omega) (by omega)
          refine lv_iconst (v := 1) hx hb dX11_reads_118 (by decide) ?_
          refine lv_goto (tgt := 123) hx hb dX11_reads_119 (by decide) ?_
          refine lv_istore (lv' := [(4, .int 1), (5, .int (nI j0)), (3, .int (nI b)), (2, .int (nI 0)), (0, .ref h), (1, .int (nI vn))]) hx hb dX11_reads_123 hl (by decide) rfl (fun ls hl => ?_)
          refine lv_aload_n hx hb dX11_reads_125 rfl (lv_at hl 4 rfl) ?_
          refine lv_iconst (v := 0) hx hb dX11_reads_126 (by decide) ?_
          refine k_mpi (v := 0) (ty := .int) C G 30 (by decide) mr_30 fl_X11_245 rfl rfl rfl rfl rfl dX11_reads_127 (fun H locs (G : wd Z A s (mdW Z h ad (upd iv 30 0) av) H locs) => ?_)
          refine lv_iload hx hb dX11_reads_130 (lv_at hl 0 rfl) ?_
          refine lv_if_ne (tgt := 138) hx hb dX11_reads_132 (by decide) (fun c_132 => ?_) (fun c_132 => ?_)
          · have n_132 := nb_ne (a := 1) (b := 0) c_132 (by omega) (by omega)
            refine lv_aload_n hx hb dX11_reads_138 rfl (lv_at hl 4 rfl) ?_
            refine k_mga C G 1 (by decide) mr_1 fl_X11_13 rfl dX11_reads_139 ?_
            refine lv_iload hx hb dX11_reads_142 (lv_at hl 1 rfl) ?_
            refine k_mil (v := nI n0) (i := j0) C G 1 (k := 1) (n := 100) mp_1 (by decide) (by omega) ((hatv.1 j0 o0 hj0).2.1.trans hn0) dX11_reads_144 ?_
            refine lv_istore_n (lv' := [(3, .int (nI n0)), (4, .int 1), (5, .int (nI j0)), (2, .int (nI 0)), (0, .ref h), (1, .int (nI vn))]) hx hb dX11_reads_145 rfl hl (by decide) rfl (fun ls hl => ?_)
            refine lv_aload_n hx hb dX11_reads_146 rfl (lv_at hl 4 rfl) ?_
            refine lv_iload hx hb dX11_reads_147 (lv_at hl 2 rfl) ?_
            refine kcM_i G (krV 1 rfl (As := [.int (nI j0)]) (rest := []) (ci := 12) (CC := RX11) (T := TX11) (N := 61) C G pmN (c_X11_readCheckpoint Z l h ad (upd iv 30 0) av ob j0 o0 hok2 hj0 _) (gdV ml_X11_254 im_X11_readCheckpoint se_X11_readCheckpoint ii_X11 co_X11_readCheckpoint) (by decide +kernel) ⟨Nat.le_of_ble_eq_true rfl, Nat.le_of_ble_eq_true rfl⟩ rfl 0 rfl hl rfl (Nat.le_of_ble_eq_true rfl) ⟨Nat.le_of_ble_eq_true rfl, Nat.le_of_ble_eq_true rfl⟩ dX11_reads_149) (fun r_149 u H locs hu G => ?_)
            obtain ⟨iv1_, av1_, rfl, hs1, ha1, hcs1⟩ := hu
            rcases hcs1 with ⟨r_149_e, hck, h30c, hfc⟩ | ⟨r_149_e, hck⟩
            · subst r_149_e
              refine lv_if_eq (tgt := 162) hx hb dX11_reads_152 (by decide) (fun c_152 => ?_) (fun c_152 => ?_)
              · exact absurd c_152 (by decide)
              · have n_152 := nb_ne (a := 1) (b := 0) c_152 (by omega) (by omega)
                refine lv_iload_n hx hb dX11_reads_155 rfl (lv_at hl 0 rfl) ?_
                refine lv_iconst (v := 1) hx hb dX11_reads_156 (by decide) ?_
                refine lv_iadd hx hb dX11_reads_157 ?_
                refine k_topi (y := nI (n0 + 1)) (nI_add n0 1) ?_
                refine lv_istore_n (lv' := [(2, .int (nI (n0 + 1))), (3, .int (nI n0)), (4, .int 1), (5, .int (nI j0)), (0, .ref h), (1, .int (nI vn))]) hx hb dX11_reads_158 rfl hl (by decide) rfl (fun ls hl => ?_)
                refine lv_iconst (v := 0) hx hb dX11_reads_159 (by decide) ?_
                refine lv_istore (lv' := [(4, .int 0), (2, .int (nI (n0 + 1))), (3, .int (nI n0)), (5, .int (nI j0)), (0, .ref h), (1, .int (nI vn))]) hx hb dX11_reads_160 hl (by decide) rfl (fun ls hl => ?_)
                refine lv_goto (tgt := 39) hx hb dX11_reads_162 (by decide) ?_
                refine lv_iload hx hb dX11_reads_39 (lv_at hl 0 rfl) ?_
                refine lv_if_eq (tgt := 165) hx hb dX11_reads_41 (by decide) (fun c_41 => ?_) (fun c_41 => ?_)
                · have n_41 := nb_eq (a := 0) (b := 0) c_41 (by omega) (by omega)
                  rw [hn0] at hck
                  exact kk2 _ _ n0 o0.2.2 (by omega) (by rw [hinv, hgap, ckM_y hlk hck]) h30c hfc ((hsI.up (by decide) _).tr hs1 (by decide)) (hsA.tr ha1 (by decide)) _ _ _ G (lv_sub hl [1, 4, 5] rfl)
                · exact absurd c_41 (by decide)
            · subst r_149_e
              refine lv_if_eq (tgt := 162) hx hb dX11_reads_152 (by decide) (fun c_152 => ?_) (fun c_152 => ?_)
              · have n_152 := nb_eq (a := 0) (b := 0) c_152 (by omega) (by omega)
                refine lv_goto (tgt := 39) hx hb dX11_reads_162 (by decide) ?_
                rw [hn0] at hck
                exact ih n0 (by omega) iv1_ av1_ (by omega) (by rw [hinv, hgap, ckM_u hlk hck]) ((hsI.up (by decide) _).tr hs1 (by decide)) (hsA.tr ha1 (by decide)) _ _ _ G (lv_sub hl [1, 0, 3, 4, 5] rfl)
              · exact absurd c_152 (by decide)
          · exact absurd c_132 (by decide)
set_option maxRecDepth 100000 in
set_option maxHeartbeats 4000000 in
theorem lp_mra {p : Program} {l : Launch} {e : Env} {s : State} {m : MethodId} {args : Array Value} {below : List Frame} {meth : Method} {c : Code} {Z : zT} {A : Nat → Prop} {h : Nat} {ad : Nat → Nat} {iv0 : ivT} {av0 : avT} {Fz : flT} {f : Nat → Int32} {nA k vn : Nat} {post : Int32 → va_W → Prop} (C : cx p s m args meth c cX11_reads 7 (some .boolean) RX11 "reads") (h26 : iv0 26 = nI nA) (hnA : nA < 256) (hac : ∀ j, j < nA → av0 27 j = nI (aK f j) ∧ av0 28 j = aN f j ∧ av0 29 j = nI (aP f j) ∧ ¬ aN f j < 0) (hp0 : ∀ (iv : ivT) (av : avT), sI [30] iv0 iv → sA [31, 32] av0 av → apF f Fz nA = none → post 0 (mdW Z h ad iv av)) (kk : ∀ (iv : ivT) (av : avT) (F : flT), apF f Fz nA = some F → flS iv av F → sI [30] iv0 iv → sA [31, 32] av0 av → ∀ (H : Heap) (locs : List Loc) (ls : Array Slot), wd Z A s (mdW Z h ad iv av) H locs → lv_has ls 7 [(2, .int (nI k)), (0, .ref h), (1, .int (nI vn))] → W p l e ({ frames := 3, cells := 0, slots := 0, locals := 100 }) s m args below meth c H locs 0 0 (MQ below (va_Qi post (mB Z A) A) args s 0 0 A) (F0 m 230 ls [])) : ∀ (n i : Nat) (iv : ivT) (av : avT) (F : flT), i + n = nA → apF f Fz i = some F → flS iv av F → sI [30] iv0 iv → sA [31, 32] av0 av → ∀ (H : Heap) (locs : List Loc) (ls : Array Slot), wd Z A s (mdW Z h ad iv av) H locs → lv_has ls 7 [(5, .int (nI i)), (2, .int (nI k)), (0, .ref h), (1, .int (nI vn))] → W p l e ({ frames := 3, cells := 0, slots := 0, locals := 100 }) s m args below meth c H locs 0 0 (MQ below (va_Qi post (mB Z A) A) args s 0 0 A) (F0 m 204 ls []) := by
  have hx := C.1
  have hb := C.2.1
  have hown := C.2.2.2.2.2.1
  have hts := C.2.2.2.2.2.2.1
  intro n
  induction n with
  | zero =>
    intro i iv av F hin hap hF hsI hsA H locs ls G hl
    have h26v : iv 26 = nI nA := (hsI 26 (by decide)).trans h26
    refine lv_iload hx hb dX11_reads_204 (lv_at hl 0 rfl) ?_
    refine lv_aload_n hx hb dX11_reads_206 rfl (lv_at hl 2 rfl) ?_
    refine k_mgi (v := nI nA) C G 26 (by decide) mr_26 h26v fl_X11_236 rfl dX11_reads_207 ?_
    refine lv_icmp_ge (tgt := 230) hx hb dX11_reads_210 (by decide) (fun c_210 => ?_) (fun c_210 => ?_)
    · have n_210 := nb_le (a := nA) (b := i) c_210 (by omega) (by omega)
      have hin_ : i = nA := by omega
      subst hin_
      exact kk iv av F hap hF hsI hsA _ _ _ G (lv_sub hl [1, 2, 3] rfl)
    · exact absurd (nb_nle (a := nA) (b := i) c_210 (by omega) (by omega)) (by omega)
  | succ n ih =>
    intro i iv av F hin hap hF hsI hsA H locs ls G hl
    have h26v : iv 26 = nI nA := (hsI 26 (by decide)).trans h26
    refine lv_iload hx hb dX11_reads_204 (lv_at hl 0 rfl) ?_
    refine lv_aload_n hx hb dX11_reads_206 rfl (lv_at hl 2 rfl) ?_
    refine k_mgi (v := nI nA) C G 26 (by decide) mr_26 h26v fl_X11_236 rfl dX11_reads_207 ?_
    refine lv_icmp_ge (tgt := 230) hx hb dX11_reads_210 (by decide) (fun c_210 => ?_) (fun c_210 => ?_)
    · exact absurd (nb_le (a := nA) (b := i) c_210 (by omega) (by omega)) (by omega)
    · have n_210 := nb_nle (a := nA) (b := i) c_210 (by omega) (by omega)
      refine lv_aload_n hx hb dX11_reads_213 rfl (lv_at hl 2 rfl) ?_
      refine lv_iload hx hb dX11_reads_214 (lv_at hl 0 rfl) ?_
      refine kcM_i G (krV 1 rfl (As := [.int (nI i)]) (rest := []) (ci := 12) (CC := RX11) (T := TX11) (N := 61) C G pmN (c_X11_does Z l h ad iv av F i (aK f i) (aN f i) (nI (aP f i)) hF (by omega) ((congrFun (hsA 27 (by decide)) i).trans (hac i (by omega)).1) (ub_lt _) ((congrFun (hsA 28 (by decide)) i).trans (hac i (by omega)).2.1) ((congrFun (hsA 29 (by decide)) i).trans (hac i (by omega)).2.2.1) (hac i (by omega)).2.2.2 _) (gdV ml_X11_260 im_X11_does se_X11_does ii_X11 co_X11_does) (by decide +kernel) ⟨Nat.le_of_ble_eq_true rfl, Nat.le_of_ble_eq_true rfl⟩ rfl 0 rfl hl rfl (Nat.le_of_ble_eq_true rfl) ⟨Nat.le_of_ble_eq_true rfl, Nat.le_of_ble_eq_true rfl⟩ dX11_reads_216) (fun r_216 u H locs hu G => ?_)
      obtain ⟨iv1_, av1_, rfl, hs1, ha1, hcs1⟩ := hu
      rcases hcs1 with ⟨r_216_e, F2, hF2, hfs2⟩ | ⟨r_216_e, hF2⟩
      · subst r_216_e
        refine lv_if_ne (tgt := 224) hx hb dX11_reads_219 (by decide) (fun c_219 => ?_) (fun c_219 => ?_)
        · have n_219 := nb_ne (a := 1) (b := 0) c_219 (by omega) (by omega)
          refine lv_iinc (v := nI (i + 1)) (lv' := [(5, .int (nI (i + 1))), (2, .int (nI k)), (0, .ref h), (1, .int (nI vn))]) hx hb dX11_reads_224 hl (k := 0) rfl (nI_1 _) (by decide) rfl (fun ls hl => ?_)
          refine lv_goto (tgt := 204) hx hb dX11_reads_227 (by decide) ?_
          exact ih (i + 1) iv1_ av1_ F2 (by omega) (by rw [apF, hap, Option.bind_some, apX_A]; exact hF2) hfs2 (hsI.tr hs1 (by decide)) (hsA.tr ha1 (by decide)) _ _ _ G (lv_sub hl [0, 1, 2, 3] rfl)
        · exact absurd c_219 (by decide)
      · subst r_216_e
        refine lv_if_ne (tgt := 224) hx hb dX11_reads_219 (by decide) (fun c_219 => ?_) (fun c_219 => ?_)
        · exact absurd c_219 (by decide)
        · have n_219 := nb_eq (a := 0) (b := 0) c_219 (by omega) (by omega)
          refine lv_iconst (v := 0) hx hb dX11_reads_222 (by decide) ?_
          exact kr_z C G (by decide) (hp0 iv1_ av1_ (hsI.tr hs1 (by decide)) (hsA.tr ha1 (by decide)) (by
            have h9 := apF_nn (f := f) (F := Fz) (i := i + 1) (by rw [apF, hap, Option.bind_some, apX_A]; exact hF2) (nA - (i + 1))
            rw [show i + 1 + (nA - (i + 1)) = nA by omega] at h9; exact h9)) (Nat.le_of_ble_eq_true rfl) (Nat.le_of_ble_eq_true rfl) dX11_reads_223
set_option maxRecDepth 100000 in
set_option maxHeartbeats 4000000 in
theorem lp_mrn {p : Program} {l : Launch} {e : Env} {s : State} {m : MethodId} {args : Array Value} {below : List Frame} {meth : Method} {c : Code} {Z : zT} {A : Nat → Prop} {h : Nat} {ad : Nat → Nat} {iv0 : ivT} {av0 : avT} {ob : List obT} {vn : Nat} {RES : Option flT} {post : Int32 → va_W → Prop} (C : cx p s m args meth c cX11_reads 7 (some .boolean) RX11 "reads") (ho : mo_ok iv0 av0 ob) (hvn : vn < 2 ^ 20) (hp0 : ∀ (iv : ivT) (av : avT), sI [16, 17, 18, 26, 30] iv0 iv → sA [27, 28, 29, 31, 32] av0 av → RES = none → post 0 (mdW Z h ad iv av)) (hp1 : ∀ (iv : ivT) (av : avT) (F : flT), sI [16, 17, 18, 26, 30] iv0 iv → sA [27, 28, 29, 31, 32] av0 av → RES = some F → flS iv av F → post 1 (mdW Z h ad iv av)) : ∀ (n k : Nat) (iv : ivT) (av : avT) (F : flT), k + n = vn + 1 → rdM ob n k F = RES → flS iv av F → sI [16, 17, 18, 26, 30] iv0 iv → sA [27, 28, 29, 31, 32] av0 av → ∀ (H : Heap) (locs : List Loc) (ls : Array Slot), wd Z A s (mdW Z h ad iv av) H locs → lv_has ls 7 [(2, .int (nI k)), (0, .ref h), (1, .int (nI vn))] → W p l e ({ frames := 3, cells := 0, slots := 0, locals := 100 }) s m args below meth c H locs 0 0 (MQ below (va_Qi post (mB Z A) A) args s 0 0 A) (F0 m 186 ls []) := by
  have hx := C.1
  have hb := C.2.1
  have hown := C.2.2.2.2.2.1
  have hts := C.2.2.2.2.2.2.1
  intro n
  induction n with
  | zero =>
    intro k iv av F hk hR hF hsI hsA H locs ls G hl
    refine lv_iload_n hx hb dX11_reads_186 rfl (lv_at hl 0 rfl) ?_
    refine lv_iload_n hx hb dX11_reads_187 rfl (lv_at hl 2 rfl) ?_
    refine lv_icmp_gt (tgt := 236) hx hb dX11_reads_188 (by decide) (fun c_188 => ?_) (fun c_188 => ?_)
    · have n_188 := nb_lt (a := vn) (b := k) c_188 (by omega) (by omega)
      refine lv_iconst (v := 1) hx hb dX11_reads_236 (by decide) ?_
      exact kr_z C G (by decide) (hp1 iv av F hsI hsA hR.symm hF) (Nat.le_of_ble_eq_true rfl) (Nat.le_of_ble_eq_true rfl) dX11_reads_237
    · exact absurd (nb_nlt (a := vn) (b := k) c_188 (by omega) (by omega)) (by omega)
  | succ n ih =>
    intro k iv av F hk hR hF hsI hsA H locs ls G hl
    have hok : mo_ok iv av ob := ho.same hsI hsA (by decide) (by decide) (by decide) (by decide) (by decide) (by decide)
    refine lv_iload_n hx hb dX11_reads_186 rfl (lv_at hl 0 rfl) ?_
    refine lv_iload_n hx hb dX11_reads_187 rfl (lv_at hl 2 rfl) ?_
    refine lv_icmp_gt (tgt := 236) hx hb dX11_reads_188 (by decide) (fun c_188 => ?_) (fun c_188 => ?_)
    · exact absurd (nb_lt (a := vn) (b := k) c_188 (by omega) (by omega)) (by omega)
    · have n_188 := nb_nlt (a := vn) (b := k) c_188 (by omega) (by omega)
      refine lv_aload_n hx hb dX11_reads_191 rfl (lv_at hl 1 rfl) ?_
      refine lv_iload_n hx hb dX11_reads_192 rfl (lv_at hl 0 rfl) ?_
      refine kcM_i G (krV 1 rfl (As := [.int (nI k)]) (rest := []) (ci := 12) (CC := RX11) (T := TX11) (N := 61) C G pmN (c_X11_readEntry Z l h ad iv av ob (nI k) hok _) (gdV ml_X11_257 im_X11_readEntry se_X11_readEntry ii_X11 co_X11_readEntry) (by decide +kernel) ⟨Nat.le_of_ble_eq_true rfl, Nat.le_of_ble_eq_true rfl⟩ rfl 0 rfl hl rfl (Nat.le_of_ble_eq_true rfl) ⟨Nat.le_of_ble_eq_true rfl, Nat.le_of_ble_eq_true rfl⟩ dX11_reads_193) (fun r_193 u H locs hu G => ?_)
      obtain ⟨iv1_, av1_, rfl, hs1, ha1, hcs1⟩ := hu
      rcases hcs1 with ⟨r_193_e, bs, hlk, hen, h26c, hfc⟩ | ⟨r_193_e, hen⟩
      · subst r_193_e
        refine lv_if_ne (tgt := 201) hx hb dX11_reads_196 (by decide) (fun c_196 => ?_) (fun c_196 => ?_)
        · have n_196 := nb_ne (a := 1) (b := 0) c_196 (by omega) (by omega)
          refine lv_iconst (v := 0) hx hb dX11_reads_201 (by decide) ?_
          refine k_topi (y := nI 0) (by rfl) ?_
          refine lv_istore (lv' := [(5, .int (nI 0)), (2, .int (nI k)), (0, .ref h), (1, .int (nI vn))]) hx hb dX11_reads_202 hl (by decide) rfl (fun ls hl => ?_)
          rw [rdM_yes hlk hen] at hR
          refine lp_mra (iv0 := iv1_) (av0 := av1_) (Fz := F) (f := fnB bs) (k := k) C h26c (ub_lt _) (fun j hj => ⟨(hfc j hj).1, (hfc j hj).2.1, (hfc j hj).2.2, en_nn hen.2 j hj⟩) (fun iv2 av2 a1 a2 a3 => hp0 iv2 av2 ((hsI.tr hs1 (by decide)).tr a1 (by decide)) ((hsA.tr ha1 (by decide)).tr a2 (by decide)) (by rw [← hR, a3]; rfl)) (fun iv2 av2 F2 a1 a2 a3 a4 H locs ls G hl => ?_) (ub (fnB bs 5)) 0 iv1_ av1_ F (by omega) rfl ⟨(hs1 30 (by decide)).trans hF.1, by rw [ha1 31 (by decide), ha1 32 (by decide)]; exact hF.2.1, hF.2.2⟩ sI.rf sA.rf _ _ _ G (lv_sub hl [0, 1, 2, 3] rfl)
          refine lv_iinc (v := nI (k + 1)) (lv' := [(2, .int (nI (k + 1))), (0, .ref h), (1, .int (nI vn))]) hx hb dX11_reads_230 hl (k := 0) rfl (nI_1 _) (by decide) rfl (fun ls hl => ?_)
          refine lv_goto (tgt := 186) hx hb dX11_reads_233 (by decide) ?_
          exact ih (k + 1) iv2 av2 F2 (by omega) (by rw [← hR, a1]; rfl) a2 ((hsI.tr hs1 (by decide)).tr a3 (by decide)) ((hsA.tr ha1 (by decide)).tr a4 (by decide)) _ _ _ G (lv_sub hl [0, 1, 2] rfl)
        · exact absurd c_196 (by decide)
      · subst r_193_e
        refine lv_if_ne (tgt := 201) hx hb dX11_reads_196 (by decide) (fun c_196 => ?_) (fun c_196 => ?_)
        · exact absurd c_196 (by decide)
        · have n_196 := nb_eq (a := 0) (b := 0) c_196 (by omega) (by omega)
          refine lv_iconst (v := 0) hx hb dX11_reads_199 (by decide) ?_
          exact kr_z C G (by decide) (hp0 iv1_ av1_ (hsI.tr hs1 (by decide)) (hsA.tr ha1 (by decide)) (by rw [← hR, rdM_no hen])) (Nat.le_of_ble_eq_true rfl) (Nat.le_of_ble_eq_true rfl) dX11_reads_200
set_option maxRecDepth 100000 in
set_option maxHeartbeats 4000000 in
theorem c_X11_reads (Z : zT) (l : Launch) (h : Nat) (ad : Nat → Nat) (iv : ivT) (av : avT) (ob : List obT) (flo v : Int32) (ho : mo_ok iv av ob) (hin : mo_in ob) (h13 : iv 13 = flo) (hflo : ¬ flo < 0) : Ki Z l yX11_reads cX11_reads 7 (some .boolean) ({ frames := 3, cells := 0, slots := 0, locals := 100 }) [.ref h, .int v] (mdW Z h ad iv av) (fun r u => ∃ (iv2 : ivT) (av2 : avT), u = mdW Z h ad iv2 av2 ∧ sI [16, 17, 18, 26, 30] iv iv2 ∧ sA [27, 28, 29, 31, 32] av av2 ∧ ((r = 1 ∧ ∃ F, mVr ob flo v = some F ∧ flS iv2 av2 F) ∨ (r = 0 ∧ mVr ob flo v = none))) := by
  intro sz
  refine Met.ofK (cc := cX11_reads) (maxL := 7) (ret := (some .boolean)) (by decide) (Nat.le_of_ble_eq_true rfl) ?_
  intro p e s m below meth c ls C G hl
  generalize va_A _ sz = A at G ⊢
  have hx := C.1
  have hb := C.2.1
  have hown := C.2.2.2.2.2.1
  have hts := C.2.2.2.2.2.2.1
  refine lv_aload_n hx hb dX11_reads_0 rfl (lv_at hl 0 rfl) ?_
  refine lv_iconst (v := 0) hx hb dX11_reads_1 (by decide) ?_
  refine k_mpi (v := 0) (ty := .int) C G 30 (by decide) mr_30 fl_X11_245 rfl rfl rfl rfl rfl dX11_reads_2 (fun H locs (G : wd Z A s (mdW Z h ad (upd iv 30 0) av) H locs) => ?_)
  refine lv_iload_n hx hb dX11_reads_5 rfl (lv_at hl 1 rfl) ?_
  refine lv_iconst (v := (-1)) hx hb dX11_reads_6 (by decide) ?_
  refine lv_icmp_ne (tgt := 12) hx hb dX11_reads_7 (by decide) (fun c_7 => ?_) (fun c_7 => ?_)
  · refine lv_iload_n hx hb dX11_reads_12 rfl (lv_at hl 1 rfl) ?_
    refine lv_aload_n hx hb dX11_reads_13 rfl (lv_at hl 0 rfl) ?_
    refine k_mgi (v := flo) C G 13 (by decide) mr_13 h13 fl_X11_248 rfl dX11_reads_14 ?_
    refine lv_icmp_lt (tgt := 28) hx hb dX11_reads_17 (by decide) (fun c_17 => ?_) (fun c_17 => ?_)
    · refine lv_iconst (v := 0) hx hb dX11_reads_28 (by decide) ?_
      exact kr_z C G (by decide) ⟨_, _, rfl, sI.rf.up (by decide) _, sA.rf, Or.inr ⟨rfl, by rw [mVr, if_neg c_7, if_pos (Or.inl c_17)]⟩⟩ (Nat.le_of_ble_eq_true rfl) (Nat.le_of_ble_eq_true rfl) dX11_reads_29
    · refine lv_iload_n hx hb dX11_reads_20 rfl (lv_at hl 1 rfl) ?_
      refine lv_aload_n hx hb dX11_reads_21 rfl (lv_at hl 0 rfl) ?_
      refine kcM_i G (krV 0 rfl (As := []) (rest := [.int v]) (ci := 12) (CC := RX11) (T := TX11) (N := 61) C G pmN (c_X11_latest Z l h ad (upd iv 30 0) av ob ⟨ho.1, ho.2.1, ho.2.2.1, ho.2.2.2⟩ _) (gdV ml_X11_251 im_X11_latest se_X11_latest ii_X11 co_X11_latest) (by decide +kernel) ⟨Nat.le_of_ble_eq_true rfl, Nat.le_of_ble_eq_true rfl⟩ rfl 0 rfl hl rfl (Nat.le_of_ble_eq_true rfl) ⟨Nat.le_of_ble_eq_true rfl, Nat.le_of_ble_eq_true rfl⟩ dX11_reads_22) (fun r_22 u H locs hu G => ?_)
      obtain ⟨r_22_e, rfl⟩ := hu
      subst r_22_e
      refine lv_icmp_le (tgt := 30) hx hb dX11_reads_25 (by decide) (fun c_25 => ?_) (fun c_25 => ?_)
      · have hrg : ¬ (v < flo ∨ mLt ob < v) := by rintro (z | z); exact c_17 z; exact absurd z (Int32.not_lt.mpr c_25)
        have hv0 : ¬ v < 0 := fun z => c_17 (Int32.lt_of_lt_of_le z (Int32.not_lt.mp hflo))
        obtain ⟨vn, hv31, hvn0⟩ := nI_of hv0
        have hvn : vn < 2 ^ 20 := by
          rcases mLt_small hin.2.1 with h9 | ⟨q, hq, h9⟩
          · rw [h9, hvn0] at c_25; exact absurd c_25 (Int32.not_le.mpr (neg1_lt.mpr (nI_pos hv31)))
          · rw [h9, hvn0] at c_25; have := nb_le c_25 hv31 (by omega); omega
        subst hvn0
        refine lv_iconst (v := 0) hx hb dX11_reads_30 (by decide) ?_
        refine k_topi (y := nI 0) (by rfl) ?_
        refine lv_istore_n (lv' := [(2, .int (nI 0)), (0, .ref h), (1, .int (nI vn))]) hx hb dX11_reads_31 rfl hl (by decide) rfl (fun ls hl => ?_)
        refine lv_iload_n hx hb dX11_reads_32 rfl (lv_at hl 2 rfl) ?_
        refine lv_iconst (v := 1) hx hb dX11_reads_33 (by decide) ?_
        refine lv_iadd hx hb dX11_reads_34 ?_
        refine k_topi (y := nI (vn + 1)) (nI_add vn 1) ?_
        refine lv_istore_n (lv' := [(3, .int (nI (vn + 1))), (2, .int (nI 0)), (0, .ref h), (1, .int (nI vn))]) hx hb dX11_reads_35 rfl hl (by decide) rfl (fun ls hl => ?_)
        refine lv_iconst (v := 1) hx hb dX11_reads_36 (by decide) ?_
        refine lv_istore (lv' := [(4, .int 1), (3, .int (nI (vn + 1))), (2, .int (nI 0)), (0, .ref h), (1, .int (nI vn))]) hx hb dX11_reads_37 hl (by decide) rfl (fun ls hl => ?_)
        refine lp_mrw (iv0 := upd iv 30 0) (av0 := av) (vn := vn) C ⟨ho.1, ho.2.1, ho.2.2.1, ho.2.2.2⟩ hin hvn (fun iv2 av2 b1 b2 b3 b4 H locs ls G hl => ?_) (fun iv2 av2 b bs b0 b1 b2 b3 b4 b5 H locs ls G hl => ?_) (vn + 1) _ _ (Nat.le_refl _) rfl sI.rf sA.rf _ _ _ G (lv_sub hl [0, 1, 2, 3, 4] rfl)
        · have hV : mVr ob flo (nI vn) = rdM ob (vn + 1) 0 [] := by rw [mVr, if_neg c_7, if_neg hrg, nI_clamp (by omega), b1]; rfl
          refine lv_iload_n hx hb dX11_reads_165 rfl (lv_at hl 0 rfl) ?_
          refine lv_if_ne (tgt := 174) hx hb dX11_reads_166 (by decide) (fun c_166 => ?_) (fun c_166 => ?_)
          · exact absurd (nb_ne (a := 0) (b := 0) c_166 (by omega) (by omega)) (by omega)
          · have n_166 := nb_eq (a := 0) (b := 0) c_166 (by omega) (by omega)
            refine lv_aload_n hx hb dX11_reads_169 rfl (lv_at hl 1 rfl) ?_
            refine lv_iconst (v := 0) hx hb dX11_reads_170 (by decide) ?_
            refine k_mpi (v := 0) (ty := .int) C G 30 (by decide) mr_30 fl_X11_245 rfl rfl rfl rfl rfl dX11_reads_171 (fun H locs (G : wd Z A s (mdW Z h ad (upd iv2 30 0) av2) H locs) => ?_)
            refine lv_aload_n hx hb dX11_reads_174 rfl (lv_at hl 1 rfl) ?_
            refine k_mgi (v := 0) C G 30 (by decide) mr_30 rfl fl_X11_245 rfl dX11_reads_175 ?_
            refine lv_sipush (v := 200) hx hb dX11_reads_178 (by decide) ?_
            refine lv_icmp_le (tgt := 186) hx hb dX11_reads_181 (by decide) (fun c_181 => ?_) (fun c_181 => ?_)
            · have n_181 := nb_le (a := 0) (b := 200) c_181 (by omega) (by omega)
              exact lp_mrn (iv0 := (upd iv2 30 0)) (av0 := av2) (RES := rdM ob (vn + 1) 0 []) C (mo_ok.same (iv := upd iv 30 0) (av := av) ⟨ho.1, ho.2.1, ho.2.2.1, ho.2.2.2⟩ (b3.up (k := 30) (by decide) 0) b4 (by decide) (by decide) (by decide) (by decide) (by decide) (by decide)) hvn (fun iv3 av3 a1 a2 a3 => ⟨iv3, av3, rfl, (((sI.rf.up (k := 30) (by decide) 0).tr (b3.up (k := 30) (by decide) 0) (by decide)).tr a1 (by decide)), (sA.rf.tr b4 (by decide)).tr a2 (by decide), Or.inr ⟨rfl, by rw [hV]; exact a3⟩⟩) (fun iv3 av3 F3 a1 a2 a3 a4 => ⟨iv3, av3, rfl, (((sI.rf.up (k := 30) (by decide) 0).tr (b3.up (k := 30) (by decide) 0) (by decide)).tr a1 (by decide)), (sA.rf.tr b4 (by decide)).tr a2 (by decide), Or.inl ⟨rfl, F3, by rw [hV]; exact a3, a4⟩⟩) (vn + 1) 0 _ _ [] (by omega) rfl ⟨rfl, fun i hi => absurd hi (by simp), Nat.zero_le _, List.Pairwise.nil, fun q hq => absurd hq List.not_mem_nil⟩ sI.rf sA.rf _ _ _ G (lv_sub hl [0, 1, 2] rfl)
            · exact absurd c_181 (by decide)
        · have hV : mVr ob flo (nI vn) = rdM ob (vn - b) (b + 1) (ckL (fnB bs) (ub (fnB bs 5))) := by rw [mVr, if_neg c_7, if_neg hrg, nI_clamp (by omega), b1]; rfl
          obtain ⟨q1, q2, q3⟩ := ckM_mem b1
          obtain ⟨k2, o2, _, e2, e3, e4, e5⟩ := mLk_mem q2
          have hL := hin.2.2 o2 (List.mem_of_getElem? e2) e3
          have h9 : bs.length = 6 + 5 * ub (fnB bs 5) + 4 := q3.1.1
          have h8 : bs.length ≤ 1010 := by have h7 := hL; rw [e5] at h7; exact h7
          have hcn : ub (fnB bs 5) ≤ 200 := by omega
          obtain ⟨cn, hcne⟩ : ∃ cn, cn = ub (fnB bs 5) := ⟨_, rfl⟩
          rw [← hcne] at b2 b3 hcn hV
          refine lv_iload_n hx hb dX11_reads_165 rfl (lv_at hl 0 rfl) ?_
          refine lv_if_ne (tgt := 174) hx hb dX11_reads_166 (by decide) (fun c_166 => ?_) (fun c_166 => ?_)
          · have n_166 := nb_ne (a := b + 1) (b := 0) c_166 (by omega) (by omega)
            refine lv_aload_n hx hb dX11_reads_174 rfl (lv_at hl 1 rfl) ?_
            refine k_mgi (v := nI cn) C G 30 (by decide) mr_30 b2 fl_X11_245 rfl dX11_reads_175 ?_
            refine lv_sipush (v := 200) hx hb dX11_reads_178 (by decide) ?_
            refine lv_icmp_le (tgt := 186) hx hb dX11_reads_181 (by decide) (fun c_181 => ?_) (fun c_181 => ?_)
            · have n_181 := nb_le (a := cn) (b := 200) c_181 (by omega) (by omega)
              exact lp_mrn (iv0 := iv2) (av0 := av2) (RES := rdM ob (vn - b) (b + 1) (ckL (fnB bs) cn)) C (mo_ok.same (iv := upd iv 30 0) (av := av) ⟨ho.1, ho.2.1, ho.2.2.1, ho.2.2.2⟩ b4 b5 (by decide) (by decide) (by decide) (by decide) (by decide) (by decide)) hvn (fun iv3 av3 a1 a2 a3 => ⟨iv3, av3, rfl, (((sI.rf.up (k := 30) (by decide) 0).tr b4 (by decide)).tr a1 (by decide)), (sA.rf.tr b5 (by decide)).tr a2 (by decide), Or.inr ⟨rfl, by rw [hV]; exact a3⟩⟩) (fun iv3 av3 F3 a1 a2 a3 a4 => ⟨iv3, av3, rfl, (((sI.rf.up (k := 30) (by decide) 0).tr b4 (by decide)).tr a1 (by decide)), (sA.rf.tr b5 (by decide)).tr a2 (by decide), Or.inl ⟨rfl, F3, by rw [hV]; exact a3, a4⟩⟩) (vn - b) (b + 1) _ _ (ckL (fnB bs) cn) (by omega) rfl ⟨by rw [ckL_len]; exact b2, fun j hj => by rw [ckL_len] at hj; rw [ckL_get _ hj]; exact b3 j hj, by rw [ckL_len]; exact hcn, ckL_so (fun j hj => q3.2 j (by rw [← hcne]; exact hj)), ckL_nn (fun j hj => q3.2 j (by rw [← hcne]; exact hj))⟩ sI.rf sA.rf _ _ _ G (lv_sub hl [0, 1, 2] rfl)
            · exact absurd (nb_nle (a := cn) (b := 200) c_181 (by omega) (by omega)) (by omega)
          · exact absurd (nb_eq (a := b + 1) (b := 0) c_166 (by omega) (by omega)) (by omega)
      · refine lv_iconst (v := 0) hx hb dX11_reads_28 (by decide) ?_
        exact kr_z C G (by decide) ⟨_, _, rfl, sI.rf.up (by decide) _, sA.rf, Or.inr ⟨rfl, by rw [mVr, if_neg c_7, if_pos (Or.inr (Int32.not_le.mp c_25))]⟩⟩ (Nat.le_of_ble_eq_true rfl) (Nat.le_of_ble_eq_true rfl) dX11_reads_29
  · refine lv_iconst (v := 1) hx hb dX11_reads_10 (by decide) ?_
    exact kr_z C G (by decide) ⟨_, _, rfl, sI.rf.up (by decide) _, sA.rf, Or.inl ⟨rfl, [], by rw [mVr, if_pos c_7], ⟨rfl, fun i hi => absurd hi (by simp), Nat.zero_le _, List.Pairwise.nil, fun q hq => absurd hq List.not_mem_nil⟩⟩⟩ (Nat.le_of_ble_eq_true rfl) (Nat.le_of_ble_eq_true rfl) dX11_reads_11
