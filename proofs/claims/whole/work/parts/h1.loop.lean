/-! THE LAW: its loop. -/
theorem law_cmp {L i : Nat} (hL : L ≤ 3072) (hi : i ≤ 4000) : nI i ≤ nI L - 6 ↔ i + 6 ≤ L := by
  have e : (nI L - nI 6).toInt = (L : Int) - 6 := pk_sub_toInt (by omega) (by omega)
  have e1 : (nI i).toInt = (i : Int) := nI_toInt (by omega)
  rw [Int32.le_iff_toInt_le, show nI L - 6 = nI L - nI 6 from rfl, e, e1]
  omega
theorem tsw20 {x : Int32} (h0 : ¬ x = 0) (h1 : ¬ x = 1) (h2 : ¬ x = 2) (h3 : ¬ x = 3) (h4 : ¬ x = 4) (h5 : ¬ x = 5) (h6 : ¬ x = 6) (h7 : ¬ x = 7) (h8 : ¬ x = 8) (h9 : ¬ x = 9) (h10 : ¬ x = 10) (h11 : ¬ x = 11) (h12 : ¬ x = 12) (h13 : ¬ x = 13) (h14 : ¬ x = 14) (h15 : ¬ x = 15) (h16 : ¬ x = 16) (h17 : ¬ x = 17) (h18 : ¬ x = 18) (h19 : ¬ x = 19) (h20 : ¬ x = 20) : x.toInt < 0 ∨ 20 < x.toInt := by
  have a0 : ¬ x.toInt = 0 := fun h => h0 (Int32.toInt_inj.mp (by rw [h]; decide))
  have a1 : ¬ x.toInt = 1 := fun h => h1 (Int32.toInt_inj.mp (by rw [h]; decide))
  have a2 : ¬ x.toInt = 2 := fun h => h2 (Int32.toInt_inj.mp (by rw [h]; decide))
  have a3 : ¬ x.toInt = 3 := fun h => h3 (Int32.toInt_inj.mp (by rw [h]; decide))
  have a4 : ¬ x.toInt = 4 := fun h => h4 (Int32.toInt_inj.mp (by rw [h]; decide))
  have a5 : ¬ x.toInt = 5 := fun h => h5 (Int32.toInt_inj.mp (by rw [h]; decide))
  have a6 : ¬ x.toInt = 6 := fun h => h6 (Int32.toInt_inj.mp (by rw [h]; decide))
  have a7 : ¬ x.toInt = 7 := fun h => h7 (Int32.toInt_inj.mp (by rw [h]; decide))
  have a8 : ¬ x.toInt = 8 := fun h => h8 (Int32.toInt_inj.mp (by rw [h]; decide))
  have a9 : ¬ x.toInt = 9 := fun h => h9 (Int32.toInt_inj.mp (by rw [h]; decide))
  have a10 : ¬ x.toInt = 10 := fun h => h10 (Int32.toInt_inj.mp (by rw [h]; decide))
  have a11 : ¬ x.toInt = 11 := fun h => h11 (Int32.toInt_inj.mp (by rw [h]; decide))
  have a12 : ¬ x.toInt = 12 := fun h => h12 (Int32.toInt_inj.mp (by rw [h]; decide))
  have a13 : ¬ x.toInt = 13 := fun h => h13 (Int32.toInt_inj.mp (by rw [h]; decide))
  have a14 : ¬ x.toInt = 14 := fun h => h14 (Int32.toInt_inj.mp (by rw [h]; decide))
  have a15 : ¬ x.toInt = 15 := fun h => h15 (Int32.toInt_inj.mp (by rw [h]; decide))
  have a16 : ¬ x.toInt = 16 := fun h => h16 (Int32.toInt_inj.mp (by rw [h]; decide))
  have a17 : ¬ x.toInt = 17 := fun h => h17 (Int32.toInt_inj.mp (by rw [h]; decide))
  have a18 : ¬ x.toInt = 18 := fun h => h18 (Int32.toInt_inj.mp (by rw [h]; decide))
  have a19 : ¬ x.toInt = 19 := fun h => h19 (Int32.toInt_inj.mp (by rw [h]; decide))
  have a20 : ¬ x.toInt = 20 := fun h => h20 (Int32.toInt_inj.mp (by rw [h]; decide))
  omega
theorem cl_mo {Z : zT} {t k : Nat} {iv : ivT} {av : avT} {ob : List obT} {pc ps : Nat} {u : va_W} (hV : clV Z t k iv av ob pc ps u) : clV Z t (k + 1) iv av ob pc ps u := by
  obtain ⟨c9, hV⟩ := hV
  obtain ⟨⟨sa, wq, fl, trn, nd, cm, lo, fa, vc, tq, lf, ac, sb, pp, dh, eh, kh, ro, sr, ag⟩, ⟨da, dq, dm, dr, dl⟩, ⟨ea, eq, em, er, el⟩, ⟨ka, kq, km, kr, kl⟩, ⟨q0, aq, SA, ga, n0, i1, i2, i3⟩, ⟨a0, a1, a2, ty⟩, ⟨ln, lp, m0, N, Pt⟩, ⟨b1, b2, b3, b4, SP, Sn, SW, Sp, Sl, Sg⟩, ⟨pq, QL, g, gn⟩, ⟨wv, ws, jw⟩⟩ := c9
  obtain ⟨hu, hS, hR, hiv, hfl, hnd, htr, hmo, hf14, hty, hm0, hg, hQL, hws, hwr, hpc, hps, hfe⟩ := hV
  exact ⟨((sa, wq, fl, trn, nd, cm, lo, fa, vc, tq, lf, ac, sb, pp, dh, eh, kh, ro, sr, ag), (da, dq, dm, dr, dl), (ea, eq, em, er, el), (ka, kq, km, kr, kl), (q0, aq, SA, ga, n0, i1, i2, i3), (a0, a1, a2, ty), (ln, lp, m0, N, Pt), (b1, b2, b3, b4, SP, Sn, SW, Sp, Sl, Sg), (pq, QL, g, gn), (wv, ws, jw)), hu, hS.mo, hR, hiv, hfl, (by obtain ⟨a9, h8, h9⟩ := hnd; exact ⟨a9, by omega, h9⟩), htr, hmo, hf14, hty, hm0, hg, hQL, hws, (fun i w hw => (hwr i w hw).sA (sA.rf (L := [])) (by intro x h1 h2 hx; simp only [List.mem_cons, List.not_mem_nil, or_false] at hx <;> omega)), hpc, hps, hfe⟩
set_option maxRecDepth 100000 in
set_option maxHeartbeats 4000000 in
theorem law_loop {p : Program} {l : Launch} {e : Env} {s : State} {m : MethodId} {args : Array Value} {below : List Frame} {meth : Method} {c : Code} {Z : zT} {A : Nat → Prop} {Q : State → Prop} {b L t h : Nat} {ad : Nat → Nat} {xs : Nat → Int32} {nm9 : String} (C : cx p s m args meth c cL_law 4 (some .boolean) RL nm9) (hX : va_X b L xs s s.heap) (hbl : b < s.heap.size) (hbA : ¬ A b) (hL : L ≤ 3072) (hA9 : ∀ q, A q → s.heap.size ≤ q) (hend : ∀ (H : Heap) (ls : Array Slot), W p l e room_1 s m args below meth c H [] 600000 7302250 Q (F0 m 832 ls [.int 1])) : ∀ (n k : Nat) (iv : ivT) (av : avT) (ob : List obT) (pc ps cc cs : Nat) (u : va_W) (H : Heap) (locs : List Loc) (ls : Array Slot), k + n = 512 → wd Z A s (u ++ mdW Z h ad iv av) H locs → clV Z t k iv av ob pc ps u → cc + pc + 9 * n + 9 ≤ 600000 → cs + ps + 3945 * n + 3945 ≤ 7302250 → lv_has ls 4 [(3, .int (nI (6 * k))), (2, .ref h), (1, .ref t), (0, .ref b)] → W p l e room_1 s m args below meth c H locs cc cs Q (F0 m 18 ls []) := by
  have hx := C.1
  have hb := C.2.1
  intro n
  induction n with
  | zero =>
    intro k iv av ob pc ps cc cs u H locs ls hkn G hV hcc hcs hl
    refine lv_iload_n hx hb dL_law_18 rfl (lv_at hl 0 rfl) ?_
    refine lv_aload_n hx hb dL_law_19 rfl (lv_at hl 3 rfl) ?_
    refine va_slen C.1 C.2.1 hX hbl hbA G.2.2.2.1 dL_law_20 ?_
    refine lv_bipush (v := 6) hx hb dL_law_21 (by decide) ?_
    refine lv_isub hx hb dL_law_23 ?_
    refine k_topi (y := nI L - 6) rfl ?_
    refine lv_icmp_gt (tgt := 831) hx hb dL_law_24 (by decide) (fun c9 => ?_) (fun c9 => ?_)
    · refine lv_iconst (v := 1) hx hb dL_law_831 (by decide) ?_
      refine va_forget (fun q hq => hA9 _ (G.2.2.2.1.2.2 q hq)) ?_
      refine W.widen (k := 600000) (n := 7302250) (by omega) (by omega) ?_
      exact hend _ _
    · exact absurd ((law_cmp hL (by omega)).mp (Int32.not_lt.mp c9)) (by omega)
  | succ n ih =>
    intro k iv av ob pc ps cc cs u H locs ls hkn G hV hcc hcs hl
    refine lv_iload_n hx hb dL_law_18 rfl (lv_at hl 0 rfl) ?_
    refine lv_aload_n hx hb dL_law_19 rfl (lv_at hl 3 rfl) ?_
    refine va_slen C.1 C.2.1 hX hbl hbA G.2.2.2.1 dL_law_20 ?_
    refine lv_bipush (v := 6) hx hb dL_law_21 (by decide) ?_
    refine lv_isub hx hb dL_law_23 ?_
    refine k_topi (y := nI L - 6) rfl ?_
    refine lv_icmp_gt (tgt := 831) hx hb dL_law_24 (by decide) (fun c9 => ?_) (fun c9 => ?_)
    · refine lv_iconst (v := 1) hx hb dL_law_831 (by decide) ?_
      refine va_forget (fun q hq => hA9 _ (G.2.2.2.1.2.2 q hq)) ?_
      refine W.widen (k := 600000) (n := 7302250) (by omega) (by omega) ?_
      exact hend _ _
    · have hk6 : 6 * k + 6 ≤ L := (law_cmp hL (by omega)).mp (Int32.not_lt.mp c9)
      refine lv_aload_n hx hb dL_law_27 rfl (lv_at hl 3 rfl) ?_
      refine lv_iload_n hx hb dL_law_28 rfl (lv_at hl 0 rfl) ?_
      refine va_sld C.1 C.2.1 hX hbl hbA G.2.2.2.1 (vp_in_nI (show 6 * k < L by omega) (by omega)) dL_law_29 ?_
      refine lv_bipush (v := 31) hx hb dL_law_30 (by decide) ?_
      refine lv_iand hx hb dL_law_32 ?_
      refine lv_topi (fun sw esw => ?_)
      have kk : lawK p l e s m args below meth c Z A Q b k t h ad pc ps cc cs := by
        intro u iv av ob pc2 ps2 cc2 cs2 H locs ls G hV h1 h2 hl
        refine lv_iinc (v := nI (6 * (k + 1))) (lv' := [(3, .int (nI (6 * (k + 1)))), (2, .ref h), (1, .ref t), (0, .ref b)]) hx hb dL_law_825 hl (k := 0) rfl (by rw [show 6 * (k + 1) = 6 * k + 6 by omega]; exact nI_add _ 6) (by decide) rfl (fun ls hl => ?_)
        refine lv_goto (tgt := 18) hx hb dL_law_828 (by decide) ?_
        exact ih (k + 1) iv av ob pc2 ps2 cc2 cs2 u H locs ls (by omega) G hV (by omega) (by omega) hl
      by_cases h0 : sw = 0
      · subst h0
        refine lv_tableIn (tgt := 132) hx hb dL_law_33 (by decide) (by decide) rfl (by decide) ?_
        exact law_room C hX hbl hbA hL hk6 G hV (by omega) (by omega) hl kk
      by_cases h1 : sw = 1
      · subst h1
        refine lv_tableIn (tgt := 155) hx hb dL_law_33 (by decide) (by decide) rfl (by decide) ?_
        exact law_tries C hX hbl hbA hL hk6 G hV (by omega) (by omega) hl kk
      by_cases h2 : sw = 2
      · subst h2
        refine lv_tableIn (tgt := 178) hx hb dL_law_33 (by decide) (by decide) rfl (by decide) ?_
        exact law_append C hX hbl hbA hL hk6 G hV (by omega) (by omega) hl kk
      by_cases h3 : sw = 3
      · subst h3
        refine lv_tableIn (tgt := 201) hx hb dL_law_33 (by decide) (by decide) rfl (by decide) ?_
        exact law_row C hX hbl hbA hL hk6 G hV (by omega) (by omega) hl kk
      by_cases h4 : sw = 4
      · subst h4
        refine lv_tableIn (tgt := 264) hx hb dL_law_33 (by decide) (by decide) rfl (by decide) ?_
        exact law_delete C hX hbl hbA hL hk6 G hV (by omega) (by omega) hl kk
      by_cases h5 : sw = 5
      · subst h5
        refine lv_tableIn (tgt := 327) hx hb dL_law_33 (by decide) (by decide) rfl (by decide) ?_
        exact law_compact C hX hbl hbA hL hk6 G hV (by omega) (by omega) hl kk
      by_cases h6 : sw = 6
      · subst h6
        refine lv_tableIn (tgt := 360) hx hb dL_law_33 (by decide) (by decide) rfl (by decide) ?_
        exact law_step C hX hbl hbA hL hk6 G hV (by omega) (by omega) hl kk
      by_cases h7 : sw = 7
      · subst h7
        refine lv_tableIn (tgt := 383) hx hb dL_law_33 (by decide) (by decide) rfl (by decide) ?_
        exact law_crash C hX hbl hbA hL hk6 G hV (by omega) (by omega) hl kk
      by_cases h8 : sw = 8
      · subst h8
        refine lv_tableIn (tgt := 406) hx hb dL_law_33 (by decide) (by decide) rfl (by decide) ?_
        exact law_writer C hX hbl hbA hL hk6 G hV (by omega) (by omega) hl kk
      by_cases h9 : sw = 9
      · subst h9
        refine lv_tableIn (tgt := 439) hx hb dL_law_33 (by decide) (by decide) rfl (by decide) ?_
        exact law_checkpoint C hX hbl hbA hL hk6 G hV (by omega) (by omega) hl kk
      by_cases h10 : sw = 10
      · subst h10
        refine lv_tableIn (tgt := 462) hx hb dL_law_33 (by decide) (by decide) rfl (by decide) ?_
        exact law_vacuum C hX hbl hbA hL hk6 G hV (by omega) (by omega) hl kk
      by_cases h11 : sw = 11
      · subst h11
        refine lv_tableIn (tgt := 485) hx hb dL_law_33 (by decide) (by decide) rfl (by decide) ?_
        exact law_latest C hX hbl hbA hL hk6 G hV (by omega) (by omega) hl kk
      by_cases h12 : sw = 12
      · subst h12
        refine lv_tableIn (tgt := 498) hx hb dL_law_33 (by decide) (by decide) rfl (by decide) ?_
        exact law_files C hX hbl hbA hL hk6 G hV (by omega) (by omega) hl kk
      by_cases h13 : sw = 13
      · subst h13
        refine lv_tableIn (tgt := 521) hx hb dL_law_33 (by decide) (by decide) rfl (by decide) ?_
        exact law_file C hX hbl hbA hL hk6 G hV (by omega) (by omega) hl kk
      by_cases h14 : sw = 14
      · subst h14
        refine lv_tableIn (tgt := 554) hx hb dL_law_33 (by decide) (by decide) rfl (by decide) ?_
        exact law_at C hX hbl hbA hL hk6 G hV (by omega) (by omega) hl kk
      by_cases h15 : sw = 15
      · subst h15
        refine lv_tableIn (tgt := 597) hx hb dL_law_33 (by decide) (by decide) rfl (by decide) ?_
        exact law_find C hX hbl hbA hL hk6 G hV (by omega) (by omega) hl kk
      by_cases h16 : sw = 16
      · subst h16
        refine lv_tableIn (tgt := 650) hx hb dL_law_33 (by decide) (by decide) rfl (by decide) ?_
        exact law_found C hX hbl hbA hL hk6 G hV (by omega) (by omega) hl kk
      by_cases h17 : sw = 17
      · subst h17
        refine lv_tableIn (tgt := 673) hx hb dL_law_33 (by decide) (by decide) rfl (by decide) ?_
        exact law_size C hX hbl hbA hL hk6 G hV (by omega) (by omega) hl kk
      by_cases h18 : sw = 18
      · subst h18
        refine lv_tableIn (tgt := 706) hx hb dL_law_33 (by decide) (by decide) rfl (by decide) ?_
        exact law_octet C hX hbl hbA hL hk6 G hV (by omega) (by omega) hl kk
      by_cases h19 : sw = 19
      · subst h19
        refine lv_tableIn (tgt := 749) hx hb dL_law_33 (by decide) (by decide) rfl (by decide) ?_
        exact law_spoil C hX hbl hbA hL hk6 G hV (by omega) (by omega) hl kk
      by_cases h20 : sw = 20
      · subst h20
        refine lv_tableIn (tgt := 802) hx hb dL_law_33 (by decide) (by decide) rfl (by decide) ?_
        exact law_count C hX hbl hbA hL hk6 G hV (by omega) (by omega) hl kk
      refine lv_tableOut (tgt := 825) hx hb dL_law_33 (tsw20 h0 h1 h2 h3 h4 h5 h6 h7 h8 h9 h10 h11 h12 h13 h14 h15 h16 h17 h18 h19 h20) (by decide) ?_
      exact kk u iv av ob pc ps cc cs H locs ls G (cl_mo hV) (by omega) (by omega) hl
