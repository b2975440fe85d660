/-! MODULE FileList (X3), second part: add, remove, writeCheckpoint. -/
theorem shR_lo {N N1 : Nat → Int32} {j : Nat} (h : ∀ i, i < j → N1 i = N i) : ∀ i, i < j - 1 → upd N1 j (N1 (j - 1)) i = N i := fun i hi => by rw [pk_un (by omega)]; exact h i (by omega)
theorem shR_hi {N N1 : Nat → Int32} {j m : Nat} (h : ∀ i, i < j → N1 i = N i) (g : ∀ i, j < i → i ≤ m → N1 i = N (i - 1)) (hj : 0 < j) : ∀ i, j - 1 < i → i ≤ m → upd N1 j (N1 (j - 1)) i = N (i - 1) := fun i a b => by
  by_cases e : i = j
  · subst e; rw [pk_us]; exact h _ (by omega)
  · rw [pk_un e]; exact g i (by omega) b
theorem shR_end {N N1 : Nat → Int32} {p m i : Nat} {x : Int32} (h : ∀ i, i < p → N1 i = N i) (g : ∀ i, p < i → i ≤ m → N1 i = N (i - 1)) (hi : i ≤ m) : upd N1 p x i = if i < p then N i else if i = p then x else N (i - 1) := by
  by_cases a : i < p
  · rw [if_pos a, pk_un (by omega)]; exact h i a
  · by_cases b : i = p
    · subst b; rw [if_neg a, if_pos rfl, pk_us]
    · rw [if_neg a, if_neg b, pk_un b]; exact g i (by omega) hi
theorem shL_lo {N N1 : Nat → Int32} {p i m : Nat} (h : ∀ t, t < i → N1 t = if t < p then N t else N (t + 1)) (g : ∀ t, i ≤ t → t < m → N1 t = N t) (hp : p ≤ i) (hi : i + 1 < m) : ∀ t, t < i + 1 → upd N1 i (N1 (i + 1)) t = if t < p then N t else N (t + 1) := fun t ht => by
  by_cases e : t = i
  · subst e; rw [pk_us, if_neg (by omega)]; exact g _ (by omega) (by omega)
  · rw [pk_un e]; exact h t (by omega)
theorem shL_hi {N N1 : Nat → Int32} {i m : Nat} {v : Int32} (g : ∀ t, i ≤ t → t < m → N1 t = N t) : ∀ t, i + 1 ≤ t → t < m → upd N1 i v t = N t := fun t a b => by rw [pk_un (by omega)]; exact g t (by omega) b
set_option maxRecDepth 100000 in
set_option maxHeartbeats 4000000 in
theorem lp_X3_add {p : Program} {l : Launch} {e : Env} {s : State} {m : MethodId} {args : Array Value} {below : List Frame} {meth : Method} {c : Code} {Z : zT} {A : Nat → Prop} {h qn qp : Nat} {x pt : Int32} {N Pt : Nat → Int32} {F : flT} {post : Int32 → va_W → Prop} (C : cx p s m args meth c cX3_add 5 (some .boolean) RX3 "add") (hm : F.length < 200) (hfl : fl_at N Pt F) (hp : ∀ N2 P2, fl_at N2 P2 (fl_ins F x pt) → post 1 (flW Z h qn qp (F.length + 1) N2 P2)) : ∀ (k j : Nat) (N1 P1 : Nat → Int32), plc F x + k = j → j ≤ F.length → (∀ i, i < j → N1 i = N i) → (∀ i, i < j → P1 i = Pt i) → (∀ i, j < i → i ≤ F.length → N1 i = N (i - 1)) → (∀ i, j < i → i ≤ F.length → P1 i = Pt (i - 1)) → ∀ (H : Heap) (locs : List Loc) (ls : Array Slot), wd Z A s (flW Z h qn qp F.length N1 P1) H locs → lv_has ls 5 [(4, .int (nI j)), (3, .int (nI (plc F x))), (0, .ref h), (1, .int x), (2, .int pt)] → W p l e ({ frames := 2, cells := 0, slots := 0, locals := 60 }) s m args below meth c H locs 0 0 (MQ below (va_Qi post (mB Z A) A) args s 0 0 A) (F0 m 43 ls []) := by
  have hx := C.1
  have hb := C.2.1
  have hown := C.2.2.2.2.2.1
  have hts := C.2.2.2.2.2.2.1
  have hpl := plc_le F x
  intro k
  induction k with
  | zero =>
    intro j N1 P1 hj hjm h1 h2 h3 h4 H locs ls G hl
    refine lv_iload hx hb dX3_add_43 (lv_at hl 0 rfl) ?_
    refine lv_iload_n hx hb dX3_add_45 rfl (lv_at hl 1 rfl) ?_
    refine lv_icmp_le (tgt := 87) hx hb dX3_add_46 (by decide) (fun c_46 => ?_) (fun c_46 => ?_)
    · refine lv_aload_n hx hb dX3_add_87 rfl (lv_at hl 2 rfl) ?_
      refine k_get (ci := 4) (CC := RX3) (T := TX3) (N := 3) (v := .ref qn) C G 0 rfl rfl in_4 0 (by decide) fl_X3_9 rfl rfl dX3_add_88 ?_
      refine lv_iload_n hx hb dX3_add_91 rfl (lv_at hl 1 rfl) ?_
      refine lv_iload_n hx hb dX3_add_92 rfl (lv_at hl 3 rfl) ?_
      have h_93 : vp_in (nI (plc F x)) 200 := by exact vp_in_nI (by omega) (by omega)
      refine k_iast C G 1 rfl h_93 dX3_add_93 (fun H locs (G : wd Z A s ([(h, .inr (4, [.ref qn, .ref qp, .int (nI F.length)])), (qn, aI Z 200 (upd N1 (nI (plc F x)).toNatClampNeg x)), (qp, aI Z 200 P1)]) H locs) => ?_)
      refine lv_aload_n hx hb dX3_add_94 rfl (lv_at hl 2 rfl) ?_
      refine k_get (ci := 4) (CC := RX3) (T := TX3) (N := 3) (v := .ref qp) C G 0 rfl rfl in_4 1 (by decide) fl_X3_15 rfl rfl dX3_add_95 ?_
      refine lv_iload_n hx hb dX3_add_98 rfl (lv_at hl 1 rfl) ?_
      refine lv_iload_n hx hb dX3_add_99 rfl (lv_at hl 4 rfl) ?_
      have h_100 : vp_in (nI (plc F x)) 200 := by exact vp_in_nI (by omega) (by omega)
      refine k_iast C G 2 rfl h_100 dX3_add_100 (fun H locs (G : wd Z A s ([(h, .inr (4, [.ref qn, .ref qp, .int (nI F.length)])), (qn, aI Z 200 (upd N1 (nI (plc F x)).toNatClampNeg x)), (qp, aI Z 200 (upd P1 (nI (plc F x)).toNatClampNeg pt))]) H locs) => ?_)
      refine lv_aload_n hx hb dX3_add_101 rfl (lv_at hl 2 rfl) ?_
      refine lv_dup hx hb dX3_add_102 rfl ?_
      refine k_get (ci := 4) (CC := RX3) (T := TX3) (N := 3) (v := .int (nI F.length)) C G 0 rfl rfl in_4 2 (by decide) fl_X3_18 rfl rfl dX3_add_103 ?_
      refine lv_iconst (v := 1) hx hb dX3_add_106 (by decide) ?_
      refine lv_iadd hx hb dX3_add_107 ?_
      refine k_topi (y := nI (F.length + 1)) (by exact nI_1 _) ?_
      refine k_put (ci := 4) (CC := RX3) (T := TX3) (N := 3) (ty := .int) (v := .int (nI (F.length + 1))) C G 0 rfl rfl in_4 tyX3 tyX3_ok nmX3 2 (by decide) fl_X3_18 rfl rfl rfl rfl rfl (Nat.le_of_ble_eq_true rfl) dX3_add_108 (fun H locs (G : wd Z A s ([(h, .inr (4, [.ref qn, .ref qp, .int (nI (F.length + 1))])), (qn, aI Z 200 (upd N1 (nI (plc F x)).toNatClampNeg x)), (qp, aI Z 200 (upd P1 (nI (plc F x)).toNatClampNeg pt))]) H locs) => ?_)
      refine lv_iconst (v := 1) hx hb dX3_add_111 (by decide) ?_
      have ep : (nI (plc F x)).toNatClampNeg = plc F x := nI_clamp (by omega)
      rw [ep] at G
      have hjp : j = plc F x := by omega
      rw [hjp] at h1 h2 h3 h4
      exact kr_z C G (by decide) (hp _ _ (fl_ins_at hfl (fun i hi => shR_end h1 h3 hi) (fun i hi => shR_end h2 h4 hi))) (Nat.le_of_ble_eq_true rfl) (Nat.le_of_ble_eq_true rfl) dX3_add_112
    · exact absurd (nI_le (by omega) (by omega)) c_46
  | succ k ih =>
    intro j N1 P1 hj hjm h1 h2 h3 h4 H locs ls G hl
    refine lv_iload hx hb dX3_add_43 (lv_at hl 0 rfl) ?_
    refine lv_iload_n hx hb dX3_add_45 rfl (lv_at hl 1 rfl) ?_
    refine lv_icmp_le (tgt := 87) hx hb dX3_add_46 (by decide) (fun c_46 => ?_) (fun c_46 => ?_)
    · exact absurd c_46 (nI_ge (by omega) (by omega))
    · refine lv_aload_n hx hb dX3_add_49 rfl (lv_at hl 2 rfl) ?_
      refine k_get (ci := 4) (CC := RX3) (T := TX3) (N := 3) (v := .ref qn) C G 0 rfl rfl in_4 0 (by decide) fl_X3_9 rfl rfl dX3_add_50 ?_
      refine lv_iload hx hb dX3_add_53 (lv_at hl 0 rfl) ?_
      refine lv_aload_n hx hb dX3_add_55 rfl (lv_at hl 2 rfl) ?_
      refine k_get (ci := 4) (CC := RX3) (T := TX3) (N := 3) (v := .ref qn) C G 0 rfl rfl in_4 0 (by decide) fl_X3_9 rfl rfl dX3_add_56 ?_
      refine lv_iload hx hb dX3_add_59 (lv_at hl 0 rfl) ?_
      refine lv_iconst (v := 1) hx hb dX3_add_61 (by decide) ?_
      refine lv_isub hx hb dX3_add_62 ?_
      refine k_topi (y := nI (j - 1)) (by exact pk_sub (b := 1) (by omega)) ?_
      have h_63 : vp_in (nI (j - 1)) 200 := by exact vp_in_nI (by omega) (by omega)
      refine k_iald C G 1 rfl h_63 dX3_add_63 ?_
      have h_64 : vp_in (nI j) 200 := by exact vp_in_nI (by omega) (by omega)
      refine k_iast C G 1 rfl h_64 dX3_add_64 (fun H locs (G : wd Z A s ([(h, .inr (4, [.ref qn, .ref qp, .int (nI F.length)])), (qn, aI Z 200 (upd N1 (nI j).toNatClampNeg (N1 (nI (j - 1)).toNatClampNeg))), (qp, aI Z 200 P1)]) H locs) => ?_)
      refine lv_aload_n hx hb dX3_add_65 rfl (lv_at hl 2 rfl) ?_
      refine k_get (ci := 4) (CC := RX3) (T := TX3) (N := 3) (v := .ref qp) C G 0 rfl rfl in_4 1 (by decide) fl_X3_15 rfl rfl dX3_add_66 ?_
      refine lv_iload hx hb dX3_add_69 (lv_at hl 0 rfl) ?_
      refine lv_aload_n hx hb dX3_add_71 rfl (lv_at hl 2 rfl) ?_
      refine k_get (ci := 4) (CC := RX3) (T := TX3) (N := 3) (v := .ref qp) C G 0 rfl rfl in_4 1 (by decide) fl_X3_15 rfl rfl dX3_add_72 ?_
      refine lv_iload hx hb dX3_add_75 (lv_at hl 0 rfl) ?_
      refine lv_iconst (v := 1) hx hb dX3_add_77 (by decide) ?_
      refine lv_isub hx hb dX3_add_78 ?_
      refine k_topi (y := nI (j - 1)) (by exact pk_sub (b := 1) (by omega)) ?_
      have h_79 : vp_in (nI (j - 1)) 200 := by exact vp_in_nI (by omega) (by omega)
      refine k_iald C G 2 rfl h_79 dX3_add_79 ?_
      have h_80 : vp_in (nI j) 200 := by exact vp_in_nI (by omega) (by omega)
      refine k_iast C G 2 rfl h_80 dX3_add_80 (fun H locs (G : wd Z A s ([(h, .inr (4, [.ref qn, .ref qp, .int (nI F.length)])), (qn, aI Z 200 (upd N1 (nI j).toNatClampNeg (N1 (nI (j - 1)).toNatClampNeg))), (qp, aI Z 200 (upd P1 (nI j).toNatClampNeg (P1 (nI (j - 1)).toNatClampNeg)))]) H locs) => ?_)
      refine lv_iinc (v := nI (j - 1)) (lv' := [(4, .int (nI (j - 1))), (3, .int (nI (plc F x))), (0, .ref h), (1, .int x), (2, .int pt)]) hx hb dX3_add_81 hl (k := 0) rfl (sb_m1 (by omega)) (by decide) rfl (fun ls hl => ?_)
      refine lv_goto (tgt := 43) hx hb dX3_add_84 (by decide) ?_
      have ej : (nI j).toNatClampNeg = j := nI_clamp (by omega)
      have ej1 : (nI (j - 1)).toNatClampNeg = j - 1 := nI_clamp (by omega)
      rw [ej, ej1] at G
      exact ih (j - 1) _ _ (by omega) (by omega) (shR_lo h1) (shR_lo h2) (shR_hi h1 h3 (by omega)) (shR_hi h2 h4 (by omega)) _ _ _ G (lv_sub hl [0, 1, 2, 3, 4] rfl)
set_option maxRecDepth 100000 in
set_option maxHeartbeats 4000000 in
theorem c_X3_add (Z : zT) (l : Launch) (h qn qp : Nat) (x pt : Int32) (N Pt : Nat → Int32) (F : flT) (hm : F.length ≤ 200) (hfl : fl_at N Pt F) (hso : fl_so F) : Ki Z l yX3_add cX3_add 5 (some .boolean) ({ frames := 2, cells := 0, slots := 0, locals := 60 }) [.ref h, .int x, .int pt] (flW Z h qn qp F.length N Pt) (fun r u => (fl_has F x ∧ r = 1 ∧ u = flW Z h qn qp F.length N Pt) ∨ (¬ fl_has F x ∧ F.length = 200 ∧ r = 0 ∧ u = flW Z h qn qp F.length N Pt) ∨ (¬ fl_has F x ∧ F.length < 200 ∧ r = 1 ∧ ∃ N2 P2, fl_at N2 P2 (fl_ins F x pt) ∧ u = flW Z h qn qp (F.length + 1) N2 P2)) := by
  intro sz
  refine Met.ofK (cc := cX3_add) (maxL := 5) (ret := (some .boolean)) (by decide) (Nat.le_of_ble_eq_true rfl) ?_
  intro p e s m below meth c ls C G hl
  generalize va_A _ sz = A at G ⊢
  have hx := C.1
  have hb := C.2.1
  have hown := C.2.2.2.2.2.1
  have hts := C.2.2.2.2.2.2.1
  have hpl := plc_le F x
  refine lv_aload_n hx hb dX3_add_0 rfl (lv_at hl 0 rfl) ?_
  refine lv_iload_n hx hb dX3_add_1 rfl (lv_at hl 1 rfl) ?_
  have hX : List.Perm ([(h, .inr (4, [.ref qn, .ref qp, .int (nI F.length)])), (qn, aI Z 200 N), (qp, aI Z 200 Pt)]) ([(h, .inr (4, [.ref qn, .ref qp, .int (nI F.length)])), (qn, aI Z 200 N), (qp, aI Z 200 Pt)] ++ ([])) := (perm_ix [0, 1, 2] rfl 3 (by decide) rfl)
  refine kc_i (Wc := [(h, .inr (4, [.ref qn, .ref qp, .int (nI F.length)])), (qn, aI Z 200 N), (qp, aI Z 200 Pt)]) (Wr := []) G hX (krV 1 rfl (As := [.int x]) (rest := []) (ci := 4) (CC := RX3) (T := TX3) (N := 3) C G hX (c_X3_placeOf Z l h qn qp x N Pt F hm hfl hso _) (gdV ml_X3_29 im_X3_placeOf se_X3_placeOf ii_X3 co_X3_placeOf) (by decide +kernel) ⟨Nat.le_of_ble_eq_true rfl, Nat.le_of_ble_eq_true rfl⟩ rfl 0 rfl hl rfl (Nat.le_of_ble_eq_true rfl) ⟨Nat.le_refl _, Nat.le_refl _⟩ dX3_add_2) (fun r_2 u H locs hu G => ?_)
  obtain ⟨r_2_e, rfl⟩ := hu
  subst r_2_e
  have G : wd Z A s ([(h, .inr (4, [.ref qn, .ref qp, .int (nI F.length)])), (qn, aI Z 200 N), (qp, aI Z 200 Pt)]) H locs := G
  refine lv_istore_n (lv' := [(3, .int (nI (plc F x))), (0, .ref h), (1, .int x), (2, .int pt)]) hx hb dX3_add_5 rfl hl (by decide) rfl (fun ls hl => ?_)
  refine lv_iload_n hx hb dX3_add_6 rfl (lv_at hl 0 rfl) ?_
  refine lv_aload_n hx hb dX3_add_7 rfl (lv_at hl 1 rfl) ?_
  refine k_get (ci := 4) (CC := RX3) (T := TX3) (N := 3) (v := .int (nI F.length)) C G 0 rfl rfl in_4 2 (by decide) fl_X3_18 rfl rfl dX3_add_8 ?_
  refine lv_icmp_ge (tgt := 25) hx hb dX3_add_11 (by decide) (fun c_11 => ?_) (fun c_11 => ?_)
  · refine lv_aload_n hx hb dX3_add_25 rfl (lv_at hl 1 rfl) ?_
    refine k_get (ci := 4) (CC := RX3) (T := TX3) (N := 3) (v := .int (nI F.length)) C G 0 rfl rfl in_4 2 (by decide) fl_X3_18 rfl rfl dX3_add_26 ?_
    refine lv_sipush (v := 200) hx hb dX3_add_29 (by decide) ?_
    refine lv_icmp_lt (tgt := 37) hx hb dX3_add_32 (by decide) (fun c_32 => ?_) (fun c_32 => ?_)
    · have hlen : F.length < 200 := (nI_ltI (by omega) (by omega)).mp (show nI F.length < nI 200 from c_32)
      refine lv_aload_n hx hb dX3_add_37 rfl (lv_at hl 1 rfl) ?_
      refine k_get (ci := 4) (CC := RX3) (T := TX3) (N := 3) (v := .int (nI F.length)) C G 0 rfl rfl in_4 2 (by decide) fl_X3_18 rfl rfl dX3_add_38 ?_
      refine lv_istore (lv' := [(4, .int (nI F.length)), (3, .int (nI (plc F x))), (0, .ref h), (1, .int x), (2, .int pt)]) hx hb dX3_add_41 hl (by decide) rfl (fun ls hl => ?_)
      exact lp_X3_add C hlen hfl (fun N2 P2 h9 => Or.inr (Or.inr ⟨(fun z => absurd c_11 (nI_ge z.1 (by omega))), hlen, rfl, N2, P2, h9, rfl⟩)) (F.length - plc F x) F.length N Pt (by omega) (by omega) (fun _ _ => rfl) (fun _ _ => rfl) (fun i a b => absurd a (by omega)) (fun i a b => absurd a (by omega)) _ _ _ G (lv_sub hl [0, 1, 2, 3, 4] rfl)
    · refine lv_iconst (v := 0) hx hb dX3_add_35 (by decide) ?_
      exact kr_z C G (by decide) (Or.inr (Or.inl ⟨(fun z => absurd c_11 (nI_ge z.1 (by omega))), by have h9 : ¬ F.length < 200 := fun z => c_32 (show nI F.length < nI 200 from nI_lt z (by omega)); omega, rfl, rfl⟩)) (Nat.le_of_ble_eq_true rfl) (Nat.le_of_ble_eq_true rfl) dX3_add_36
  · have hlt : plc F x < F.length := nI_nle_lt c_11 (by omega)
    refine lv_aload_n hx hb dX3_add_14 rfl (lv_at hl 1 rfl) ?_
    refine lv_iload_n hx hb dX3_add_15 rfl (lv_at hl 0 rfl) ?_
    have hX : List.Perm ([(h, .inr (4, [.ref qn, .ref qp, .int (nI F.length)])), (qn, aI Z 200 N), (qp, aI Z 200 Pt)]) ([(h, .inr (4, [.ref qn, .ref qp, .int (nI F.length)])), (qn, aI Z 200 N), (qp, aI Z 200 Pt)] ++ ([])) := (perm_ix [0, 1, 2] rfl 3 (by decide) rfl)
    refine kc_i (Wc := [(h, .inr (4, [.ref qn, .ref qp, .int (nI F.length)])), (qn, aI Z 200 N), (qp, aI Z 200 Pt)]) (Wr := []) G hX (krV 1 rfl (As := [.int (nI (plc F x))]) (rest := []) (ci := 4) (CC := RX3) (T := TX3) (N := 3) C G hX (c_X3_numberAtI Z l h qn qp F.length (plc F x) N Pt hm hlt _) (gdV ml_X3_26 im_X3_numberAt se_X3_numberAt ii_X3 co_X3_numberAt) (by decide +kernel) ⟨Nat.le_of_ble_eq_true rfl, Nat.le_of_ble_eq_true rfl⟩ rfl 0 rfl hl rfl (Nat.le_of_ble_eq_true rfl) ⟨Nat.le_of_ble_eq_true rfl, Nat.le_of_ble_eq_true rfl⟩ dX3_add_16) (fun r_16 u H locs hu G => ?_)
    obtain ⟨r_16_e, rfl⟩ := hu
    subst r_16_e
    have G : wd Z A s ([(h, .inr (4, [.ref qn, .ref qp, .int (nI F.length)])), (qn, aI Z 200 N), (qp, aI Z 200 Pt)]) H locs := G
    refine lv_iload_n hx hb dX3_add_19 rfl (lv_at hl 2 rfl) ?_
    refine lv_icmp_ne (tgt := 25) hx hb dX3_add_20 (by decide) (fun c_20 => ?_) (fun c_20 => ?_)
    · refine lv_aload_n hx hb dX3_add_25 rfl (lv_at hl 1 rfl) ?_
      refine k_get (ci := 4) (CC := RX3) (T := TX3) (N := 3) (v := .int (nI F.length)) C G 0 rfl rfl in_4 2 (by decide) fl_X3_18 rfl rfl dX3_add_26 ?_
      refine lv_sipush (v := 200) hx hb dX3_add_29 (by decide) ?_
      refine lv_icmp_lt (tgt := 37) hx hb dX3_add_32 (by decide) (fun c_32 => ?_) (fun c_32 => ?_)
      · have hlen : F.length < 200 := (nI_ltI (by omega) (by omega)).mp (show nI F.length < nI 200 from c_32)
        refine lv_aload_n hx hb dX3_add_37 rfl (lv_at hl 1 rfl) ?_
        refine k_get (ci := 4) (CC := RX3) (T := TX3) (N := 3) (v := .int (nI F.length)) C G 0 rfl rfl in_4 2 (by decide) fl_X3_18 rfl rfl dX3_add_38 ?_
        refine lv_istore (lv' := [(4, .int (nI F.length)), (3, .int (nI (plc F x))), (0, .ref h), (1, .int x), (2, .int pt)]) hx hb dX3_add_41 hl (by decide) rfl (fun ls hl => ?_)
        exact lp_X3_add C hlen hfl (fun N2 P2 h9 => Or.inr (Or.inr ⟨(fun z => c_20 (by rw [(hfl _ hlt).1]; exact z.2)), hlen, rfl, N2, P2, h9, rfl⟩)) (F.length - plc F x) F.length N Pt (by omega) (by omega) (fun _ _ => rfl) (fun _ _ => rfl) (fun i a b => absurd a (by omega)) (fun i a b => absurd a (by omega)) _ _ _ G (lv_sub hl [0, 1, 2, 3, 4] rfl)
      · refine lv_iconst (v := 0) hx hb dX3_add_35 (by decide) ?_
        exact kr_z C G (by decide) (Or.inr (Or.inl ⟨(fun z => c_20 (by rw [(hfl _ hlt).1]; exact z.2)), by have h9 : ¬ F.length < 200 := fun z => c_32 (show nI F.length < nI 200 from nI_lt z (by omega)); omega, rfl, rfl⟩)) (Nat.le_of_ble_eq_true rfl) (Nat.le_of_ble_eq_true rfl) dX3_add_36
    · refine lv_iconst (v := 1) hx hb dX3_add_23 (by decide) ?_
      exact kr_z C G (by decide) (Or.inl ⟨⟨hlt, by rw [← (hfl _ hlt).1]; exact c_20⟩, rfl, rfl⟩) (Nat.le_of_ble_eq_true rfl) (Nat.le_of_ble_eq_true rfl) dX3_add_24
set_option maxRecDepth 100000 in
set_option maxHeartbeats 4000000 in
theorem lp_X3_remove {p : Program} {l : Launch} {e : Env} {s : State} {m : MethodId} {args : Array Value} {below : List Frame} {meth : Method} {c : Code} {Z : zT} {A : Nat → Prop} {h qn qp : Nat} {x : Int32} {N Pt : Nat → Int32} {F : flT} {post : va_W → Prop} (C : cx p s m args meth c cX3_remove 4 none RX3 "remove") (hm : F.length ≤ 200) (hfl : fl_at N Pt F) (hlt : plc F x < F.length) (hp : ∀ N2 P2, fl_at N2 P2 (fl_del F x) → post (flW Z h qn qp (F.length - 1) N2 P2)) : ∀ (k i : Nat) (N1 P1 : Nat → Int32), i + k = F.length - 1 → plc F x ≤ i → (∀ t, t < i → N1 t = if t < plc F x then N t else N (t + 1)) → (∀ t, t < i → P1 t = if t < plc F x then Pt t else Pt (t + 1)) → (∀ t, i ≤ t → t < F.length → N1 t = N t) → (∀ t, i ≤ t → t < F.length → P1 t = Pt t) → ∀ (H : Heap) (locs : List Loc) (ls : Array Slot), wd Z A s (flW Z h qn qp (F.length - 1) N1 P1) H locs → lv_has ls 4 [(3, .int (nI i)), (2, .int (nI (plc F x))), (0, .ref h), (1, .int x)] → W p l e ({ frames := 2, cells := 0, slots := 0, locals := 60 }) s m args below meth c H locs 0 0 (MQ below (va_Qv post (mB Z A) A) args s 0 0 A) (F0 m 36 ls []) := by
  have hx := C.1
  have hb := C.2.1
  have hown := C.2.2.2.2.2.1
  have hts := C.2.2.2.2.2.2.1
  intro k
  induction k with
  | zero =>
    intro i N1 P1 hi hpi h1 h2 h3 h4 H locs ls G hl
    refine lv_iload_n hx hb dX3_remove_36 rfl (lv_at hl 0 rfl) ?_
    refine lv_aload_n hx hb dX3_remove_37 rfl (lv_at hl 2 rfl) ?_
    refine k_get (ci := 4) (CC := RX3) (T := TX3) (N := 3) (v := .int (nI (F.length - 1))) C G 0 rfl rfl in_4 2 (by decide) fl_X3_18 rfl rfl dX3_remove_38 ?_
    refine lv_icmp_ge (tgt := 78) hx hb dX3_remove_41 (by decide) (fun c_41 => ?_) (fun c_41 => ?_)
    · exact kr_v C G (hp _ _ (fl_del_at hfl hlt (fun t ht => h1 t (by omega)) (fun t ht => h2 t (by omega)))) (Nat.le_of_ble_eq_true rfl) (Nat.le_of_ble_eq_true rfl) dX3_remove_78
    · exact absurd (nI_le (by omega) (by omega)) c_41
  | succ k ih =>
    intro i N1 P1 hi hpi h1 h2 h3 h4 H locs ls G hl
    refine lv_iload_n hx hb dX3_remove_36 rfl (lv_at hl 0 rfl) ?_
    refine lv_aload_n hx hb dX3_remove_37 rfl (lv_at hl 2 rfl) ?_
    refine k_get (ci := 4) (CC := RX3) (T := TX3) (N := 3) (v := .int (nI (F.length - 1))) C G 0 rfl rfl in_4 2 (by decide) fl_X3_18 rfl rfl dX3_remove_38 ?_
    refine lv_icmp_ge (tgt := 78) hx hb dX3_remove_41 (by decide) (fun c_41 => ?_) (fun c_41 => ?_)
    · exact absurd c_41 (nI_ge (by omega) (by omega))
    · refine lv_aload_n hx hb dX3_remove_44 rfl (lv_at hl 2 rfl) ?_
      refine k_get (ci := 4) (CC := RX3) (T := TX3) (N := 3) (v := .ref qn) C G 0 rfl rfl in_4 0 (by decide) fl_X3_9 rfl rfl dX3_remove_45 ?_
      refine lv_iload_n hx hb dX3_remove_48 rfl (lv_at hl 0 rfl) ?_
      refine lv_aload_n hx hb dX3_remove_49 rfl (lv_at hl 2 rfl) ?_
      refine k_get (ci := 4) (CC := RX3) (T := TX3) (N := 3) (v := .ref qn) C G 0 rfl rfl in_4 0 (by decide) fl_X3_9 rfl rfl dX3_remove_50 ?_
      refine lv_iload_n hx hb dX3_remove_53 rfl (lv_at hl 0 rfl) ?_
      refine lv_iconst (v := 1) hx hb dX3_remove_54 (by decide) ?_
      refine lv_iadd hx hb dX3_remove_55 ?_
      refine k_topi (y := nI (i + 1)) (by exact nI_1 _) ?_
      have h_56 : vp_in (nI (i + 1)) 200 := by exact vp_in_nI (by omega) (by omega)
      refine k_iald C G 1 rfl h_56 dX3_remove_56 ?_
      have h_57 : vp_in (nI i) 200 := by exact vp_in_nI (by omega) (by omega)
      refine k_iast C G 1 rfl h_57 dX3_remove_57 (fun H locs (G : wd Z A s ([(h, .inr (4, [.ref qn, .ref qp, .int (nI (F.length - 1))])), (qn, aI Z 200 (upd N1 (nI i).toNatClampNeg (N1 (nI (i + 1)).toNatClampNeg))), (qp, aI Z 200 P1)]) H locs) => ?_)
      refine lv_aload_n hx hb dX3_remove_58 rfl (lv_at hl 2 rfl) ?_
      refine k_get (ci := 4) (CC := RX3) (T := TX3) (N := 3) (v := .ref qp) C G 0 rfl rfl in_4 1 (by decide) fl_X3_15 rfl rfl dX3_remove_59 ?_
      refine lv_iload_n hx hb dX3_remove_62 rfl (lv_at hl 0 rfl) ?_
      refine lv_aload_n hx hb dX3_remove_63 rfl (lv_at hl 2 rfl) ?_
      refine k_get (ci := 4) (CC := RX3) (T := TX3) (N := 3) (v := .ref qp) C G 0 rfl rfl in_4 1 (by decide) fl_X3_15 rfl rfl dX3_remove_64 ?_
      refine lv_iload_n hx hb dX3_remove_67 rfl (lv_at hl 0 rfl) ?_
      refine lv_iconst (v := 1) hx hb dX3_remove_68 (by decide) ?_
      refine lv_iadd hx hb dX3_remove_69 ?_
      refine k_topi (y := nI (i + 1)) (by exact nI_1 _) ?_
      have h_70 : vp_in (nI (i + 1)) 200 := by exact vp_in_nI (by omega) (by omega)
      refine k_iald C G 2 rfl h_70 dX3_remove_70 ?_
      have h_71 : vp_in (nI i) 200 := by exact vp_in_nI (by omega) (by omega)
      refine k_iast C G 2 rfl h_71 dX3_remove_71 (fun H locs (G : wd Z A s ([(h, .inr (4, [.ref qn, .ref qp, .int (nI (F.length - 1))])), (qn, aI Z 200 (upd N1 (nI i).toNatClampNeg (N1 (nI (i + 1)).toNatClampNeg))), (qp, aI Z 200 (upd P1 (nI i).toNatClampNeg (P1 (nI (i + 1)).toNatClampNeg)))]) H locs) => ?_)
      refine lv_iinc (v := nI (i + 1)) (lv' := [(3, .int (nI (i + 1))), (2, .int (nI (plc F x))), (0, .ref h), (1, .int x)]) hx hb dX3_remove_72 hl (k := 0) rfl (nI_1 _) (by decide) rfl (fun ls hl => ?_)
      refine lv_goto (tgt := 36) hx hb dX3_remove_75 (by decide) ?_
      have ei : (nI i).toNatClampNeg = i := nI_clamp (by omega)
      have ei1 : (nI (i + 1)).toNatClampNeg = i + 1 := nI_clamp (by omega)
      rw [ei, ei1] at G
      exact ih (i + 1) _ _ (by omega) (by omega) (shL_lo h1 h3 hpi (by omega)) (shL_lo h2 h4 hpi (by omega)) (shL_hi h3) (shL_hi h4) _ _ _ G (lv_sub hl [0, 1, 2, 3] rfl)
set_option maxRecDepth 100000 in
set_option maxHeartbeats 4000000 in
theorem c_X3_remove (Z : zT) (l : Launch) (h qn qp : Nat) (x : Int32) (N Pt : Nat → Int32) (F : flT) (hm : F.length ≤ 200) (hfl : fl_at N Pt F) (hso : fl_so F) : Kv Z l yX3_remove cX3_remove 4 none ({ frames := 2, cells := 0, slots := 0, locals := 60 }) [.ref h, .int x] (flW Z h qn qp F.length N Pt) (fun u => (¬ fl_has F x ∧ u = flW Z h qn qp F.length N Pt) ∨ (fl_has F x ∧ ∃ N2 P2, fl_at N2 P2 (fl_del F x) ∧ u = flW Z h qn qp (F.length - 1) N2 P2)) := by
  intro sz
  refine Met.ofK (cc := cX3_remove) (maxL := 4) (ret := none) (by decide) (Nat.le_of_ble_eq_true rfl) ?_
  intro p e s m below meth c ls C G hl
  generalize va_A _ sz = A at G ⊢
  have hx := C.1
  have hb := C.2.1
  have hown := C.2.2.2.2.2.1
  have hts := C.2.2.2.2.2.2.1
  have hpl := plc_le F x
  refine lv_aload_n hx hb dX3_remove_0 rfl (lv_at hl 0 rfl) ?_
  refine lv_iload_n hx hb dX3_remove_1 rfl (lv_at hl 1 rfl) ?_
  have hX : List.Perm ([(h, .inr (4, [.ref qn, .ref qp, .int (nI F.length)])), (qn, aI Z 200 N), (qp, aI Z 200 Pt)]) ([(h, .inr (4, [.ref qn, .ref qp, .int (nI F.length)])), (qn, aI Z 200 N), (qp, aI Z 200 Pt)] ++ ([])) := (perm_ix [0, 1, 2] rfl 3 (by decide) rfl)
  refine kc_i (Wc := [(h, .inr (4, [.ref qn, .ref qp, .int (nI F.length)])), (qn, aI Z 200 N), (qp, aI Z 200 Pt)]) (Wr := []) G hX (krV 1 rfl (As := [.int x]) (rest := []) (ci := 4) (CC := RX3) (T := TX3) (N := 3) C G hX (c_X3_placeOf Z l h qn qp x N Pt F hm hfl hso _) (gdV ml_X3_29 im_X3_placeOf se_X3_placeOf ii_X3 co_X3_placeOf) (by decide +kernel) ⟨Nat.le_of_ble_eq_true rfl, Nat.le_of_ble_eq_true rfl⟩ rfl 0 rfl hl rfl (Nat.le_of_ble_eq_true rfl) ⟨Nat.le_refl _, Nat.le_refl _⟩ dX3_remove_2) (fun r_2 u H locs hu G => ?_)
  obtain ⟨r_2_e, rfl⟩ := hu
  subst r_2_e
  have G : wd Z A s ([(h, .inr (4, [.ref qn, .ref qp, .int (nI F.length)])), (qn, aI Z 200 N), (qp, aI Z 200 Pt)]) H locs := G
  refine lv_istore_n (lv' := [(2, .int (nI (plc F x))), (0, .ref h), (1, .int x)]) hx hb dX3_remove_5 rfl hl (by decide) rfl (fun ls hl => ?_)
  refine lv_iload_n hx hb dX3_remove_6 rfl (lv_at hl 0 rfl) ?_
  refine lv_aload_n hx hb dX3_remove_7 rfl (lv_at hl 1 rfl) ?_
  refine k_get (ci := 4) (CC := RX3) (T := TX3) (N := 3) (v := .int (nI F.length)) C G 0 rfl rfl in_4 2 (by decide) fl_X3_18 rfl rfl dX3_remove_8 ?_
  refine lv_icmp_ge (tgt := 23) hx hb dX3_remove_11 (by decide) (fun c_11 => ?_) (fun c_11 => ?_)
  · exact kr_v C G (Or.inl ⟨(fun z => absurd c_11 (nI_ge z.1 (by omega))), rfl⟩) (Nat.le_of_ble_eq_true rfl) (Nat.le_of_ble_eq_true rfl) dX3_remove_23
  · have hlt : plc F x < F.length := nI_nle_lt c_11 (by omega)
    refine lv_aload_n hx hb dX3_remove_14 rfl (lv_at hl 1 rfl) ?_
    refine lv_iload_n hx hb dX3_remove_15 rfl (lv_at hl 0 rfl) ?_
    have hX : List.Perm ([(h, .inr (4, [.ref qn, .ref qp, .int (nI F.length)])), (qn, aI Z 200 N), (qp, aI Z 200 Pt)]) ([(h, .inr (4, [.ref qn, .ref qp, .int (nI F.length)])), (qn, aI Z 200 N), (qp, aI Z 200 Pt)] ++ ([])) := (perm_ix [0, 1, 2] rfl 3 (by decide) rfl)
    refine kc_i (Wc := [(h, .inr (4, [.ref qn, .ref qp, .int (nI F.length)])), (qn, aI Z 200 N), (qp, aI Z 200 Pt)]) (Wr := []) G hX (krV 1 rfl (As := [.int (nI (plc F x))]) (rest := []) (ci := 4) (CC := RX3) (T := TX3) (N := 3) C G hX (c_X3_numberAtI Z l h qn qp F.length (plc F x) N Pt hm hlt _) (gdV ml_X3_26 im_X3_numberAt se_X3_numberAt ii_X3 co_X3_numberAt) (by decide +kernel) ⟨Nat.le_of_ble_eq_true rfl, Nat.le_of_ble_eq_true rfl⟩ rfl 0 rfl hl rfl (Nat.le_of_ble_eq_true rfl) ⟨Nat.le_of_ble_eq_true rfl, Nat.le_of_ble_eq_true rfl⟩ dX3_remove_16) (fun r_16 u H locs hu G => ?_)
    obtain ⟨r_16_e, rfl⟩ := hu
    subst r_16_e
    have G : wd Z A s ([(h, .inr (4, [.ref qn, .ref qp, .int (nI F.length)])), (qn, aI Z 200 N), (qp, aI Z 200 Pt)]) H locs := G
    refine lv_iload_n hx hb dX3_remove_19 rfl (lv_at hl 2 rfl) ?_
    refine lv_icmp_eq (tgt := 24) hx hb dX3_remove_20 (by decide) (fun c_20 => ?_) (fun c_20 => ?_)
    · refine lv_aload_n hx hb dX3_remove_24 rfl (lv_at hl 1 rfl) ?_
      refine lv_dup hx hb dX3_remove_25 rfl ?_
      refine k_get (ci := 4) (CC := RX3) (T := TX3) (N := 3) (v := .int (nI F.length)) C G 0 rfl rfl in_4 2 (by decide) fl_X3_18 rfl rfl dX3_remove_26 ?_
      refine lv_iconst (v := 1) hx hb dX3_remove_29 (by decide) ?_
      refine lv_isub hx hb dX3_remove_30 ?_
      refine k_topi (y := nI (F.length - 1)) (by exact pk_sub (b := 1) (by omega)) ?_
      refine k_put (ci := 4) (CC := RX3) (T := TX3) (N := 3) (ty := .int) (v := .int (nI (F.length - 1))) C G 0 rfl rfl in_4 tyX3 tyX3_ok nmX3 2 (by decide) fl_X3_18 rfl rfl rfl rfl rfl (Nat.le_of_ble_eq_true rfl) dX3_remove_31 (fun H locs (G : wd Z A s ([(h, .inr (4, [.ref qn, .ref qp, .int (nI (F.length - 1))])), (qn, aI Z 200 N), (qp, aI Z 200 Pt)]) H locs) => ?_)
      refine lv_iload_n hx hb dX3_remove_34 rfl (lv_at hl 0 rfl) ?_
      refine lv_istore_n (lv' := [(3, .int (nI (plc F x))), (2, .int (nI (plc F x))), (0, .ref h), (1, .int x)]) hx hb dX3_remove_35 rfl hl (by decide) rfl (fun ls hl => ?_)
      exact lp_X3_remove C hm hfl hlt (fun N2 P2 h9 => Or.inr ⟨⟨hlt, by rw [← (hfl _ hlt).1]; exact c_20⟩, N2, P2, h9, rfl⟩) (F.length - 1 - plc F x) (plc F x) N Pt (by omega) (Nat.le_refl _) (fun t a => (if_pos a).symm) (fun t a => (if_pos a).symm) (fun _ _ _ => rfl) (fun _ _ _ => rfl) _ _ _ G (lv_sub hl [0, 1, 2, 3] rfl)
    · exact kr_v C G (Or.inl ⟨(fun z => c_20 (by rw [(hfl _ hlt).1]; exact z.2)), rfl⟩) (Nat.le_of_ble_eq_true rfl) (Nat.le_of_ble_eq_true rfl) dX3_remove_23
set_option maxRecDepth 100000 in
set_option maxHeartbeats 4000000 in
theorem lp_X3_writeCheckpoint {p : Program} {l : Launch} {e : Env} {s : State} {m : MethodId} {args : Array Value} {below : List Frame} {meth : Method} {c : Code} {Z : zT} {A : Nat → Prop} {h qn qp sh sq SL mc ms cells slots : Nat} {v : Int32} {N Pt : Nat → Int32} {F : flT} {bs : List Int8} {post : va_W → Prop} (C : cx p s m args meth c cX3_writeCheckpoint 5 none RX3 "writeCheckpoint") (hm : F.length ≤ 200) (hfl : fl_at N Pt F) (hk : bs.length + (10 + 5 * F.length) ≤ SL) (hL : SL < 2 ^ 30) (hcm : cells ≤ mc) (hsm : slots ≤ ms) (hp : ∀ (f : Nat → Int32) (B : List Int8), by_at f B → B = bs ++ ckE v F → post (flW Z h qn qp F.length N Pt ++ skW Z sh sq SL f (nI B.length))) : ∀ (k i : Nat) (B : List Int8) (f : Nat → Int32), i + k = F.length → B = bs ++ (([(67 : Int32).toInt8] ++ u4b v ++ [(nI F.length).toInt8]) ++ ckF (F.take i)) → by_at f B → ∀ (H : Heap) (locs : List Loc) (ls : Array Slot), wd Z A s (flW Z h qn qp F.length N Pt ++ skW Z sh sq SL f (nI B.length)) H locs → lv_has ls 5 [(4, .int (nI i)), (3, .int (nI bs.length)), (0, .ref h), (1, .ref sh), (2, .int v)] → W p l e ({ frames := 3, cells := mc, slots := ms, locals := 95 }) s m args below meth c H locs cells slots (MQ below (va_Qv post (mB Z A) A) args s mc ms A) (F0 m 42 ls []) := by
  have hx := C.1
  have hb := C.2.1
  have hown := C.2.2.2.2.2.1
  have hts := C.2.2.2.2.2.2.1
  intro k
  induction k with
  | zero =>
    intro i B f hi hB hf H locs ls G hl
    have hBl : B.length = bs.length + (6 + 5 * i) := by rw [hB]; simp only [List.length_append, ckF_len, List.length_take, u4b_len, List.length_cons, List.length_nil]; omega
    refine lv_iload hx hb dX3_writeCheckpoint_42 (lv_at hl 0 rfl) ?_
    refine lv_aload_n hx hb dX3_writeCheckpoint_44 rfl (lv_at hl 2 rfl) ?_
    refine k_get (ci := 4) (CC := RX3) (T := TX3) (N := 3) (v := .int (nI F.length)) C G 0 rfl rfl in_4 2 (by decide) fl_X3_18 rfl rfl dX3_writeCheckpoint_45 ?_
    refine lv_icmp_ge (tgt := 77) hx hb dX3_writeCheckpoint_48 (by decide) (fun c_48 => ?_) (fun c_48 => ?_)
    · refine lv_aload_n hx hb dX3_writeCheckpoint_77 rfl (lv_at hl 3 rfl) ?_
      refine lv_iload_n hx hb dX3_writeCheckpoint_78 rfl (lv_at hl 1 rfl) ?_
      have hX : List.Perm ([(h, .inr (4, [.ref qn, .ref qp, .int (nI F.length)])), (qn, aI Z 200 N), (qp, aI Z 200 Pt), (sh, .inr (7, [.ref sq, .int (nI B.length)])), (sq, aB Z SL f)]) ([(sh, .inr (7, [.ref sq, .int (nI B.length)])), (sq, aB Z SL f)] ++ ([(h, .inr (4, [.ref qn, .ref qp, .int (nI F.length)])), (qn, aI Z 200 N), (qp, aI Z 200 Pt)])) := (perm_ix [3, 4, 0, 1, 2] rfl 5 (by decide) rfl)
      refine kc_v (Wc := [(sh, .inr (7, [.ref sq, .int (nI B.length)])), (sq, aB Z SL f)]) (Wr := [(h, .inr (4, [.ref qn, .ref qp, .int (nI F.length)])), (qn, aI Z 200 N), (qp, aI Z 200 Pt)]) G hX (krV 1 rfl (As := [.int (nI bs.length)]) (rest := []) (ci := 7) (CC := RX6) (T := TX6) (N := 2) C G hX (c_X6_check Z l sh sq SL bs.length f B hf (by omega) (by omega) (by omega) _) (gdV ml_X3_50 im_X6_check se_X6_check ii_X6 co_X6_check) (by decide +kernel) ⟨Nat.le_of_ble_eq_true rfl, Nat.le_of_ble_eq_true rfl⟩ rfl 0 rfl hl rfl (Nat.le_of_ble_eq_true rfl) ⟨hcm, hsm⟩ dX3_writeCheckpoint_79) (fun u H locs hu G => ?_)
      obtain ⟨f6, hf6, rfl⟩ := hu
      have G : wd Z A s ([(h, .inr (4, [.ref qn, .ref qp, .int (nI F.length)])), (qn, aI Z 200 N), (qp, aI Z 200 Pt), (sh, .inr (7, [.ref sq, .int (nI (B.length + 4))])), (sq, aB Z SL f6)]) H locs := G.perm (perm_ix [2, 3, 4, 0, 1] rfl 5 (by decide) rfl)
      obtain ⟨B6, eB6⟩ : ∃ b, b = B ++ u4b (crc (B.drop bs.length)) := ⟨_, rfl⟩
      rw [← eB6] at hf6
      have lB6 : B.length + 4 = B6.length := by rw [eB6, List.length_append]; rfl
      rw [lB6] at G
      exact kr_v C G (hp f6 B6 hf6 (by rw [eB6, hB, List.drop_left, ckE, ckB, show F.take i = F from List.take_of_length_le (by omega), List.append_assoc])) hcm hsm dX3_writeCheckpoint_82
    · exact absurd (nI_le (by omega) (by omega)) c_48
  | succ k ih =>
    intro i B f hi hB hf H locs ls G hl
    have hBl : B.length = bs.length + (6 + 5 * i) := by rw [hB]; simp only [List.length_append, ckF_len, List.length_take, u4b_len, List.length_cons, List.length_nil]; omega
    refine lv_iload hx hb dX3_writeCheckpoint_42 (lv_at hl 0 rfl) ?_
    refine lv_aload_n hx hb dX3_writeCheckpoint_44 rfl (lv_at hl 2 rfl) ?_
    refine k_get (ci := 4) (CC := RX3) (T := TX3) (N := 3) (v := .int (nI F.length)) C G 0 rfl rfl in_4 2 (by decide) fl_X3_18 rfl rfl dX3_writeCheckpoint_45 ?_
    refine lv_icmp_ge (tgt := 77) hx hb dX3_writeCheckpoint_48 (by decide) (fun c_48 => ?_) (fun c_48 => ?_)
    · exact absurd c_48 (nI_ge (by omega) (by omega))
    · refine lv_aload_n hx hb dX3_writeCheckpoint_51 rfl (lv_at hl 3 rfl) ?_
      refine lv_aload_n hx hb dX3_writeCheckpoint_52 rfl (lv_at hl 2 rfl) ?_
      refine lv_iload hx hb dX3_writeCheckpoint_53 (lv_at hl 0 rfl) ?_
      have hX : List.Perm ([(h, .inr (4, [.ref qn, .ref qp, .int (nI F.length)])), (qn, aI Z 200 N), (qp, aI Z 200 Pt), (sh, .inr (7, [.ref sq, .int (nI B.length)])), (sq, aB Z SL f)]) ([(h, .inr (4, [.ref qn, .ref qp, .int (nI F.length)])), (qn, aI Z 200 N), (qp, aI Z 200 Pt)] ++ ([(sh, .inr (7, [.ref sq, .int (nI B.length)])), (sq, aB Z SL f)])) := (perm_ix [0, 1, 2, 3, 4] rfl 5 (by decide) rfl)
      refine kc_i (Wc := [(h, .inr (4, [.ref qn, .ref qp, .int (nI F.length)])), (qn, aI Z 200 N), (qp, aI Z 200 Pt)]) (Wr := [(sh, .inr (7, [.ref sq, .int (nI B.length)])), (sq, aB Z SL f)]) G hX (krV 1 rfl (As := [.int (nI i)]) (rest := [.ref sh]) (ci := 4) (CC := RX3) (T := TX3) (N := 3) C G hX (c_X3_numberAtI Z l h qn qp F.length i N Pt hm (by omega) _) (gdV ml_X3_26 im_X3_numberAt se_X3_numberAt ii_X3 co_X3_numberAt) (by decide +kernel) ⟨Nat.le_of_ble_eq_true rfl, Nat.le_of_ble_eq_true rfl⟩ rfl 0 rfl hl rfl (Nat.le_of_ble_eq_true rfl) ⟨hcm, hsm⟩ dX3_writeCheckpoint_55) (fun r_55 u H locs hu G => ?_)
      obtain ⟨r_55_e, rfl⟩ := hu
      subst r_55_e
      have G : wd Z A s ([(h, .inr (4, [.ref qn, .ref qp, .int (nI F.length)])), (qn, aI Z 200 N), (qp, aI Z 200 Pt), (sh, .inr (7, [.ref sq, .int (nI B.length)])), (sq, aB Z SL f)]) H locs := G
      have hX : List.Perm ([(h, .inr (4, [.ref qn, .ref qp, .int (nI F.length)])), (qn, aI Z 200 N), (qp, aI Z 200 Pt), (sh, .inr (7, [.ref sq, .int (nI B.length)])), (sq, aB Z SL f)]) ([(sh, .inr (7, [.ref sq, .int (nI B.length)])), (sq, aB Z SL f)] ++ ([(h, .inr (4, [.ref qn, .ref qp, .int (nI F.length)])), (qn, aI Z 200 N), (qp, aI Z 200 Pt)])) := (perm_ix [3, 4, 0, 1, 2] rfl 5 (by decide) rfl)
      refine kc_v (Wc := [(sh, .inr (7, [.ref sq, .int (nI B.length)])), (sq, aB Z SL f)]) (Wr := [(h, .inr (4, [.ref qn, .ref qp, .int (nI F.length)])), (qn, aI Z 200 N), (qp, aI Z 200 Pt)]) G hX (krV 1 rfl (As := [.int (N i)]) (rest := []) (ci := 7) (CC := RX6) (T := TX6) (N := 2) C G hX (c_X6_u4 Z l sh sq SL f B (N i) hf (by omega) (by omega) _) (gdV ml_X3_47 im_X6_u4 se_X6_u4 ii_X6 co_X6_u4) (by decide +kernel) ⟨Nat.le_of_ble_eq_true rfl, Nat.le_of_ble_eq_true rfl⟩ rfl 0 rfl hl rfl (Nat.le_of_ble_eq_true rfl) ⟨hcm, hsm⟩ dX3_writeCheckpoint_58) (fun u H locs hu G => ?_)
      obtain ⟨f1, hf1, rfl⟩ := hu
      have G : wd Z A s ([(h, .inr (4, [.ref qn, .ref qp, .int (nI F.length)])), (qn, aI Z 200 N), (qp, aI Z 200 Pt), (sh, .inr (7, [.ref sq, .int (nI (B.length + 4))])), (sq, aB Z SL f1)]) H locs := G.perm (perm_ix [2, 3, 4, 0, 1] rfl 5 (by decide) rfl)
      obtain ⟨B1, eB1⟩ : ∃ b, b = B ++ u4b (N i) := ⟨_, rfl⟩
      rw [← eB1] at hf1
      have lB1 : B.length + 4 = B1.length := by rw [eB1, List.length_append]; rfl
      rw [lB1] at G
      refine lv_aload_n hx hb dX3_writeCheckpoint_61 rfl (lv_at hl 3 rfl) ?_
      refine lv_aload_n hx hb dX3_writeCheckpoint_62 rfl (lv_at hl 2 rfl) ?_
      refine lv_iload hx hb dX3_writeCheckpoint_63 (lv_at hl 0 rfl) ?_
      have hX : List.Perm ([(h, .inr (4, [.ref qn, .ref qp, .int (nI F.length)])), (qn, aI Z 200 N), (qp, aI Z 200 Pt), (sh, .inr (7, [.ref sq, .int (nI B1.length)])), (sq, aB Z SL f1)]) ([(h, .inr (4, [.ref qn, .ref qp, .int (nI F.length)])), (qn, aI Z 200 N), (qp, aI Z 200 Pt)] ++ ([(sh, .inr (7, [.ref sq, .int (nI B1.length)])), (sq, aB Z SL f1)])) := (perm_ix [0, 1, 2, 3, 4] rfl 5 (by decide) rfl)
      refine kc_i (Wc := [(h, .inr (4, [.ref qn, .ref qp, .int (nI F.length)])), (qn, aI Z 200 N), (qp, aI Z 200 Pt)]) (Wr := [(sh, .inr (7, [.ref sq, .int (nI B1.length)])), (sq, aB Z SL f1)]) G hX (krV 1 rfl (As := [.int (nI i)]) (rest := [.ref sh]) (ci := 4) (CC := RX3) (T := TX3) (N := 3) C G hX (c_X3_partitionAtI Z l h qn qp F.length i N Pt hm (by omega) _) (gdV ml_X3_22 im_X3_partitionAt se_X3_partitionAt ii_X3 co_X3_partitionAt) (by decide +kernel) ⟨Nat.le_of_ble_eq_true rfl, Nat.le_of_ble_eq_true rfl⟩ rfl 0 rfl hl rfl (Nat.le_of_ble_eq_true rfl) ⟨hcm, hsm⟩ dX3_writeCheckpoint_65) (fun r_65 u H locs hu G => ?_)
      obtain ⟨r_65_e, rfl⟩ := hu
      subst r_65_e
      have G : wd Z A s ([(h, .inr (4, [.ref qn, .ref qp, .int (nI F.length)])), (qn, aI Z 200 N), (qp, aI Z 200 Pt), (sh, .inr (7, [.ref sq, .int (nI B1.length)])), (sq, aB Z SL f1)]) H locs := G
      have hX : List.Perm ([(h, .inr (4, [.ref qn, .ref qp, .int (nI F.length)])), (qn, aI Z 200 N), (qp, aI Z 200 Pt), (sh, .inr (7, [.ref sq, .int (nI B1.length)])), (sq, aB Z SL f1)]) ([(sh, .inr (7, [.ref sq, .int (nI B1.length)])), (sq, aB Z SL f1)] ++ ([(h, .inr (4, [.ref qn, .ref qp, .int (nI F.length)])), (qn, aI Z 200 N), (qp, aI Z 200 Pt)])) := (perm_ix [3, 4, 0, 1, 2] rfl 5 (by decide) rfl)
      refine kc_v (Wc := [(sh, .inr (7, [.ref sq, .int (nI B1.length)])), (sq, aB Z SL f1)]) (Wr := [(h, .inr (4, [.ref qn, .ref qp, .int (nI F.length)])), (qn, aI Z 200 N), (qp, aI Z 200 Pt)]) G hX (krV 1 rfl (As := [.int (Pt i)]) (rest := []) (ci := 7) (CC := RX6) (T := TX6) (N := 2) C G hX (c_X6_u1 Z l sh sq SL f1 B1 (Pt i) hf1 (by omega) (by omega) _) (gdV ml_X3_44 im_X6_u1 se_X6_u1 ii_X6 co_X6_u1) (by decide +kernel) ⟨Nat.le_of_ble_eq_true rfl, Nat.le_of_ble_eq_true rfl⟩ rfl 0 rfl hl rfl (Nat.le_of_ble_eq_true rfl) ⟨hcm, hsm⟩ dX3_writeCheckpoint_68) (fun u H locs hu G => ?_)
      obtain ⟨f2, hf2, rfl⟩ := hu
      have G : wd Z A s ([(h, .inr (4, [.ref qn, .ref qp, .int (nI F.length)])), (qn, aI Z 200 N), (qp, aI Z 200 Pt), (sh, .inr (7, [.ref sq, .int (nI (B1.length + 1))])), (sq, aB Z SL f2)]) H locs := G.perm (perm_ix [2, 3, 4, 0, 1] rfl 5 (by decide) rfl)
      obtain ⟨B2, eB2⟩ : ∃ b, b = B1 ++ [(Pt i).toInt8] := ⟨_, rfl⟩
      rw [← eB2] at hf2
      have lB2 : B1.length + 1 = B2.length := by rw [eB2, List.length_append]; rfl
      rw [lB2] at G
      refine lv_iinc (v := nI (i + 1)) (lv' := [(4, .int (nI (i + 1))), (3, .int (nI bs.length)), (0, .ref h), (1, .ref sh), (2, .int v)]) hx hb dX3_writeCheckpoint_71 hl (k := 0) rfl (nI_1 _) (by decide) rfl (fun ls hl => ?_)
      refine lv_goto (tgt := 42) hx hb dX3_writeCheckpoint_74 (by decide) ?_
      exact ih (i + 1) B2 f2 (by omega) (by rw [eB2, eB1, hB, ckF_s F i (by omega), (hfl i (by omega)).1, (hfl i (by omega)).2]; simp only [List.append_assoc]) hf2 _ _ _ G (lv_sub hl [0, 1, 2, 3, 4] rfl)
set_option maxRecDepth 100000 in
set_option maxHeartbeats 4000000 in
theorem c_X3_writeCheckpoint (Z : zT) (l : Launch) (h qn qp sh sq SL : Nat) (v : Int32) (N Pt f : Nat → Int32) (F : flT) (bs : List Int8) (hm : F.length ≤ 200) (hfl : fl_at N Pt F) (hf : by_at f bs) (hl0 : bs.length ≤ SL) (hL : SL < 2 ^ 27) : Kv Z l yX3_writeCheckpoint cX3_writeCheckpoint 5 none ({ frames := 3, cells := gC SL (bs.length + (10 + 5 * F.length)), slots := gS SL (bs.length + (10 + 5 * F.length)), locals := 95 }) [.ref h, .ref sh, .int v] (flW Z h qn qp F.length N Pt ++ skW Z sh sq SL f (nI bs.length)) (fun u => ∃ q2 f2, by_at f2 (bs ++ ckE v F) ∧ u = flW Z h qn qp F.length N Pt ++ skW Z sh q2 (gL SL (bs.length + (10 + 5 * F.length))) f2 (nI (bs.length + (ckE v F).length))) := by
  intro sz
  refine Met.ofK (cc := cX3_writeCheckpoint) (maxL := 5) (ret := none) (by decide) (Nat.le_of_ble_eq_true rfl) ?_
  intro p e s m below meth c ls C G hl
  generalize va_A _ sz = A at G ⊢
  have hx := C.1
  have hb := C.2.1
  have hown := C.2.2.2.2.2.1
  have hts := C.2.2.2.2.2.2.1
  refine lv_aload_n hx hb dX3_writeCheckpoint_0 rfl (lv_at hl 1 rfl) ?_
  refine lv_bipush (v := 6) hx hb dX3_writeCheckpoint_1 (by decide) ?_
  refine lv_iconst (v := 5) hx hb dX3_writeCheckpoint_3 (by decide) ?_
  refine lv_aload_n hx hb dX3_writeCheckpoint_4 rfl (lv_at hl 0 rfl) ?_
  refine k_get (ci := 4) (CC := RX3) (T := TX3) (N := 3) (v := .int (nI F.length)) C G 0 rfl rfl in_4 2 (by decide) fl_X3_18 rfl rfl dX3_writeCheckpoint_5 ?_
  refine lv_imul hx hb dX3_writeCheckpoint_8 ?_
  refine lv_iadd hx hb dX3_writeCheckpoint_9 ?_
  refine lv_iconst (v := 4) hx hb dX3_writeCheckpoint_10 (by decide) ?_
  refine lv_iadd hx hb dX3_writeCheckpoint_11 ?_
  refine k_topi (y := nI (10 + 5 * F.length)) (by rw [show (5 : Int32) = nI 5 from rfl, pk_mul, show (6 : Int32) = nI 6 from rfl, nI_add, show (4 : Int32) = nI 4 from rfl, nI_add]; congr 1; omega) ?_
  have hX : List.Perm ([(h, .inr (4, [.ref qn, .ref qp, .int (nI F.length)])), (qn, aI Z 200 N), (qp, aI Z 200 Pt), (sh, .inr (7, [.ref sq, .int (nI bs.length)])), (sq, aB Z SL f)]) ([(sh, .inr (7, [.ref sq, .int (nI bs.length)])), (sq, aB Z SL f)] ++ ([(h, .inr (4, [.ref qn, .ref qp, .int (nI F.length)])), (qn, aI Z 200 N), (qp, aI Z 200 Pt)])) := (perm_ix [3, 4, 0, 1, 2] rfl 5 (by decide) rfl)
  refine kc_v (Wc := [(sh, .inr (7, [.ref sq, .int (nI bs.length)])), (sq, aB Z SL f)]) (Wr := [(h, .inr (4, [.ref qn, .ref qp, .int (nI F.length)])), (qn, aI Z 200 N), (qp, aI Z 200 Pt)]) G hX (krV 1 rfl (As := [.int (nI (10 + 5 * F.length))]) (rest := []) (ci := 7) (CC := RX6) (T := TX6) (N := 2) C G hX (c_X6_makePlace Z l sh sq SL (10 + 5 * F.length) f bs hf hl0 hL (by omega) _) (gdV ml_X3_38 im_X6_makePlace se_X6_makePlace ii_X6 co_X6_makePlace) (by decide +kernel) ⟨Nat.le_of_ble_eq_true rfl, Nat.le_of_ble_eq_true rfl⟩ rfl 0 rfl hl rfl (Nat.le_of_ble_eq_true rfl) ⟨Nat.le_of_eq (Nat.zero_add _), Nat.le_of_eq (Nat.zero_add _)⟩ dX3_writeCheckpoint_12) (fun u H locs hu G => ?_)
  obtain ⟨q2, f0, hf0, rfl⟩ := hu
  have G : wd Z A s ([(h, .inr (4, [.ref qn, .ref qp, .int (nI F.length)])), (qn, aI Z 200 N), (qp, aI Z 200 Pt), (sh, .inr (7, [.ref q2, .int (nI bs.length)])), (q2, aB Z (gL SL (bs.length + (10 + 5 * F.length))) f0)]) H locs := G.perm (perm_ix [2, 3, 4, 0, 1] rfl 5 (by decide) rfl)
  obtain ⟨S2, eS2⟩ : ∃ b, b = gL SL (bs.length + (10 + 5 * F.length)) := ⟨_, rfl⟩
  rw [← eS2] at G
  have hk : bs.length + (10 + 5 * F.length) ≤ S2 := by rw [eS2]; exact gL_ge _ _
  have hS2 : S2 < 2 ^ 30 := by rw [eS2]; unfold gL; split <;> omega
  refine lv_aload_n hx hb dX3_writeCheckpoint_15 rfl (lv_at hl 1 rfl) ?_
  refine k_get (ci := 7) (CC := RX6) (T := TX6) (N := 2) (v := .int (nI bs.length)) C G 3 rfl rfl in_7 1 (by decide) fl_X3_43 rfl rfl dX3_writeCheckpoint_16 ?_
  refine lv_istore_n (lv' := [(3, .int (nI bs.length)), (0, .ref h), (1, .ref sh), (2, .int v)]) hx hb dX3_writeCheckpoint_19 rfl hl (by decide) rfl (fun ls hl => ?_)
  refine lv_aload_n hx hb dX3_writeCheckpoint_20 rfl (lv_at hl 2 rfl) ?_
  refine lv_bipush (v := 67) hx hb dX3_writeCheckpoint_21 (by decide) ?_
  have hX : List.Perm ([(h, .inr (4, [.ref qn, .ref qp, .int (nI F.length)])), (qn, aI Z 200 N), (qp, aI Z 200 Pt), (sh, .inr (7, [.ref q2, .int (nI bs.length)])), (q2, aB Z S2 f0)]) ([(sh, .inr (7, [.ref q2, .int (nI bs.length)])), (q2, aB Z S2 f0)] ++ ([(h, .inr (4, [.ref qn, .ref qp, .int (nI F.length)])), (qn, aI Z 200 N), (qp, aI Z 200 Pt)])) := (perm_ix [3, 4, 0, 1, 2] rfl 5 (by decide) rfl)
  refine kc_v (Wc := [(sh, .inr (7, [.ref q2, .int (nI bs.length)])), (q2, aB Z S2 f0)]) (Wr := [(h, .inr (4, [.ref qn, .ref qp, .int (nI F.length)])), (qn, aI Z 200 N), (qp, aI Z 200 Pt)]) G hX (krV 1 rfl (As := [.int 67]) (rest := []) (ci := 7) (CC := RX6) (T := TX6) (N := 2) C G hX (c_X6_u1 Z l sh q2 S2 f0 bs (67 : Int32) hf0 (by omega) (by omega) _) (gdV ml_X3_44 im_X6_u1 se_X6_u1 ii_X6 co_X6_u1) (by decide +kernel) ⟨Nat.le_of_ble_eq_true rfl, Nat.le_of_ble_eq_true rfl⟩ rfl 0 rfl hl rfl (Nat.le_of_ble_eq_true rfl) ⟨Nat.le_of_eq (Nat.zero_add _), Nat.le_of_eq (Nat.zero_add _)⟩ dX3_writeCheckpoint_23) (fun u H locs hu G => ?_)
  obtain ⟨f1, hf1, rfl⟩ := hu
  have G : wd Z A s ([(h, .inr (4, [.ref qn, .ref qp, .int (nI F.length)])), (qn, aI Z 200 N), (qp, aI Z 200 Pt), (sh, .inr (7, [.ref q2, .int (nI (bs.length + 1))])), (q2, aB Z S2 f1)]) H locs := G.perm (perm_ix [2, 3, 4, 0, 1] rfl 5 (by decide) rfl)
  obtain ⟨B1, eB1⟩ : ∃ b, b = bs ++ [(67 : Int32).toInt8] := ⟨_, rfl⟩
  rw [← eB1] at hf1
  have lB1 : bs.length + 1 = B1.length := by rw [eB1, List.length_append]; rfl
  rw [lB1] at G
  refine lv_aload_n hx hb dX3_writeCheckpoint_26 rfl (lv_at hl 2 rfl) ?_
  refine lv_iload_n hx hb dX3_writeCheckpoint_27 rfl (lv_at hl 3 rfl) ?_
  have hX : List.Perm ([(h, .inr (4, [.ref qn, .ref qp, .int (nI F.length)])), (qn, aI Z 200 N), (qp, aI Z 200 Pt), (sh, .inr (7, [.ref q2, .int (nI B1.length)])), (q2, aB Z S2 f1)]) ([(sh, .inr (7, [.ref q2, .int (nI B1.length)])), (q2, aB Z S2 f1)] ++ ([(h, .inr (4, [.ref qn, .ref qp, .int (nI F.length)])), (qn, aI Z 200 N), (qp, aI Z 200 Pt)])) := (perm_ix [3, 4, 0, 1, 2] rfl 5 (by decide) rfl)
  refine kc_v (Wc := [(sh, .inr (7, [.ref q2, .int (nI B1.length)])), (q2, aB Z S2 f1)]) (Wr := [(h, .inr (4, [.ref qn, .ref qp, .int (nI F.length)])), (qn, aI Z 200 N), (qp, aI Z 200 Pt)]) G hX (krV 1 rfl (As := [.int v]) (rest := []) (ci := 7) (CC := RX6) (T := TX6) (N := 2) C G hX (c_X6_u4 Z l sh q2 S2 f1 B1 (v) hf1 (by omega) (by omega) _) (gdV ml_X3_47 im_X6_u4 se_X6_u4 ii_X6 co_X6_u4) (by decide +kernel) ⟨Nat.le_of_ble_eq_true rfl, Nat.le_of_ble_eq_true rfl⟩ rfl 0 rfl hl rfl (Nat.le_of_ble_eq_true rfl) ⟨Nat.le_of_eq (Nat.zero_add _), Nat.le_of_eq (Nat.zero_add _)⟩ dX3_writeCheckpoint_28) (fun u H locs hu G => ?_)
  obtain ⟨f2, hf2, rfl⟩ := hu
  have G : wd Z A s ([(h, .inr (4, [.ref qn, .ref qp, .int (nI F.length)])), (qn, aI Z 200 N), (qp, aI Z 200 Pt), (sh, .inr (7, [.ref q2, .int (nI (B1.length + 4))])), (q2, aB Z S2 f2)]) H locs := G.perm (perm_ix [2, 3, 4, 0, 1] rfl 5 (by decide) rfl)
  obtain ⟨B2, eB2⟩ : ∃ b, b = B1 ++ u4b v := ⟨_, rfl⟩
  rw [← eB2] at hf2
  have lB2 : B1.length + 4 = B2.length := by rw [eB2, List.length_append]; rfl
  rw [lB2] at G
  refine lv_aload_n hx hb dX3_writeCheckpoint_31 rfl (lv_at hl 2 rfl) ?_
  refine lv_aload_n hx hb dX3_writeCheckpoint_32 rfl (lv_at hl 1 rfl) ?_
  refine k_get (ci := 4) (CC := RX3) (T := TX3) (N := 3) (v := .int (nI F.length)) C G 0 rfl rfl in_4 2 (by decide) fl_X3_18 rfl rfl dX3_writeCheckpoint_33 ?_
  have hX : List.Perm ([(h, .inr (4, [.ref qn, .ref qp, .int (nI F.length)])), (qn, aI Z 200 N), (qp, aI Z 200 Pt), (sh, .inr (7, [.ref q2, .int (nI B2.length)])), (q2, aB Z S2 f2)]) ([(sh, .inr (7, [.ref q2, .int (nI B2.length)])), (q2, aB Z S2 f2)] ++ ([(h, .inr (4, [.ref qn, .ref qp, .int (nI F.length)])), (qn, aI Z 200 N), (qp, aI Z 200 Pt)])) := (perm_ix [3, 4, 0, 1, 2] rfl 5 (by decide) rfl)
  refine kc_v (Wc := [(sh, .inr (7, [.ref q2, .int (nI B2.length)])), (q2, aB Z S2 f2)]) (Wr := [(h, .inr (4, [.ref qn, .ref qp, .int (nI F.length)])), (qn, aI Z 200 N), (qp, aI Z 200 Pt)]) G hX (krV 1 rfl (As := [.int (nI F.length)]) (rest := []) (ci := 7) (CC := RX6) (T := TX6) (N := 2) C G hX (c_X6_u1 Z l sh q2 S2 f2 B2 (nI F.length) hf2 (by omega) (by omega) _) (gdV ml_X3_44 im_X6_u1 se_X6_u1 ii_X6 co_X6_u1) (by decide +kernel) ⟨Nat.le_of_ble_eq_true rfl, Nat.le_of_ble_eq_true rfl⟩ rfl 0 rfl hl rfl (Nat.le_of_ble_eq_true rfl) ⟨Nat.le_of_eq (Nat.zero_add _), Nat.le_of_eq (Nat.zero_add _)⟩ dX3_writeCheckpoint_36) (fun u H locs hu G => ?_)
  obtain ⟨f3, hf3, rfl⟩ := hu
  have G : wd Z A s ([(h, .inr (4, [.ref qn, .ref qp, .int (nI F.length)])), (qn, aI Z 200 N), (qp, aI Z 200 Pt), (sh, .inr (7, [.ref q2, .int (nI (B2.length + 1))])), (q2, aB Z S2 f3)]) H locs := G.perm (perm_ix [2, 3, 4, 0, 1] rfl 5 (by decide) rfl)
  obtain ⟨B3, eB3⟩ : ∃ b, b = B2 ++ [(nI F.length).toInt8] := ⟨_, rfl⟩
  rw [← eB3] at hf3
  have lB3 : B2.length + 1 = B3.length := by rw [eB3, List.length_append]; rfl
  rw [lB3] at G
  refine lv_iconst (v := 0) hx hb dX3_writeCheckpoint_39 (by decide) ?_
  refine lv_istore (lv' := [(4, .int 0), (3, .int (nI bs.length)), (0, .ref h), (1, .ref sh), (2, .int v)]) hx hb dX3_writeCheckpoint_40 hl (by decide) rfl (fun ls hl => ?_)
  exact lp_X3_writeCheckpoint C hm hfl hk hS2 (Nat.le_of_eq (Nat.zero_add _)) (Nat.le_of_eq (Nat.zero_add _)) (fun f B hf hB => ⟨q2, f, by rw [← hB]; exact hf, by rw [hB, List.length_append, eS2]⟩) F.length 0 B3 f3 (by omega) (by rw [eB3, eB2, eB1]; simp only [List.take_zero, ckF, List.flatMap_nil, List.append_assoc, List.append_nil]) hf3 _ _ _ G (lv_sub hl [0, 1, 2, 3, 4] rfl)
