/-! MODEL (X11): start. -/
def stP (Z : zT) (h : Nat) (ad : Nat → Nat) (iv : ivT) (av : avT) (wn : Nat) (ob : List obT) (flo ki pt : Int32) (c0 : Nat) (wh nu : Int32) (M : Nat) (fa : Int32) (r : Int32) (u : va_W) : Prop :=
  ∃ (iv2 : ivT) (av2 : avT), u = mdW Z h ad iv2 av2 ∧ sI [11, 15, 16, 17, 18, 19, 20, 26, 30] iv iv2 ∧ sA [14, 21, 22, 23, 24, 25, 27, 28, 29, 31, 32, 33, 34, 36, 45, 46, 47, 48, 49, 50, 51, 54, 55, 56, 57, 58] av av2 ∧ oth [14, 21, 22, 23, 24, 25, 27, 28, 29, 31, 32, 58] wn av av2 ∧ (∀ i, fits .byte (.int (av2 14 i)) = true) ∧ av2 36 wn = mLt ob ∧ av2 34 wn = 1 ∧
  (((mVr ob flo (mLt ob) = none ∨ ∃ F, mVr ob flo (mLt ob) = some F ∧ hurt (mW ob) F ki pt) ∧ r = -4 ∧ iv2 11 = fa + 1 ∧ av2 33 wn = 0 ∧ av2 48 wn = 0 ∧ av2 54 wn = 0) ∨
   (∃ (F : flT) (os : List rwT) (rem : List Int32), mVr ob flo (mLt ob) = some F ∧ ¬ hurt (mW ob) F ki pt ∧ plnF (mW ob) F ki pt c0 wh nu (rowsM av wn M) = (os, rem) ∧ iv2 11 = fa ∧ plM av2 wn os ∧ rmM av2 wn rem ∧ os.length ≤ 100 ∧ rem.length ≤ 100 ∧ F.length ≤ 200 ∧ av2 56 wn = nI F.length ∧ (∀ j, j < F.length → av2 57 (200 * wn + j) = (F.getD j (0, 0)).1) ∧ ((os = [] ∧ rem = [] ∧ r = 6 ∧ av2 33 wn = 0) ∨ (¬ (os = [] ∧ rem = []) ∧ r = 1 ∧ av2 33 wn = av 33 wn))))
set_option maxRecDepth 100000 in
set_option maxHeartbeats 4000000 in
theorem lp_mste {p : Program} {l : Launch} {e : Env} {s : State} {m : MethodId} {args : Array Value} {below : List Frame} {meth : Method} {c : Code} {Z : zT} {A : Nat → Prop} {h : Nat} {ad : Nat → Nat} {iv : ivT} {av : avT} {wn : Nat} {ob : List obT} {flo ki pt : Int32} {c0 : Nat} {wh nu : Int32} {M : Nat} {fa : Int32} {iv3 : ivT} {av3 : avT} {F : flT} {os : List rwT} {rem : List Int32} (C : cx p s m args meth c cX11_start 4 (some .int) RX11 "start") (hwn : wn < 4) (hs : sI [11, 15, 16, 17, 18, 19, 20, 26, 30] iv iv3) (ha : sA [14, 21, 22, 23, 24, 25, 27, 28, 29, 31, 32, 33, 34, 36, 45, 46, 47, 48, 49, 50, 51, 54, 55, 56, 57, 58] av av3) (ho : oth [14, 21, 22, 23, 24, 25, 27, 28, 29, 31, 32, 58] wn av av3) (hf : ∀ i, fits .byte (.int (av3 14 i)) = true) (h36 : av3 36 wn = mLt ob) (h34 : av3 34 wn = 1) (h33 : av3 33 = av 33) (h11 : iv3 11 = fa) (hvr : mVr ob flo (mLt ob) = some F) (hnh : ¬ hurt (mW ob) F ki pt) (hpn : plnF (mW ob) F ki pt c0 wh nu (rowsM av wn M) = (os, rem)) (hpl : plM av3 wn os) (hrm : rmM av3 wn rem) (b1 : os.length ≤ 100) (b2 : rem.length ≤ 100) (b3 : F.length ≤ 200) (h56 : av3 56 wn = nI F.length) (h57 : ∀ j, j < F.length → av3 57 (200 * wn + j) = (F.getD j (0, 0)).1) : ∀ (H : Heap) (locs : List Loc) (ls : Array Slot), wd Z A s (mdW Z h ad iv3 av3) H locs → lv_has ls 4 [(0, .ref h), (1, .int (nI wn))] → W p l e ({ frames := 7, cells := 0, slots := 0, locals := 230 }) s m args below meth c H locs 0 0 (MQ below (va_Qi (stP Z h ad iv av wn ob flo ki pt c0 wh nu M fa) (mB Z A) A) args s 0 0 A) (F0 m 173 ls []) := by
  have hx := C.1
  have hb := C.2.1
  have hown := C.2.2.2.2.2.1
  have hts := C.2.2.2.2.2.2.1
  intro H locs ls G hl
  refine lv_aload_n hx hb dX11_start_173 rfl (lv_at hl 0 rfl) ?_
  refine k_mga C G 48 (by decide) mr_48 fl_X11_111 rfl dX11_start_174 ?_
  refine lv_iload_n hx hb dX11_start_177 rfl (lv_at hl 1 rfl) ?_
  refine k_mil (v := nI os.length) (i := wn) C G 30 (k := 48) (n := 4) mp_48 (by decide) (by omega) hpl.1 dX11_start_178 ?_
  refine lv_if_gt (tgt := 191) hx hb dX11_start_179 (by decide) (fun c_179 => ?_) (fun c_179 => ?_)
  · have n_179 := nb_lt (a := 0) (b := os.length) c_179 (by omega) (by omega)
    refine lv_iconst (v := 1) hx hb dX11_start_191 (by decide) ?_
    exact kr_i C G ⟨_, _, rfl, hs, ha, ho, hf, h36, h34, Or.inr ⟨F, os, rem, hvr, hnh, hpn, h11, hpl, hrm, b1, b2, b3, h56, h57, Or.inr ⟨fun z => by rw [z.1] at n_179; exact absurd n_179 (by decide), rfl, by rw [h33]⟩⟩⟩ (Nat.le_of_ble_eq_true rfl) (Nat.le_of_ble_eq_true rfl) dX11_start_192
  · have n_179 := nb_nlt (a := 0) (b := os.length) c_179 (by omega) (by omega)
    refine lv_aload_n hx hb dX11_start_182 rfl (lv_at hl 0 rfl) ?_
    refine k_mga C G 54 (by decide) mr_54 fl_X11_129 rfl dX11_start_183 ?_
    refine lv_iload_n hx hb dX11_start_186 rfl (lv_at hl 1 rfl) ?_
    refine k_mil (v := nI rem.length) (i := wn) C G 36 (k := 54) (n := 4) mp_54 (by decide) (by omega) hrm.1 dX11_start_187 ?_
    refine lv_if_le (tgt := 193) hx hb dX11_start_188 (by decide) (fun c_188 => ?_) (fun c_188 => ?_)
    · have n_188 := nb_le (a := rem.length) (b := 0) c_188 (by omega) (by omega)
      refine lv_aload_n hx hb dX11_start_193 rfl (lv_at hl 0 rfl) ?_
      refine k_mga C G 33 (by decide) mr_33 fl_X11_65 rfl dX11_start_194 ?_
      refine lv_iload_n hx hb dX11_start_197 rfl (lv_at hl 1 rfl) ?_
      refine lv_iconst (v := 0) hx hb dX11_start_198 (by decide) ?_
      refine k_mzs (x := 0) (i := wn) C G 15 (k := 33) (n := 4) mp_33 (by decide) (by omega) (by decide) dX11_start_199 (fun H locs (G : wd Z A s (mdW Z h ad iv3 (ua av3 33 (upd (av3 33) wn 0))) H locs) => ?_)
      refine lv_bipush (v := 6) hx hb dX11_start_200 (by decide) ?_
      have ho0 : os = [] := List.eq_nil_of_length_eq_zero (by omega)
      have hr0 : rem = [] := List.eq_nil_of_length_eq_zero (by omega)
      exact kr_i C G ⟨_, _, rfl, hs, ha.up (by decide) _, ho.up 33 _ rfl (by simp only [oz]; omega), hf, h36, h34, Or.inr ⟨F, os, rem, hvr, hnh, hpn, h11, plG_cong hpl (Nat.le_refl _) (fun _ _ => rfl) rfl rfl rfl rfl, rmM_same hrm rfl rfl, b1, b2, b3, h56, h57, Or.inl ⟨ho0, hr0, rfl, pk_us⟩⟩⟩ (Nat.le_of_ble_eq_true rfl) (Nat.le_of_ble_eq_true rfl) dX11_start_202
    · have n_188 := nb_nle (a := rem.length) (b := 0) c_188 (by omega) (by omega)
      refine lv_iconst (v := 1) hx hb dX11_start_191 (by decide) ?_
      exact kr_i C G ⟨_, _, rfl, hs, ha, ho, hf, h36, h34, Or.inr ⟨F, os, rem, hvr, hnh, hpn, h11, hpl, hrm, b1, b2, b3, h56, h57, Or.inr ⟨fun z => by rw [z.2] at n_188; exact absurd n_188 (by decide), rfl, by rw [h33]⟩⟩⟩ (Nat.le_of_ble_eq_true rfl) (Nat.le_of_ble_eq_true rfl) dX11_start_192
theorem oth.mo {L M : List Nat} {wn : Nat} {a b : avT} (h : oth M wn a b) (hs : ∀ j ∈ M, j ∈ L) : oth L wn a b := oth.rf.tr h hs
set_option maxRecDepth 100000 in
set_option maxHeartbeats 4000000 in
theorem c_X11_start (Z : zT) (l : Launch) (h : Nat) (ad : Nat → Nat) (iv : ivT) (av : avT) (wn : Nat) (ob : List obT) (flo ki pt : Int32) (c0 : Nat) (wh nu : Int32) (M : Nat) (fa : Int32) (hwn : wn < 4) (ho : mo_ok iv av ob) (hin : mo_in ob) (h13 : iv 13 = flo) (hflo : ¬ flo < 0) (h11 : iv 11 = fa) (hf14 : ∀ i, fits .byte (.int (av 14 i)) = true) (h35 : av 35 wn = ki) (h41 : av 41 wn = pt) (h43 : av 43 wn = wh) (h44 : av 44 wn = nu) (h47 : av 47 wn = nI M) (h48 : av 48 wn = 0) (h54 : av 54 wn = 0) (hk0 : ki = 0 → M ≤ 96 ∧ ∀ p, p < 8 → (gp (rowsM av wn M) (nI p)).length ≤ 48) (hM0 : ¬ ki = 0 → M = 0) (hk1 : ki = 1 → c0 < 3 ∧ av 42 wn = nI c0) : Ki Z l yX11_start cX11_start 4 (some .int) ({ frames := 7, cells := 0, slots := 0, locals := 230 }) [.ref h, .int (nI wn)] (mdW Z h ad iv av) (fun r u => stP Z h ad iv av wn ob flo ki pt c0 wh nu M fa r u) := by
  intro sz
  refine Met.ofK (cc := cX11_start) (maxL := 4) (ret := (some .int)) (by decide) (Nat.le_of_ble_eq_true rfl) ?_
  intro p e s m below meth c ls C G hl
  generalize va_A _ sz = A at G ⊢
  have hx := C.1
  have hb := C.2.1
  have hown := C.2.2.2.2.2.1
  have hts := C.2.2.2.2.2.2.1
  refine lv_aload_n hx hb dX11_start_0 rfl (lv_at hl 0 rfl) ?_
  refine k_mga C G 36 (by decide) mr_36 fl_X11_74 rfl dX11_start_1 ?_
  refine lv_iload_n hx hb dX11_start_4 rfl (lv_at hl 1 rfl) ?_
  refine lv_aload_n hx hb dX11_start_5 rfl (lv_at hl 0 rfl) ?_
  refine kcM_i G (krV 0 rfl (As := []) (rest := [.int (nI wn), .ref (ad 36)]) (ci := 12) (CC := RX11) (T := TX11) (N := 61) C G pmN (c_X11_latest Z l h ad iv av ob ho _) (gdV ml_X11_251 im_X11_latest se_X11_latest ii_X11 co_X11_latest) (by decide +kernel) ⟨Nat.le_of_ble_eq_true rfl, Nat.le_of_ble_eq_true rfl⟩ rfl 0 rfl hl rfl (Nat.le_of_ble_eq_true rfl) ⟨Nat.le_of_ble_eq_true rfl, Nat.le_of_ble_eq_true rfl⟩ dX11_start_6) (fun r_6 u H locs hu G => ?_)
  obtain ⟨r_6_e, rfl⟩ := hu
  subst r_6_e
  refine k_mis (x := mLt ob) (i := wn) C G 18 (k := 36) (n := 4) mp_36 (by decide) (by omega) dX11_start_9 (fun H locs (G : wd Z A s (mdW Z h ad iv (ua av 36 (upd (av 36) wn (mLt ob)))) H locs) => ?_)
  refine lv_aload_n hx hb dX11_start_10 rfl (lv_at hl 0 rfl) ?_
  refine k_mga C G 34 (by decide) mr_34 fl_X11_68 rfl dX11_start_11 ?_
  refine lv_iload_n hx hb dX11_start_14 rfl (lv_at hl 1 rfl) ?_
  refine lv_iconst (v := 1) hx hb dX11_start_15 (by decide) ?_
  refine k_mzs (x := 1) (i := wn) C G 16 (k := 34) (n := 4) mp_34 (by decide) (by omega) (by decide) dX11_start_16 (fun H locs (G : wd Z A s (mdW Z h ad iv (ua (ua av 36 (upd (av 36) wn (mLt ob))) 34 (upd (av 34) wn 1))) H locs) => ?_)
  refine lv_aload_n hx hb dX11_start_17 rfl (lv_at hl 0 rfl) ?_
  refine lv_aload_n hx hb dX11_start_18 rfl (lv_at hl 0 rfl) ?_
  refine k_mga C G 36 (by decide) mr_36 fl_X11_74 rfl dX11_start_19 ?_
  refine lv_iload_n hx hb dX11_start_22 rfl (lv_at hl 1 rfl) ?_
  refine k_mil (v := mLt ob) (i := wn) C G 18 (k := 36) (n := 4) mp_36 (by decide) (by omega) pk_us dX11_start_23 ?_
  refine kcM_i G (krV 1 rfl (As := [.int (mLt ob)]) (rest := []) (ci := 12) (CC := RX11) (T := TX11) (N := 61) C G pmN (c_X11_reads Z l h ad iv (ua (ua av 36 (upd (av 36) wn (mLt ob))) 34 (upd (av 34) wn 1)) ob flo (mLt ob) (ho.same (L := []) (M := [34, 36]) sI.rf (((sA.rf (L := [34, 36])).up (k := 36) (by decide) _).up (k := 34) (by decide) _) (by decide) (by decide) (by decide) (by decide) (by decide) (by decide)) hin h13 hflo _) (gdV ml_X11_280 im_X11_reads se_X11_reads ii_X11 co_X11_reads) (by decide +kernel) ⟨Nat.le_of_ble_eq_true rfl, Nat.le_of_ble_eq_true rfl⟩ rfl 0 rfl hl rfl (Nat.le_of_ble_eq_true rfl) ⟨Nat.le_of_ble_eq_true rfl, Nat.le_of_ble_eq_true rfl⟩ dX11_start_24) (fun r_24 u H locs hu G => ?_)
  obtain ⟨iv1_, av1_, rfl, hs1, ha1, hcs1⟩ := hu
  have hA1 : sA [27, 28, 29, 31, 32, 34, 36] av av1_ := ((((sA.rf (L := [34, 36])).up (k := 36) (by decide) _).up (k := 34) (by decide) _).mo (by decide)).tr ha1 (by decide)
  have hO1 : oth [27, 28, 29, 31, 32] wn av av1_ := ((oth.rf.up 36 (mLt ob) rfl (by simp only [oz]; omega)).up 34 1 rfl (by simp only [oz]; omega)).tr (oth.of ha1) (by decide)
  have h36_1 : av1_ 36 wn = mLt ob := (congrFun (ha1 36 (by decide)) wn).trans pk_us
  have h34_1 : av1_ 34 wn = 1 := (congrFun (ha1 34 (by decide)) wn).trans pk_us
  have h11_1 : iv1_ 11 = fa := (hs1 11 (by decide)).trans h11
  have hf14_1 : ∀ i, fits .byte (.int (av1_ 14 i)) = true := by rw [hA1 14 (by decide)]; exact hf14
  rcases hcs1 with ⟨r_24_e, F, hvr, hF⟩ | ⟨r_24_e, hvr⟩
  · subst r_24_e
    have hfl := hF.2.2.1
    refine lv_if_ne (tgt := 37) hx hb dX11_start_27 (by decide) (fun c_27 => ?_) (fun c_27 => ?_)
    · have n_27 := nb_ne (a := 1) (b := 0) c_27 (by omega) (by omega)
      refine lv_aload_n hx hb dX11_start_37 rfl (lv_at hl 0 rfl) ?_
      refine k_mga C G 56 (by decide) mr_56 fl_X11_135 rfl dX11_start_38 ?_
      refine lv_iload_n hx hb dX11_start_41 rfl (lv_at hl 1 rfl) ?_
      refine lv_aload_n hx hb dX11_start_42 rfl (lv_at hl 0 rfl) ?_
      refine k_mgi (v := nI F.length) C G 30 (by decide) mr_30 hF.1 fl_X11_245 rfl dX11_start_43 ?_
      refine k_mis (x := nI F.length) (i := wn) C G 38 (k := 56) (n := 4) mp_56 (by decide) (by omega) dX11_start_46 (fun H locs (G : wd Z A s (mdW Z h ad iv1_ (ua av1_ 56 (upd (av1_ 56) wn (nI F.length)))) H locs) => ?_)
      refine lv_iconst (v := 0) hx hb dX11_start_47 (by decide) ?_
      refine k_topi (y := nI 0) (by rfl) ?_
      refine lv_istore_n (lv' := [(2, .int (nI 0)), (0, .ref h), (1, .int (nI wn))]) hx hb dX11_start_48 rfl hl (by decide) rfl (fun ls hl => ?_)
      refine lv_iconst (v := 0) hx hb dX11_start_49 (by decide) ?_
      refine k_topi (y := nI 0) (by rfl) ?_
      refine lv_istore_n (lv' := [(3, .int (nI 0)), (2, .int (nI 0)), (0, .ref h), (1, .int (nI wn))]) hx hb dX11_start_50 rfl hl (by decide) rfl (fun ls hl => ?_)
      have hA2 : sA [27, 28, 29, 31, 32, 34, 36, 56] av (ua av1_ 56 (upd (av1_ 56) wn (nI F.length))) := (hA1.mo (by decide)).up (by decide) _
      have hO2 : oth [27, 28, 29, 31, 32] wn av (ua av1_ 56 (upd (av1_ 56) wn (nI F.length))) := hO1.up 56 _ rfl (by simp only [oz]; omega)
      have hok2 : mo_ok iv1_ (ua av1_ 56 (upd (av1_ 56) wn (nI F.length))) ob := ho.same hs1 hA2 (by decide) (by decide) (by decide) (by decide) (by decide) (by decide)
      have hF2 : flS iv1_ (ua av1_ 56 (upd (av1_ 56) wn (nI F.length))) F := ⟨hF.1, hF.2⟩
      refine lp_mst (iv0 := iv1_) (av0 := (ua av1_ 56 (upd (av1_ 56) wn (nI F.length)))) (ob := ob) (F := F) (ki := ki) (pt := pt) (fa := fa) C hwn hok2 hF2 h11_1 (by rw [hA2 35 (by decide)]; exact h35) (by rw [hA2 41 (by decide)]; exact h41) (fun iv3 av3 a1 a2 a3 a4 a5 => ⟨_, _, rfl, (((hs1.mo (by decide)).tr a1 (by decide)).up (by decide) _), (((hA2.mo (by decide)).tr a2 (by decide)).up (by decide) _), ((oth.mo hO2 (by decide)).tr a3 (by decide)).up 33 _ rfl (by simp only [oz]; omega), a4, by show av3 36 wn = _; rw [a2 36 (by decide)]; exact h36_1, by show av3 34 wn = _; rw [a2 34 (by decide)]; exact h34_1, Or.inl ⟨Or.inr ⟨F, hvr, a5⟩, rfl, pk_us, pk_us, by show av3 48 wn = _; rw [a2 48 (by decide), hA2 48 (by decide)]; exact h48, by show av3 54 wn = _; rw [a2 54 (by decide), hA2 54 (by decide)]; exact h54⟩⟩) (fun ct iv3 av3 a1 a2 a3 a4 a5 a6 a7 H locs ls G hl => ?_) F.length 0 0 iv1_ _ (by omega) sI.rf sA.rf oth.rf hf14_1 (fun j hj => absurd hj (by omega)) (by split <;> rfl) (fun _ q hq => by rw [List.take_zero] at hq; cases hq) _ _ _ G (lv_sub hl [0, 1, 2, 3] rfl)
      rw [List.take_length] at a6
      simp only [List.take_length] at a7
      have hS3 : sI [15, 16, 17, 18, 19, 20, 26, 30] iv iv3 := (hs1.mo (by decide)).tr a1 (by decide)
      have hA3 : sA [14, 21, 22, 23, 24, 25, 27, 28, 29, 31, 32, 34, 36, 56, 57] av av3 := (hA2.mo (by decide)).tr a2 (by decide)
      have hO3 : oth [14, 21, 22, 23, 24, 25, 27, 28, 29, 31, 32, 58] wn av av3 := (oth.mo hO2 (by decide)).tr a3 (by decide)
      have hok3 : mo_ok iv3 av3 ob := hok2.same a1 a2 (by decide) (by decide) (by decide) (by decide) (by decide) (by decide)
      have hF3 : flS iv3 av3 F := ⟨by rw [a1 30 (by decide)]; exact hF.1, by rw [a2 31 (by decide), a2 32 (by decide)]; exact hF.2⟩
      have h35_3 : av3 35 wn = ki := by rw [hA3 35 (by decide)]; exact h35
      have h41_3 : av3 41 wn = pt := by rw [hA3 41 (by decide)]; exact h41
      have h43_3 : av3 43 wn = wh := by rw [hA3 43 (by decide)]; exact h43
      have h44_3 : av3 44 wn = nu := by rw [hA3 44 (by decide)]; exact h44
      have h47_3 : av3 47 wn = nI M := by rw [hA3 47 (by decide)]; exact h47
      have h48_3 : av3 48 wn = 0 := by rw [hA3 48 (by decide)]; exact h48
      have h54_3 : av3 54 wn = 0 := by rw [hA3 54 (by decide)]; exact h54
      have h36_3 : av3 36 wn = mLt ob := by rw [a2 36 (by decide)]; exact h36_1
      have h34_3 : av3 34 wn = 1 := by rw [a2 34 (by decide)]; exact h34_1
      have h56_3 : av3 56 wn = nI F.length := by rw [a2 56 (by decide)]; exact pk_us
      have h11_3 : iv3 11 = fa := (a1 11 (by decide)).trans h11_1
      have hrs3 : ∀ k, rowsM av3 wn k = rowsM av wn k := fun k => rowsM_cong (hA3 45 (by decide)) (hA3 46 (by decide))
      have h57_3 : ∀ j, j < F.length → av3 57 (200 * wn + j) = (F.getD j (0, 0)).1 := fun j hj => (a5 j hj).trans (hF.2.1 j hj).1
      have hnh : ¬ hurt (mW ob) F ki pt := fun z => by
        obtain ⟨z1, q, z2, z3, z4⟩ := z
        exact a7 z1 q z2 z3 z4
      refine lv_aload_n hx hb dX11_start_128 rfl (lv_at hl 1 rfl) ?_
      refine k_mga C G 35 (by decide) mr_35 fl_X11_71 rfl dX11_start_129 ?_
      refine lv_iload_n hx hb dX11_start_132 rfl (lv_at hl 2 rfl) ?_
      refine k_mil (v := ki) (i := wn) C G 17 (k := 35) (n := 4) mp_35 (by decide) (by omega) h35_3 dX11_start_133 ?_
      refine lv_if_ne (tgt := 145) hx hb dX11_start_134 (by decide) (fun c_134 => ?_) (fun c_134 => ?_)
      · have hrdF := a7 c_134
        have hcp := mW_count hF.2.2.2.1 hok3.2.1 hrdF
        refine lv_aload_n hx hb dX11_start_145 rfl (lv_at hl 1 rfl) ?_
        refine k_mga C G 35 (by decide) mr_35 fl_X11_71 rfl dX11_start_146 ?_
        refine lv_iload_n hx hb dX11_start_149 rfl (lv_at hl 2 rfl) ?_
        refine k_mil (v := ki) (i := wn) C G 17 (k := 35) (n := 4) mp_35 (by decide) (by omega) h35_3 dX11_start_150 ?_
        refine lv_iconst (v := 1) hx hb dX11_start_151 (by decide) ?_
        refine lv_icmp_ne (tgt := 163) hx hb dX11_start_152 (by decide) (fun c_152 => ?_) (fun c_152 => ?_)
        · have hct2 : ct = F.countP (fun q => decide (q.2 = pt)) := by rw [if_neg c_134] at a6; exact a6
          refine lv_iload_n hx hb dX11_start_163 rfl (lv_at hl 0 rfl) ?_
          refine lv_iconst (v := 1) hx hb dX11_start_164 (by decide) ?_
          refine lv_icmp_le (tgt := 173) hx hb dX11_start_165 (by decide) (fun c_165 => ?_) (fun c_165 => ?_)
          · have n_165 := nb_le (a := ct) (b := 1) c_165 (by omega) (by omega)
            exact lp_mste (iv := iv) (av := av) (ob := ob) (flo := flo) (os := []) (rem := []) C hwn (hS3.mo (by decide)) (hA3.mo (by decide)) hO3 a4 h36_3 h34_3 (hA3 33 (by decide)) h11_3 hvr hnh (by unfold plnF; rw [if_neg c_134, if_neg c_152, if_pos (by rw [← hct2]; exact n_165)]) (plG_0 h48_3) (rmM_0 h54_3) (Nat.zero_le _) (Nat.zero_le _) hfl h56_3 h57_3 _ _ _ G (lv_sub hl [1, 2] rfl)
          · have n_165 := nb_nle (a := ct) (b := 1) c_165 (by omega) (by omega)
            refine lv_aload_n hx hb dX11_start_168 rfl (lv_at hl 1 rfl) ?_
            refine lv_iload_n hx hb dX11_start_169 rfl (lv_at hl 2 rfl) ?_
            refine kcM_v G (krV 1 rfl (As := [.int (nI wn)]) (rest := []) (ci := 12) (CC := RX11) (T := TX11) (N := 61) C G pmN (c_X11_startsCompact Z l h ad iv3 av3 wn ob F pt hwn hok3 hF3 h41_3 hrdF a4 (by rw [h47_3, hM0 c_134]; rfl) h48_3 h54_3 hcp _) (gdV ml_X11_295 im_X11_startsCompact se_X11_startsCompact ii_X11 co_X11_startsCompact) (by decide +kernel) ⟨Nat.le_of_ble_eq_true rfl, Nat.le_of_ble_eq_true rfl⟩ rfl 0 rfl hl rfl (Nat.le_of_ble_eq_true rfl) ⟨Nat.le_of_ble_eq_true rfl, Nat.le_of_ble_eq_true rfl⟩ dX11_start_170) (fun u H locs hu G => ?_)
            obtain ⟨iv4, av4, R0, rem, rfl, d0, d1, d2, d3, d4, d5, d6, d7, d8⟩ := hu
            exact lp_mste (iv := iv) (av := av) (ob := ob) (flo := flo) (os := ch48 pt R0 ((R0.length + 47) / 48)) (rem := rem) C hwn ((hS3.mo (by decide)).tr d0 (by decide)) ((hA3.mo (by decide)).tr d1 (by decide)) (hO3.tr d2 (by decide)) d3 (by rw [d1 36 (by decide)]; exact h36_3) (by rw [d1 34 (by decide)]; exact h34_3) ((d1 33 (by decide)).trans (hA3 33 (by decide))) ((d0 11 (by decide)).trans h11_3) hvr hnh (by unfold plnF; rw [if_neg c_134, if_neg c_152, if_neg (by rw [← hct2]; omega), d8]) d4 d5 (by rw [ch48_len]; omega) d7 hfl (by rw [d1 56 (by decide)]; exact h56_3) (fun j hj => by rw [d1 57 (by decide)]; exact h57_3 j hj) _ _ _ G (lv_sub hl [1, 2] rfl)
        · refine lv_aload_n hx hb dX11_start_155 rfl (lv_at hl 1 rfl) ?_
          refine lv_iload_n hx hb dX11_start_156 rfl (lv_at hl 2 rfl) ?_
          refine kcM_v G (krV 1 rfl (As := [.int (nI wn)]) (rest := []) (ci := 12) (CC := RX11) (T := TX11) (N := 61) C G pmN (c_X11_startsDelete Z l h ad iv3 av3 wn ob F c0 pt wh nu hwn hok3 hF3 (hk1 c_152).1 h41_3 (by rw [a2 42 (by decide), hA2 42 (by decide)]; exact (hk1 c_152).2) h43_3 h44_3 hrdF a4 (by rw [h47_3, hM0 c_134]; rfl) h48_3 h54_3 hcp _) (gdV ml_X11_292 im_X11_startsDelete se_X11_startsDelete ii_X11 co_X11_startsDelete) (by decide +kernel) ⟨Nat.le_of_ble_eq_true rfl, Nat.le_of_ble_eq_true rfl⟩ rfl 0 rfl hl rfl (Nat.le_of_ble_eq_true rfl) ⟨Nat.le_of_ble_eq_true rfl, Nat.le_of_ble_eq_true rfl⟩ dX11_start_157) (fun u H locs hu G => ?_)
          obtain ⟨iv4, av4, os, rem, rfl, d0, d1, d2, d3, d4, d5, d6, d7, d8⟩ := hu
          refine lv_goto (tgt := 173) hx hb dX11_start_160 (by decide) ?_
          exact lp_mste (iv := iv) (av := av) (ob := ob) (flo := flo) (os := os) (rem := rem) C hwn ((hS3.mo (by decide)).tr d0 (by decide)) ((hA3.mo (by decide)).tr d1 (by decide)) (hO3.tr d2 (by decide)) d3 (by rw [d1 36 (by decide)]; exact h36_3) (by rw [d1 34 (by decide)]; exact h34_3) ((d1 33 (by decide)).trans (hA3 33 (by decide))) ((d0 11 (by decide)).trans h11_3) hvr hnh (by unfold plnF; rw [if_neg c_134, if_pos c_152]; exact d8) d4 d5 d6 d7 hfl (by rw [d1 56 (by decide)]; exact h56_3) (fun j hj => by rw [d1 57 (by decide)]; exact h57_3 j hj) _ _ _ G (lv_sub hl [1, 2] rfl)
      · refine lv_aload_n hx hb dX11_start_137 rfl (lv_at hl 1 rfl) ?_
        refine lv_iload_n hx hb dX11_start_138 rfl (lv_at hl 2 rfl) ?_
        refine kcM_v G (krV 1 rfl (As := [.int (nI wn)]) (rest := []) (ci := 12) (CC := RX11) (T := TX11) (N := 61) C G pmN (c_X11_startsAppend Z l h ad iv3 av3 wn M hwn h47_3 h48_3 (hk0 c_134).1 (by rw [hrs3]; exact (hk0 c_134).2) _) (gdV ml_X11_289 im_X11_startsAppend se_X11_startsAppend ii_X11 co_X11_startsAppend) (by decide +kernel) ⟨Nat.le_of_ble_eq_true rfl, Nat.le_of_ble_eq_true rfl⟩ rfl 0 rfl hl rfl (Nat.le_of_ble_eq_true rfl) ⟨Nat.le_of_ble_eq_true rfl, Nat.le_of_ble_eq_true rfl⟩ dX11_start_139) (fun u H locs hu G => ?_)
        obtain ⟨av4, rfl, d1, d2, d3⟩ := hu
        refine lv_goto (tgt := 173) hx hb dX11_start_142 (by decide) ?_
        exact lp_mste (iv := iv) (av := av) (ob := ob) (flo := flo) (os := apO (rowsM av wn M) 8) (rem := []) C hwn (hS3.mo (by decide)) ((hA3.mo (by decide)).tr d1 (by decide)) (hO3.tr d2 (by decide)) (by rw [d1 14 (by decide)]; exact a4) (by rw [d1 36 (by decide)]; exact h36_3) (by rw [d1 34 (by decide)]; exact h34_3) ((d1 33 (by decide)).trans (hA3 33 (by decide))) h11_3 hvr hnh (by unfold plnF; rw [if_pos c_134]) (by rw [← hrs3]; exact d3) (rmM_0 (by rw [d1 54 (by decide)]; exact h54_3)) (by have h9 := apO_le (rowsM av wn M) 8; omega) (Nat.zero_le _) hfl (by rw [d1 56 (by decide)]; exact h56_3) (fun j hj => by rw [d1 57 (by decide)]; exact h57_3 j hj) _ _ _ G (lv_sub hl [1, 2] rfl)
    · exact absurd c_27 (by decide)
  · subst r_24_e
    refine lv_if_ne (tgt := 37) hx hb dX11_start_27 (by decide) (fun c_27 => ?_) (fun c_27 => ?_)
    · exact absurd c_27 (by decide)
    · have n_27 := nb_eq (a := 0) (b := 0) c_27 (by omega) (by omega)
      refine lv_aload_n hx hb dX11_start_30 rfl (lv_at hl 0 rfl) ?_
      refine lv_iload_n hx hb dX11_start_31 rfl (lv_at hl 1 rfl) ?_
      refine lv_iconst (v := 4) hx hb dX11_start_32 (by decide) ?_
      refine kcM_i G (krV 2 rfl (As := [.int (nI wn), .int 4]) (rest := []) (ci := 12) (CC := RX11) (T := TX11) (N := 61) C G pmN (c_X11_fails Z l h ad iv1_ av1_ wn 4 fa hwn h11_1 _) (gdV ml_X11_283 im_X11_fails se_X11_fails ii_X11 co_X11_fails) (by decide +kernel) ⟨Nat.le_of_ble_eq_true rfl, Nat.le_of_ble_eq_true rfl⟩ rfl 0 rfl hl rfl (Nat.le_of_ble_eq_true rfl) ⟨Nat.le_of_ble_eq_true rfl, Nat.le_of_ble_eq_true rfl⟩ dX11_start_33) (fun r_33 u H locs hu G => ?_)
      obtain ⟨rfl, rfl⟩ := hu
      exact kr_i C G ⟨_, _, rfl, ((hs1.mo (by decide)).up (by decide) _), ((hA1.mo (by decide)).up (by decide) _), (oth.mo hO1 (by decide)).up 33 _ rfl (by simp only [oz]; omega), hf14_1, h36_1, h34_1, Or.inl ⟨Or.inl hvr, rfl, pk_us, pk_us, (congrFun (hA1 48 (by decide)) wn).trans h48, (congrFun (hA1 54 (by decide)) wn).trans h54⟩⟩ (Nat.le_of_ble_eq_true rfl) (Nat.le_of_ble_eq_true rfl) dX11_start_36
