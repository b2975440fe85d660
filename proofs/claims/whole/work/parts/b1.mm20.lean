/-! MODEL (X11): writer, count, makeCheckpoint, files, file. -/
def wrM (aw ba wo ve : Int32) (ad0 pu re : Int32) (y : Int32) : Int32 := if y = 0 then (if aw = 0 then 0 else 1) else if y = 1 then ba else if y = 2 then wo else if y = 3 then pu else if y = 4 then ad0 - pu else if y = 5 then re else if y = 6 then ve else -1
set_option maxRecDepth 100000 in
set_option maxHeartbeats 4000000 in
theorem c_writerInM (Z : zT) (l : Launch) (h : Nat) (ad : Nat → Nat) (iv : ivT) (av : avT) (wn : Nat) (y aw ba wo ve ad0 pu re : Int32) (hwn : wn < 4) (h33 : av 33 wn = aw) (h36 : av 36 wn = ba) (h37 : av 37 wn = wo) (h39 : av 39 wn = ve) (h48 : av 48 wn = ad0) (h53 : av 53 wn = pu) (h54 : av 54 wn = re) : Ki Z l yX11_writer cX11_writer 3 (some .int) ({ frames := 1, cells := 0, slots := 0, locals := 30 }) [.ref h, .int (nI wn), .int y] (mdW Z h ad iv av) (fun r u => r = wrM aw ba wo ve ad0 pu re y ∧ u = mdW Z h ad iv av) := by
  intro sz
  refine Met.ofK (cc := cX11_writer) (maxL := 3) (ret := (some .int)) (by decide) (Nat.le_of_ble_eq_true rfl) ?_
  intro p e s m below meth c ls C G hl
  generalize va_A _ sz = A at G ⊢
  have hx := C.1
  have hb := C.2.1
  have hown := C.2.2.2.2.2.1
  have hts := C.2.2.2.2.2.2.1
  refine lv_iload_n hx hb dX11_writer_0 rfl (lv_at hl 1 rfl) ?_
  refine kcM_i G (krS 1 rfl (As := [.int (nI wn)]) (rest := []) C G pmN (c_X11_isWriter Z l h ad iv av (nI wn) _) (gdS ml_X11_266 sm_X11_isWriter ii_X11 co_X11_isWriter) (by decide +kernel) ⟨Nat.le_of_ble_eq_true rfl, Nat.le_of_ble_eq_true rfl⟩ hl rfl (Nat.le_of_ble_eq_true rfl) ⟨Nat.le_of_ble_eq_true rfl, Nat.le_of_ble_eq_true rfl⟩ dX11_writer_1) (fun r_1 u H locs hu G => ?_)
  obtain ⟨r_1_e, rfl⟩ := hu
  rw [isW_n hwn] at r_1_e
  subst r_1_e
  refine lv_if_ne (tgt := 9) hx hb dX11_writer_4 (by decide) (fun c_4 => ?_) (fun c_4 => ?_)
  · have n_4 := nb_ne (a := 1) (b := 0) c_4 (by omega) (by omega)
    refine lv_iload_n hx hb dX11_writer_9 rfl (lv_at hl 2 rfl) ?_
    by_cases t_0 : y = 0
    · subst t_0
      refine lv_tableIn (tgt := 52) hx hb dX11_writer_10 (by decide) (by decide) rfl (by decide) ?_
      refine lv_aload_n hx hb dX11_writer_52 rfl (lv_at hl 0 rfl) ?_
      refine k_mga C G 33 (by decide) mr_33 fl_X11_65 rfl dX11_writer_53 ?_
      refine lv_iload_n hx hb dX11_writer_56 rfl (lv_at hl 1 rfl) ?_
      refine k_mzl (v := aw) (i := wn) C G 15 (k := 33) (n := 4) mp_33 (by decide) (by omega) h33 dX11_writer_57 ?_
      refine lv_if_eq (tgt := 65) hx hb dX11_writer_58 (by decide) (fun c_58 => ?_) (fun c_58 => ?_)
      · refine lv_iconst (v := 0) hx hb dX11_writer_65 (by decide) ?_
        exact kr_i C G ⟨by unfold wrM; rw [if_pos rfl, if_pos c_58], rfl⟩ (Nat.le_of_ble_eq_true rfl) (Nat.le_of_ble_eq_true rfl) dX11_writer_66
      · refine lv_iconst (v := 1) hx hb dX11_writer_61 (by decide) ?_
        refine lv_goto (tgt := 66) hx hb dX11_writer_62 (by decide) ?_
        exact kr_i C G ⟨by unfold wrM; rw [if_pos rfl, if_neg c_58], rfl⟩ (Nat.le_of_ble_eq_true rfl) (Nat.le_of_ble_eq_true rfl) dX11_writer_66
    by_cases t_1 : y = 1
    · subst t_1
      refine lv_tableIn (tgt := 67) hx hb dX11_writer_10 (by decide) (by decide) rfl (by decide) ?_
      refine lv_aload_n hx hb dX11_writer_67 rfl (lv_at hl 0 rfl) ?_
      refine k_mga C G 36 (by decide) mr_36 fl_X11_74 rfl dX11_writer_68 ?_
      refine lv_iload_n hx hb dX11_writer_71 rfl (lv_at hl 1 rfl) ?_
      refine k_mil (v := ba) (i := wn) C G 18 (k := 36) (n := 4) mp_36 (by decide) (by omega) h36 dX11_writer_72 ?_
      exact kr_i C G ⟨rfl, rfl⟩ (Nat.le_of_ble_eq_true rfl) (Nat.le_of_ble_eq_true rfl) dX11_writer_73
    by_cases t_2 : y = 2
    · subst t_2
      refine lv_tableIn (tgt := 74) hx hb dX11_writer_10 (by decide) (by decide) rfl (by decide) ?_
      refine lv_aload_n hx hb dX11_writer_74 rfl (lv_at hl 0 rfl) ?_
      refine k_mga C G 37 (by decide) mr_37 fl_X11_77 rfl dX11_writer_75 ?_
      refine lv_iload_n hx hb dX11_writer_78 rfl (lv_at hl 1 rfl) ?_
      refine k_mil (v := wo) (i := wn) C G 19 (k := 37) (n := 4) mp_37 (by decide) (by omega) h37 dX11_writer_79 ?_
      exact kr_i C G ⟨rfl, rfl⟩ (Nat.le_of_ble_eq_true rfl) (Nat.le_of_ble_eq_true rfl) dX11_writer_80
    by_cases t_3 : y = 3
    · subst t_3
      refine lv_tableIn (tgt := 81) hx hb dX11_writer_10 (by decide) (by decide) rfl (by decide) ?_
      refine lv_aload_n hx hb dX11_writer_81 rfl (lv_at hl 0 rfl) ?_
      refine k_mga C G 53 (by decide) mr_53 fl_X11_126 rfl dX11_writer_82 ?_
      refine lv_iload_n hx hb dX11_writer_85 rfl (lv_at hl 1 rfl) ?_
      refine k_mil (v := pu) (i := wn) C G 35 (k := 53) (n := 4) mp_53 (by decide) (by omega) h53 dX11_writer_86 ?_
      exact kr_i C G ⟨rfl, rfl⟩ (Nat.le_of_ble_eq_true rfl) (Nat.le_of_ble_eq_true rfl) dX11_writer_87
    by_cases t_4 : y = 4
    · subst t_4
      refine lv_tableIn (tgt := 88) hx hb dX11_writer_10 (by decide) (by decide) rfl (by decide) ?_
      refine lv_aload_n hx hb dX11_writer_88 rfl (lv_at hl 0 rfl) ?_
      refine k_mga C G 48 (by decide) mr_48 fl_X11_111 rfl dX11_writer_89 ?_
      refine lv_iload_n hx hb dX11_writer_92 rfl (lv_at hl 1 rfl) ?_
      refine k_mil (v := ad0) (i := wn) C G 30 (k := 48) (n := 4) mp_48 (by decide) (by omega) h48 dX11_writer_93 ?_
      refine lv_aload_n hx hb dX11_writer_94 rfl (lv_at hl 0 rfl) ?_
      refine k_mga C G 53 (by decide) mr_53 fl_X11_126 rfl dX11_writer_95 ?_
      refine lv_iload_n hx hb dX11_writer_98 rfl (lv_at hl 1 rfl) ?_
      refine k_mil (v := pu) (i := wn) C G 35 (k := 53) (n := 4) mp_53 (by decide) (by omega) h53 dX11_writer_99 ?_
      refine lv_isub hx hb dX11_writer_100 ?_
      exact kr_i C G ⟨rfl, rfl⟩ (Nat.le_of_ble_eq_true rfl) (Nat.le_of_ble_eq_true rfl) dX11_writer_101
    by_cases t_5 : y = 5
    · subst t_5
      refine lv_tableIn (tgt := 102) hx hb dX11_writer_10 (by decide) (by decide) rfl (by decide) ?_
      refine lv_aload_n hx hb dX11_writer_102 rfl (lv_at hl 0 rfl) ?_
      refine k_mga C G 54 (by decide) mr_54 fl_X11_129 rfl dX11_writer_103 ?_
      refine lv_iload_n hx hb dX11_writer_106 rfl (lv_at hl 1 rfl) ?_
      refine k_mil (v := re) (i := wn) C G 36 (k := 54) (n := 4) mp_54 (by decide) (by omega) h54 dX11_writer_107 ?_
      exact kr_i C G ⟨rfl, rfl⟩ (Nat.le_of_ble_eq_true rfl) (Nat.le_of_ble_eq_true rfl) dX11_writer_108
    by_cases t_6 : y = 6
    · subst t_6
      refine lv_tableIn (tgt := 109) hx hb dX11_writer_10 (by decide) (by decide) rfl (by decide) ?_
      refine lv_aload_n hx hb dX11_writer_109 rfl (lv_at hl 0 rfl) ?_
      refine k_mga C G 39 (by decide) mr_39 fl_X11_83 rfl dX11_writer_110 ?_
      refine lv_iload_n hx hb dX11_writer_113 rfl (lv_at hl 1 rfl) ?_
      refine k_mil (v := ve) (i := wn) C G 21 (k := 39) (n := 4) mp_39 (by decide) (by omega) h39 dX11_writer_114 ?_
      exact kr_i C G ⟨rfl, rfl⟩ (Nat.le_of_ble_eq_true rfl) (Nat.le_of_ble_eq_true rfl) dX11_writer_115
    refine lv_tableOut (tgt := 116) hx hb dX11_writer_10 (tsw6 t_0 t_1 t_2 t_3 t_4 t_5 t_6) (by decide) ?_
    refine lv_iconst (v := (-1)) hx hb dX11_writer_116 (by decide) ?_
    exact kr_i C G ⟨by unfold wrM; rw [if_neg t_0, if_neg t_1, if_neg t_2, if_neg t_3, if_neg t_4, if_neg t_5, if_neg t_6], rfl⟩ (Nat.le_of_ble_eq_true rfl) (Nat.le_of_ble_eq_true rfl) dX11_writer_117
  · exact absurd c_4 (by decide)
set_option maxRecDepth 100000 in
set_option maxHeartbeats 4000000 in
theorem c_writerOutM (Z : zT) (l : Launch) (h : Nat) (ad : Nat → Nat) (iv : ivT) (av : avT) (x : Int32) (y : Int32) (hx4 : ¬ (0 ≤ x ∧ x < 4)) : Ki Z l yX11_writer cX11_writer 3 (some .int) ({ frames := 1, cells := 0, slots := 0, locals := 30 }) [.ref h, .int x, .int y] (mdW Z h ad iv av) (fun r u => r = -1 ∧ u = mdW Z h ad iv av) := by
  intro sz
  refine Met.ofK (cc := cX11_writer) (maxL := 3) (ret := (some .int)) (by decide) (Nat.le_of_ble_eq_true rfl) ?_
  intro p e s m below meth c ls C G hl
  generalize va_A _ sz = A at G ⊢
  have hx := C.1
  have hb := C.2.1
  have hown := C.2.2.2.2.2.1
  have hts := C.2.2.2.2.2.2.1
  refine lv_iload_n hx hb dX11_writer_0 rfl (lv_at hl 1 rfl) ?_
  refine kcM_i G (krS 1 rfl (As := [.int x]) (rest := []) C G pmN (c_X11_isWriter Z l h ad iv av x _) (gdS ml_X11_266 sm_X11_isWriter ii_X11 co_X11_isWriter) (by decide +kernel) ⟨Nat.le_of_ble_eq_true rfl, Nat.le_of_ble_eq_true rfl⟩ hl rfl (Nat.le_of_ble_eq_true rfl) ⟨Nat.le_of_ble_eq_true rfl, Nat.le_of_ble_eq_true rfl⟩ dX11_writer_1) (fun r_1 u H locs hu G => ?_)
  obtain ⟨r_1_e, rfl⟩ := hu
  rw [isW_0 hx4] at r_1_e
  subst r_1_e
  refine lv_if_ne (tgt := 9) hx hb dX11_writer_4 (by decide) (fun c_4 => ?_) (fun c_4 => ?_)
  · exact absurd c_4 (by decide)
  · have n_4 := nb_eq (a := 0) (b := 0) c_4 (by omega) (by omega)
    refine lv_iconst (v := (-1)) hx hb dX11_writer_7 (by decide) ?_
    exact kr_i C G ⟨rfl, rfl⟩ (Nat.le_of_ble_eq_true rfl) (Nat.le_of_ble_eq_true rfl) dX11_writer_8
def cnS (ob : List obT) (s : Int32) : Nat := (ob.filter (fun o => decide (o.1 = s))).length
theorem cnS_s {ob : List obT} {k : Nat} {o : obT} {s : Int32} (h : ob[k]? = some o) : cnS (ob.take (k + 1)) s = cnS (ob.take k) s + (if o.1 = s then 1 else 0) := by
  unfold cnS
  rw [take_s h, List.filter_append, List.length_append]
  by_cases e : o.1 = s
  · rw [if_pos e, List.filter_cons_of_pos (by simpa using e)]; rfl
  · rw [if_neg e, List.filter_cons_of_neg (by simpa using e)]; rfl
theorem cnS_le (ob : List obT) (s : Int32) : cnS ob s ≤ ob.length := List.length_filter_le _ _
set_option maxRecDepth 100000 in
set_option maxHeartbeats 4000000 in
theorem lp_mcount {p : Program} {l : Launch} {e : Env} {R : Room} {s : State} {m : MethodId} {args : Array Value} {below : List Frame} {meth : Method} {c : Code} {Z : zT} {A : Nat → Prop} {h : Nat} {ad : Nat → Nat} {iv : ivT} {av : avT} {ob : List obT} {post : Int32 → va_W → Prop} (C : cx p s m args meth c cX11_count 4 (some .int) RX11 "count") (ho : mo_ok iv av ob) (hp : post (nI (cnS ob 2)) (mdW Z h ad iv av)) : ∀ (n k q : Nat), k + n = ob.length → q = cnS (ob.take k) 2 → ∀ (H : Heap) (locs : List Loc) (ls : Array Slot), wd Z A s (mdW Z h ad iv av) H locs → lv_has ls 4 [(3, .int (nI k)), (2, .int (nI q)), (0, .ref h), (1, .int 3)] → W p l e R s m args below meth c H locs 0 0 (MQ below (va_Qi post (mB Z A) A) args s 0 0 A) (F0 m 65 ls []) := by
  have hx := C.1
  have hb := C.2.1
  have hown := C.2.2.2.2.2.1
  have hts := C.2.2.2.2.2.2.1
  have hob := ho.2.1
  intro n
  induction n with
  | zero =>
    intro k q hkn hq H locs ls G hl
    refine lv_iload_n hx hb dX11_count_65 rfl (lv_at hl 0 rfl) ?_
    refine lv_aload_n hx hb dX11_count_66 rfl (lv_at hl 2 rfl) ?_
    refine k_mgi (v := nI ob.length) C G 4 (by decide) mr_4 ho.1 fl_X11_150 rfl dX11_count_67 ?_
    refine lv_icmp_ge (tgt := 97) hx hb dX11_count_70 (by decide) (fun c_70 => ?_) (fun c_70 => ?_)
    · have n_70 := nb_le (a := ob.length) (b := k) c_70 (by omega) (by omega)
      refine lv_iload_n hx hb dX11_count_97 rfl (lv_at hl 1 rfl) ?_
      have hkl : k = ob.length := by omega
      subst hkl
      rw [List.take_length] at hq
      exact kr_i C G (by rw [hq]; exact hp) (Nat.le_of_ble_eq_true rfl) (Nat.le_of_ble_eq_true rfl) dX11_count_98
    · exact absurd (nb_nle (a := ob.length) (b := k) c_70 (by omega) (by omega)) (by omega)
  | succ n ih =>
    intro k q hkn hq H locs ls G hl
    obtain ⟨qo, hk⟩ : ∃ qo, ob[k]? = some qo := ⟨_, List.getElem?_eq_getElem (show k < ob.length by omega)⟩
    refine lv_iload_n hx hb dX11_count_65 rfl (lv_at hl 0 rfl) ?_
    refine lv_aload_n hx hb dX11_count_66 rfl (lv_at hl 2 rfl) ?_
    refine k_mgi (v := nI ob.length) C G 4 (by decide) mr_4 ho.1 fl_X11_150 rfl dX11_count_67 ?_
    refine lv_icmp_ge (tgt := 97) hx hb dX11_count_70 (by decide) (fun c_70 => ?_) (fun c_70 => ?_)
    · exact absurd (nb_le (a := ob.length) (b := k) c_70 (by omega) (by omega)) (by omega)
    · have n_70 := nb_nle (a := ob.length) (b := k) c_70 (by omega) (by omega)
      refine lv_iload_n hx hb dX11_count_73 rfl (lv_at hl 1 rfl) ?_
      refine lv_aload_n hx hb dX11_count_74 rfl (lv_at hl 2 rfl) ?_
      refine k_mga C G 0 (by decide) mr_0 fl_X11_7 rfl dX11_count_75 ?_
      refine lv_iload_n hx hb dX11_count_78 rfl (lv_at hl 0 rfl) ?_
      refine k_mil (v := qo.1) (i := k) C G 0 (k := 0) (n := 100) mp_0 (by decide) (by omega) ((ho.2.2.2.1 k qo hk).1) dX11_count_79 ?_
      refine lv_iconst (v := 2) hx hb dX11_count_80 (by decide) ?_
      refine lv_icmp_ne (tgt := 88) hx hb dX11_count_81 (by decide) (fun c_81 => ?_) (fun c_81 => ?_)
      · refine lv_iconst (v := 0) hx hb dX11_count_88 (by decide) ?_
        refine lv_iadd hx hb dX11_count_89 ?_
        refine k_topi (y := nI (q)) (Int32.add_zero _) ?_
        refine lv_istore_n (lv' := [(2, .int (nI q)), (3, .int (nI k)), (0, .ref h), (1, .int 3)]) hx hb dX11_count_90 rfl hl (by decide) rfl (fun ls hl => ?_)
        refine lv_iinc (v := nI (k + 1)) (lv' := [(3, .int (nI (k + 1))), (2, .int (nI q)), (0, .ref h), (1, .int 3)]) hx hb dX11_count_91 hl (k := 1) rfl (nI_1 _) (by decide) rfl (fun ls hl => ?_)
        refine lv_goto (tgt := 65) hx hb dX11_count_94 (by decide) ?_
        exact ih (k + 1) _ (by omega) (by rw [cnS_s hk, ← hq, if_neg c_81, Nat.add_zero]) _ _ _ G (lv_sub hl [0, 1, 2, 3] rfl)
      · refine lv_iconst (v := 1) hx hb dX11_count_84 (by decide) ?_
        refine lv_goto (tgt := 89) hx hb dX11_count_85 (by decide) ?_
        refine lv_iadd hx hb dX11_count_89 ?_
        refine k_topi (y := nI (q + 1)) (nI_add q 1) ?_
        refine lv_istore_n (lv' := [(2, .int (nI (q + 1))), (3, .int (nI k)), (0, .ref h), (1, .int 3)]) hx hb dX11_count_90 rfl hl (by decide) rfl (fun ls hl => ?_)
        refine lv_iinc (v := nI (k + 1)) (lv' := [(3, .int (nI (k + 1))), (2, .int (nI (q + 1))), (0, .ref h), (1, .int 3)]) hx hb dX11_count_91 hl (k := 1) rfl (nI_1 _) (by decide) rfl (fun ls hl => ?_)
        refine lv_goto (tgt := 65) hx hb dX11_count_94 (by decide) ?_
        exact ih (k + 1) _ (by omega) (by rw [cnS_s hk, ← hq, if_pos c_81]) _ _ _ G (lv_sub hl [0, 1, 2, 3] rfl)
set_option maxRecDepth 100000 in
set_option maxHeartbeats 4000000 in
theorem c_X11_count (Z : zT) (l : Launch) (h : Nat) (ad : Nat → Nat) (iv : ivT) (av : avT) (ob : List obT) (y nd cm lo fa vc : Int32) (ho : mo_ok iv av ob) (h8 : iv 8 = nd) (h9 : iv 9 = cm) (h10 : iv 10 = lo) (h11 : iv 11 = fa) (h12 : iv 12 = vc) : Ki Z l yX11_count cX11_count 4 (some .int) ({ frames := 0, cells := 0, slots := 0, locals := 0 }) [.ref h, .int y] (mdW Z h ad iv av) (fun r u => r = cnA ob.length (oSz ob) nd (cnS ob 2) cm lo fa vc y ∧ u = mdW Z h ad iv av) := by
  intro sz
  refine Met.ofK (cc := cX11_count) (maxL := 4) (ret := (some .int)) (by decide) (Nat.le_of_ble_eq_true rfl) ?_
  intro p e s m below meth c ls C G hl
  generalize va_A _ sz = A at G ⊢
  have hx := C.1
  have hb := C.2.1
  have hown := C.2.2.2.2.2.1
  have hts := C.2.2.2.2.2.2.1
  refine lv_iconst (v := 0) hx hb dX11_count_0 (by decide) ?_
  refine k_topi (y := nI 0) (by rfl) ?_
  refine lv_istore_n (lv' := [(2, .int (nI 0)), (0, .ref h), (1, .int y)]) hx hb dX11_count_1 rfl hl (by decide) rfl (fun ls hl => ?_)
  refine lv_iload_n hx hb dX11_count_2 rfl (lv_at hl 2 rfl) ?_
  by_cases t_0 : y = 0
  · subst t_0
    refine lv_tableIn (tgt := 48) hx hb dX11_count_3 (by decide) (by decide) rfl (by decide) ?_
    refine lv_aload_n hx hb dX11_count_48 rfl (lv_at hl 1 rfl) ?_
    refine k_mgi (v := nI ob.length) C G 4 (by decide) mr_4 ho.1 fl_X11_150 rfl dX11_count_49 ?_
    exact kr_i C G ⟨rfl, rfl⟩ (Nat.le_of_ble_eq_true rfl) (Nat.le_of_ble_eq_true rfl) dX11_count_52
  by_cases t_1 : y = 1
  · subst t_1
    refine lv_tableIn (tgt := 53) hx hb dX11_count_3 (by decide) (by decide) rfl (by decide) ?_
    refine lv_aload_n hx hb dX11_count_53 rfl (lv_at hl 1 rfl) ?_
    refine k_mgi (v := nI (oSz ob)) C G 5 (by decide) mr_5 ho.2.2.1 fl_X11_169 rfl dX11_count_54 ?_
    exact kr_i C G ⟨rfl, rfl⟩ (Nat.le_of_ble_eq_true rfl) (Nat.le_of_ble_eq_true rfl) dX11_count_57
  by_cases t_2 : y = 2
  · subst t_2
    refine lv_tableIn (tgt := 58) hx hb dX11_count_3 (by decide) (by decide) rfl (by decide) ?_
    refine lv_aload_n hx hb dX11_count_58 rfl (lv_at hl 1 rfl) ?_
    refine k_mgi (v := nd) C G 8 (by decide) mr_8 h8 fl_X11_307 rfl dX11_count_59 ?_
    exact kr_i C G ⟨rfl, rfl⟩ (Nat.le_of_ble_eq_true rfl) (Nat.le_of_ble_eq_true rfl) dX11_count_62
  by_cases t_3 : y = 3
  · subst t_3
    refine lv_tableIn (tgt := 63) hx hb dX11_count_3 (by decide) (by decide) rfl (by decide) ?_
    refine lv_iconst (v := 0) hx hb dX11_count_63 (by decide) ?_
    refine k_topi (y := nI 0) (by rfl) ?_
    refine lv_istore_n (lv' := [(3, .int (nI 0)), (2, .int (nI 0)), (0, .ref h), (1, .int 3)]) hx hb dX11_count_64 rfl hl (by decide) rfl (fun ls hl => ?_)
    exact lp_mcount C ho ⟨rfl, rfl⟩ ob.length 0 0 (by omega) (by simp [cnS]) _ _ _ G (lv_sub hl [0, 1, 2, 3] rfl)
  by_cases t_4 : y = 4
  · subst t_4
    refine lv_tableIn (tgt := 99) hx hb dX11_count_3 (by decide) (by decide) rfl (by decide) ?_
    refine lv_aload_n hx hb dX11_count_99 rfl (lv_at hl 1 rfl) ?_
    refine k_mgi (v := cm) C G 9 (by decide) mr_9 h9 fl_X11_318 rfl dX11_count_100 ?_
    exact kr_i C G ⟨rfl, rfl⟩ (Nat.le_of_ble_eq_true rfl) (Nat.le_of_ble_eq_true rfl) dX11_count_103
  by_cases t_5 : y = 5
  · subst t_5
    refine lv_tableIn (tgt := 104) hx hb dX11_count_3 (by decide) (by decide) rfl (by decide) ?_
    refine lv_aload_n hx hb dX11_count_104 rfl (lv_at hl 1 rfl) ?_
    refine k_mgi (v := lo) C G 10 (by decide) mr_10 h10 fl_X11_313 rfl dX11_count_105 ?_
    exact kr_i C G ⟨rfl, rfl⟩ (Nat.le_of_ble_eq_true rfl) (Nat.le_of_ble_eq_true rfl) dX11_count_108
  by_cases t_6 : y = 6
  · subst t_6
    refine lv_tableIn (tgt := 109) hx hb dX11_count_3 (by decide) (by decide) rfl (by decide) ?_
    refine lv_aload_n hx hb dX11_count_109 rfl (lv_at hl 1 rfl) ?_
    refine k_mgi (v := fa) C G 11 (by decide) mr_11 h11 fl_X11_277 rfl dX11_count_110 ?_
    exact kr_i C G ⟨rfl, rfl⟩ (Nat.le_of_ble_eq_true rfl) (Nat.le_of_ble_eq_true rfl) dX11_count_113
  by_cases t_7 : y = 7
  · subst t_7
    refine lv_tableIn (tgt := 114) hx hb dX11_count_3 (by decide) (by decide) rfl (by decide) ?_
    refine lv_aload_n hx hb dX11_count_114 rfl (lv_at hl 1 rfl) ?_
    refine k_mgi (v := vc) C G 12 (by decide) mr_12 h12 fl_X11_172 rfl dX11_count_115 ?_
    exact kr_i C G ⟨rfl, rfl⟩ (Nat.le_of_ble_eq_true rfl) (Nat.le_of_ble_eq_true rfl) dX11_count_118
  refine lv_tableOut (tgt := 119) hx hb dX11_count_3 (tsw7 t_0 t_1 t_2 t_3 t_4 t_5 t_6 t_7) (by decide) ?_
  refine lv_iconst (v := (-1)) hx hb dX11_count_119 (by decide) ?_
  exact kr_i C G ⟨by unfold cnA; rw [if_neg t_0, if_neg t_1, if_neg t_2, if_neg t_3, if_neg t_4, if_neg t_5, if_neg t_6, if_neg t_7], rfl⟩ (Nat.le_of_ble_eq_true rfl) (Nat.le_of_ble_eq_true rfl) dX11_count_120
set_option maxRecDepth 100000 in
set_option maxHeartbeats 4000000 in
theorem lp_mmck {p : Program} {l : Launch} {e : Env} {s : State} {m : MethodId} {args : Array Value} {below : List Frame} {meth : Method} {c : Code} {Z : zT} {A : Nat → Prop} {h : Nat} {ad : Nat → Nat} {iv0 : ivT} {av0 : avT} {F : flT} {v : Int32} {post : va_W → Prop} (C : cx p s m args meth c cX11_makeCheckpoint 3 none RX11 "makeCheckpoint") (hF : flS iv0 av0 F) (hp : ∀ (iv : ivT) (av : avT), mk_at iv av (([(67 : Int32).toInt8] ++ u4b v ++ [(nI F.length).toInt8]) ++ ckF (F.take F.length) ++ u4b (crc (([(67 : Int32).toInt8] ++ u4b v ++ [(nI F.length).toInt8]) ++ ckF (F.take F.length)))) → sI [15] iv0 iv → sA [14] av0 av → post (mdW Z h ad iv av)) : ∀ (n i : Nat) (iv : ivT) (av : avT), i + n = F.length → mk_at iv av (([(67 : Int32).toInt8] ++ u4b v ++ [(nI F.length).toInt8]) ++ ckF (F.take i)) → sI [15] iv0 iv → sA [14] av0 av → ∀ (H : Heap) (locs : List Loc) (ls : Array Slot), wd Z A s (mdW Z h ad iv av) H locs → lv_has ls 3 [(2, .int (nI i)), (0, .ref h), (1, .int v)] → W p l e ({ frames := 2, cells := 0, slots := 0, locals := 60 }) s m args below meth c H locs 0 0 (MQ below (va_Qv post (mB Z A) A) args s 0 0 A) (F0 m 32 ls []) := by
  have hx := C.1
  have hb := C.2.1
  have hown := C.2.2.2.2.2.1
  have hts := C.2.2.2.2.2.2.1
  have hfl := hF.2.2.1
  have hhb : ([(67 : Int32).toInt8] ++ u4b v ++ [(nI F.length).toInt8]).length = 6 := by simp [u4b_len]
  intro n
  induction n with
  | zero =>
    intro i iv av hi hmk hsI hsA H locs ls G hl
    have hiF : i = F.length := by omega
    subst hiF
    have h30v : iv 30 = nI F.length := (hsI 30 (by decide)).trans hF.1
    have hat : fl_at (av 31) (av 32) F := by rw [hsA 31 (by decide), hsA 32 (by decide)]; exact hF.2.1
    refine lv_iload_n hx hb dX11_makeCheckpoint_32 rfl (lv_at hl 0 rfl) ?_
    refine lv_aload_n hx hb dX11_makeCheckpoint_33 rfl (lv_at hl 1 rfl) ?_
    refine k_mgi (v := nI F.length) C G 30 (by decide) mr_30 h30v fl_X11_245 rfl dX11_makeCheckpoint_34 ?_
    refine lv_icmp_ge (tgt := 70) hx hb dX11_makeCheckpoint_37 (by decide) (fun c_37 => ?_) (fun c_37 => ?_)
    · have n_37 := nb_le (a := F.length) (b := F.length) c_37 (by omega) (by omega)
      refine lv_aload_n hx hb dX11_makeCheckpoint_70 rfl (lv_at hl 1 rfl) ?_
      refine kcM_v G (krV 0 rfl (As := []) (rest := []) (ci := 12) (CC := RX11) (T := TX11) (N := 61) C G pmN (c_X11_ends Z l h ad iv av _ hmk (by rw [List.length_append, ckF_len, List.length_take]; omega) _) (gdV ml_X11_203 im_X11_ends se_X11_ends ii_X11 co_X11_ends) (by decide +kernel) ⟨Nat.le_of_ble_eq_true rfl, Nat.le_of_ble_eq_true rfl⟩ rfl 0 rfl hl rfl (Nat.le_of_ble_eq_true rfl) ⟨Nat.le_of_ble_eq_true rfl, Nat.le_of_ble_eq_true rfl⟩ dX11_makeCheckpoint_71) (fun u H locs hu G => ?_)
      obtain ⟨iv1_, av1_, rfl, hm1, hs1, ha1⟩ := hu
      exact kr_v C G (hp _ _ hm1 (hsI.tr hs1 (by decide)) (hsA.tr ha1 (by decide))) (Nat.le_of_ble_eq_true rfl) (Nat.le_of_ble_eq_true rfl) dX11_makeCheckpoint_74
    · exact absurd (nb_nle (a := F.length) (b := F.length) c_37 (by omega) (by omega)) (by omega)
  | succ n ih =>
    intro i iv av hi hmk hsI hsA H locs ls G hl
    have h30v : iv 30 = nI F.length := (hsI 30 (by decide)).trans hF.1
    have hat : fl_at (av 31) (av 32) F := by rw [hsA 31 (by decide), hsA 32 (by decide)]; exact hF.2.1
    refine lv_iload_n hx hb dX11_makeCheckpoint_32 rfl (lv_at hl 0 rfl) ?_
    refine lv_aload_n hx hb dX11_makeCheckpoint_33 rfl (lv_at hl 1 rfl) ?_
    refine k_mgi (v := nI F.length) C G 30 (by decide) mr_30 h30v fl_X11_245 rfl dX11_makeCheckpoint_34 ?_
    refine lv_icmp_ge (tgt := 70) hx hb dX11_makeCheckpoint_37 (by decide) (fun c_37 => ?_) (fun c_37 => ?_)
    · exact absurd (nb_le (a := F.length) (b := i) c_37 (by omega) (by omega)) (by omega)
    · have n_37 := nb_nle (a := F.length) (b := i) c_37 (by omega) (by omega)
      refine lv_aload_n hx hb dX11_makeCheckpoint_40 rfl (lv_at hl 1 rfl) ?_
      refine lv_aload_n hx hb dX11_makeCheckpoint_41 rfl (lv_at hl 1 rfl) ?_
      refine k_mga C G 31 (by decide) mr_31 fl_X11_59 rfl dX11_makeCheckpoint_42 ?_
      refine lv_iload_n hx hb dX11_makeCheckpoint_45 rfl (lv_at hl 0 rfl) ?_
      refine k_mil (v := (F.getD i (0, 0)).1) (i := i) C G 13 (k := 31) (n := 260) mp_31 (by decide) (by omega) ((hat i (by omega)).1) dX11_makeCheckpoint_46 ?_
      refine lv_i2l (v := ((F.getD i (0, 0)).1).toInt64) hx hb dX11_makeCheckpoint_47 rfl ?_
      refine lv_iconst (v := 4) hx hb dX11_makeCheckpoint_48 (by decide) ?_
      refine kcM_v G (krV 2 rfl (As := [.long (((F.getD i (0, 0)).1).toInt64), .int 4]) (rest := []) (ci := 12) (CC := RX11) (T := TX11) (N := 61) C G pmN (c_mu4 Z l h ad iv av _ (F.getD i (0, 0)).1 hmk (by rw [List.length_append, ckF_len, List.length_take]; omega) _) (gdV ml_X11_161 im_X11_u se_X11_u ii_X11 co_X11_u) (by decide +kernel) ⟨Nat.le_of_ble_eq_true rfl, Nat.le_of_ble_eq_true rfl⟩ rfl 0 rfl hl rfl (Nat.le_of_ble_eq_true rfl) ⟨Nat.le_of_ble_eq_true rfl, Nat.le_of_ble_eq_true rfl⟩ dX11_makeCheckpoint_49) (fun u H locs hu G => ?_)
      obtain ⟨iv1_, av1_, rfl, hm1, hs1, ha1⟩ := hu
      refine lv_aload_n hx hb dX11_makeCheckpoint_52 rfl (lv_at hl 1 rfl) ?_
      refine lv_aload_n hx hb dX11_makeCheckpoint_53 rfl (lv_at hl 1 rfl) ?_
      refine k_mga C G 32 (by decide) mr_32 fl_X11_62 rfl dX11_makeCheckpoint_54 ?_
      refine lv_iload_n hx hb dX11_makeCheckpoint_57 rfl (lv_at hl 0 rfl) ?_
      refine k_mil (v := (F.getD i (0, 0)).2) (i := i) C G 14 (k := 32) (n := 260) mp_32 (by decide) (by omega) ((congrFun (ha1 32 (by decide)) i).trans (hat i (by omega)).2) dX11_makeCheckpoint_58 ?_
      refine lv_i2l (v := ((F.getD i (0, 0)).2).toInt64) hx hb dX11_makeCheckpoint_59 rfl ?_
      refine lv_iconst (v := 1) hx hb dX11_makeCheckpoint_60 (by decide) ?_
      refine kcM_v G (krV 2 rfl (As := [.long (((F.getD i (0, 0)).2).toInt64), .int 1]) (rest := []) (ci := 12) (CC := RX11) (T := TX11) (N := 61) C G pmN (c_mu1 Z l h ad iv1_ av1_ _ (F.getD i (0, 0)).2 hm1 (by rw [List.length_append, List.length_append, ckF_len, List.length_take, u4b_len]; omega) _) (gdV ml_X11_161 im_X11_u se_X11_u ii_X11 co_X11_u) (by decide +kernel) ⟨Nat.le_of_ble_eq_true rfl, Nat.le_of_ble_eq_true rfl⟩ rfl 0 rfl hl rfl (Nat.le_of_ble_eq_true rfl) ⟨Nat.le_of_ble_eq_true rfl, Nat.le_of_ble_eq_true rfl⟩ dX11_makeCheckpoint_61) (fun u H locs hu G => ?_)
      obtain ⟨iv2_, av2_, rfl, hm2, hs2, ha2⟩ := hu
      refine lv_iinc (v := nI (i + 1)) (lv' := [(2, .int (nI (i + 1))), (0, .ref h), (1, .int v)]) hx hb dX11_makeCheckpoint_64 hl (k := 0) rfl (nI_1 _) (by decide) rfl (fun ls hl => ?_)
      refine lv_goto (tgt := 32) hx hb dX11_makeCheckpoint_67 (by decide) ?_
      exact ih (i + 1) _ _ (by omega) (by rw [ckF_s F i (by omega), ← List.append_assoc, ← List.append_assoc]; exact hm2) ((hsI.tr hs1 (by decide)).tr hs2 (by decide)) ((hsA.tr ha1 (by decide)).tr ha2 (by decide)) _ _ _ G (lv_sub hl [0, 1, 2] rfl)
set_option maxRecDepth 100000 in
set_option maxHeartbeats 4000000 in
theorem c_X11_makeCheckpoint (Z : zT) (l : Launch) (h : Nat) (ad : Nat → Nat) (iv : ivT) (av : avT) (F : flT) (v : Int32) (hF : flS iv av F) (hfit : ∀ i, fits .byte (.int (av 14 i)) = true) : Kv Z l yX11_makeCheckpoint cX11_makeCheckpoint 3 none ({ frames := 2, cells := 0, slots := 0, locals := 60 }) [.ref h, .int v] (mdW Z h ad iv av) (fun u => ∃ (iv2 : ivT) (av2 : avT), u = mdW Z h ad iv2 av2 ∧ mk_at iv2 av2 (ckE v F) ∧ sI [15] iv iv2 ∧ sA [14] av av2) := by
  intro sz
  refine Met.ofK (cc := cX11_makeCheckpoint) (maxL := 3) (ret := none) (by decide) (Nat.le_of_ble_eq_true rfl) ?_
  intro p e s m below meth c ls C G hl
  generalize va_A _ sz = A at G ⊢
  have hx := C.1
  have hb := C.2.1
  have hown := C.2.2.2.2.2.1
  have hts := C.2.2.2.2.2.2.1
  have q30_0 := hF.1
  refine lv_aload_n hx hb dX11_makeCheckpoint_0 rfl (lv_at hl 0 rfl) ?_
  refine lv_iconst (v := 0) hx hb dX11_makeCheckpoint_1 (by decide) ?_
  refine k_mpi (v := 0) (ty := .int) C G 15 (by decide) mr_15 fl_X11_153 rfl rfl rfl rfl rfl dX11_makeCheckpoint_2 (fun H locs (G : wd Z A s (mdW Z h ad (upd iv 15 0) av) H locs) => ?_)
  have hmz : mk_at (upd iv 15 0) av [] := ⟨rfl, by_nil hfit⟩
  refine lv_aload_n hx hb dX11_makeCheckpoint_5 rfl (lv_at hl 0 rfl) ?_
  refine lv_ldc2 (v := 67) hx hb hown (hts _ kl_X11_243) dX11_makeCheckpoint_6 ?_
  refine k_topl (y := (67 : Int32).toInt64) (by decide) ?_
  refine lv_iconst (v := 1) hx hb dX11_makeCheckpoint_9 (by decide) ?_
  refine kcM_v G (krV 2 rfl (As := [.long ((67 : Int32).toInt64), .int 1]) (rest := []) (ci := 12) (CC := RX11) (T := TX11) (N := 61) C G pmN (c_mu1 Z l h ad (upd iv 15 0) av _ 67 hmz (by simp [u4b_len]) _) (gdV ml_X11_161 im_X11_u se_X11_u ii_X11 co_X11_u) (by decide +kernel) ⟨Nat.le_of_ble_eq_true rfl, Nat.le_of_ble_eq_true rfl⟩ rfl 0 rfl hl rfl (Nat.le_of_ble_eq_true rfl) ⟨Nat.le_of_ble_eq_true rfl, Nat.le_of_ble_eq_true rfl⟩ dX11_makeCheckpoint_10) (fun u H locs hu G => ?_)
  obtain ⟨iv1_, av1_, rfl, hm1, hs1, ha1⟩ := hu
  have q30_1 : iv1_ 30 = nI F.length := (hs1 30 (by decide)).trans q30_0
  refine lv_aload_n hx hb dX11_makeCheckpoint_13 rfl (lv_at hl 0 rfl) ?_
  refine lv_iload_n hx hb dX11_makeCheckpoint_14 rfl (lv_at hl 1 rfl) ?_
  refine lv_i2l (v := v.toInt64) hx hb dX11_makeCheckpoint_15 rfl ?_
  refine lv_iconst (v := 4) hx hb dX11_makeCheckpoint_16 (by decide) ?_
  refine kcM_v G (krV 2 rfl (As := [.long v.toInt64, .int 4]) (rest := []) (ci := 12) (CC := RX11) (T := TX11) (N := 61) C G pmN (c_mu4 Z l h ad iv1_ av1_ _ v hm1 (by simp [u4b_len]) _) (gdV ml_X11_161 im_X11_u se_X11_u ii_X11 co_X11_u) (by decide +kernel) ⟨Nat.le_of_ble_eq_true rfl, Nat.le_of_ble_eq_true rfl⟩ rfl 0 rfl hl rfl (Nat.le_of_ble_eq_true rfl) ⟨Nat.le_of_ble_eq_true rfl, Nat.le_of_ble_eq_true rfl⟩ dX11_makeCheckpoint_17) (fun u H locs hu G => ?_)
  obtain ⟨iv2_, av2_, rfl, hm2, hs2, ha2⟩ := hu
  have q30_2 : iv2_ 30 = nI F.length := (hs2 30 (by decide)).trans q30_1
  refine lv_aload_n hx hb dX11_makeCheckpoint_20 rfl (lv_at hl 0 rfl) ?_
  refine lv_aload_n hx hb dX11_makeCheckpoint_21 rfl (lv_at hl 0 rfl) ?_
  refine k_mgi (v := nI F.length) C G 30 (by decide) mr_30 q30_2 fl_X11_245 rfl dX11_makeCheckpoint_22 ?_
  refine lv_i2l (v := (nI F.length).toInt64) hx hb dX11_makeCheckpoint_25 rfl ?_
  refine lv_iconst (v := 1) hx hb dX11_makeCheckpoint_26 (by decide) ?_
  refine kcM_v G (krV 2 rfl (As := [.long ((nI F.length).toInt64), .int 1]) (rest := []) (ci := 12) (CC := RX11) (T := TX11) (N := 61) C G pmN (c_mu1 Z l h ad iv2_ av2_ _ (nI F.length) hm2 (by simp [u4b_len]) _) (gdV ml_X11_161 im_X11_u se_X11_u ii_X11 co_X11_u) (by decide +kernel) ⟨Nat.le_of_ble_eq_true rfl, Nat.le_of_ble_eq_true rfl⟩ rfl 0 rfl hl rfl (Nat.le_of_ble_eq_true rfl) ⟨Nat.le_of_ble_eq_true rfl, Nat.le_of_ble_eq_true rfl⟩ dX11_makeCheckpoint_27) (fun u H locs hu G => ?_)
  obtain ⟨iv3_, av3_, rfl, hm3, hs3, ha3⟩ := hu
  have q30_3 : iv3_ 30 = nI F.length := (hs3 30 (by decide)).trans q30_2
  refine lv_iconst (v := 0) hx hb dX11_makeCheckpoint_30 (by decide) ?_
  refine k_topi (y := nI 0) (by rfl) ?_
  refine lv_istore_n (lv' := [(2, .int (nI 0)), (0, .ref h), (1, .int v)]) hx hb dX11_makeCheckpoint_31 rfl hl (by decide) rfl (fun ls hl => ?_)
  exact lp_mmck (iv0 := iv3_) (av0 := av3_) C ⟨q30_3, by rw [ha3 31 (by decide), ha2 31 (by decide), ha1 31 (by decide), ha3 32 (by decide), ha2 32 (by decide), ha1 32 (by decide)]; exact hF.2.1, hF.2.2⟩ (fun iv4 av4 a1 a2 a3 => ⟨iv4, av4, rfl, by rw [List.take_length] at a1; exact a1, (((sI.rf.up (k := 15) (by decide) 0).tr hs1 (by decide)).tr hs2 (by decide)).tr hs3 (by decide) |>.tr a2 (by decide), ((sA.rf.tr ha1 (by decide)).tr ha2 (by decide)).tr ha3 (by decide) |>.tr a3 (by decide)⟩) F.length 0 iv3_ av3_ (by omega) (by rw [show ckF (F.take 0) = [] from rfl, List.append_nil]; exact hm3) sI.rf sA.rf _ _ _ G (lv_sub hl [0, 1, 2] rfl)
theorem mVr_neg {ob : List obT} {flo x : Int32} (hf : ¬ flo < 0) (h : ¬ -1 ≤ x) : mVr ob flo x = none := by
  have h0 : x < -1 := Int32.not_le.mp h
  rw [mVr, if_neg (fun z => by rw [z] at h0; exact absurd h0 (by decide)), if_pos (Or.inl (Int32.lt_of_lt_of_le (Int32.lt_trans h0 (by decide)) (Int32.not_lt.mp hf)))]
set_option maxRecDepth 100000 in
set_option maxHeartbeats 4000000 in
theorem c_X11_files (Z : zT) (l : Launch) (h : Nat) (ad : Nat → Nat) (iv : ivT) (av : avT) (ob : List obT) (flo x : Int32) (ho : mo_ok iv av ob) (hin : mo_in ob) (h13 : iv 13 = flo) (hflo : ¬ flo < 0) : Ki Z l yX11_files cX11_files 2 (some .int) ({ frames := 4, cells := 0, slots := 0, locals := 130 }) [.ref h, .int x] (mdW Z h ad iv av) (fun r u => ∃ (iv2 : ivT) (av2 : avT), u = mdW Z h ad iv2 av2 ∧ sI [16, 17, 18, 26, 30] iv iv2 ∧ sA [27, 28, 29, 31, 32] av av2 ∧ r = (mVr ob flo x).elim (-1) (fun F => nI F.length)) := by
  intro sz
  refine Met.ofK (cc := cX11_files) (maxL := 2) (ret := (some .int)) (by decide) (Nat.le_of_ble_eq_true rfl) ?_
  intro p e s m below meth c ls C G hl
  generalize va_A _ sz = A at G ⊢
  have hx := C.1
  have hb := C.2.1
  have hown := C.2.2.2.2.2.1
  have hts := C.2.2.2.2.2.2.1
  refine lv_iload_n hx hb dX11_files_0 rfl (lv_at hl 1 rfl) ?_
  refine lv_iconst (v := (-1)) hx hb dX11_files_1 (by decide) ?_
  refine lv_icmp_lt (tgt := 20) hx hb dX11_files_2 (by decide) (fun c_2 => ?_) (fun c_2 => ?_)
  · refine lv_iconst (v := (-1)) hx hb dX11_files_20 (by decide) ?_
    exact kr_i C G ⟨iv, av, rfl, sI.rf, sA.rf, by rw [mVr_neg hflo (Int32.not_le.mpr c_2)]; rfl⟩ (Nat.le_of_ble_eq_true rfl) (Nat.le_of_ble_eq_true rfl) dX11_files_21
  · refine lv_aload_n hx hb dX11_files_5 rfl (lv_at hl 0 rfl) ?_
    refine lv_iload_n hx hb dX11_files_6 rfl (lv_at hl 1 rfl) ?_
    refine kcM_i G (krV 1 rfl (As := [.int x]) (rest := []) (ci := 12) (CC := RX11) (T := TX11) (N := 61) C G pmN (c_X11_reads Z l h ad iv av ob flo x ho hin h13 hflo _) (gdV ml_X11_280 im_X11_reads se_X11_reads ii_X11 co_X11_reads) (by decide +kernel) ⟨Nat.le_of_ble_eq_true rfl, Nat.le_of_ble_eq_true rfl⟩ rfl 0 rfl hl rfl (Nat.le_of_ble_eq_true rfl) ⟨Nat.le_of_ble_eq_true rfl, Nat.le_of_ble_eq_true rfl⟩ dX11_files_7) (fun r_7 u H locs hu G => ?_)
    obtain ⟨iv1_, av1_, rfl, hs1, ha1, hcs1⟩ := hu
    rcases hcs1 with ⟨r_7_e, F, hvr, hF⟩ | ⟨r_7_e, hvr⟩
    · subst r_7_e
      have hfl := hF.2.2.1
      refine lv_if_eq (tgt := 20) hx hb dX11_files_10 (by decide) (fun c_10 => ?_) (fun c_10 => ?_)
      · exact absurd c_10 (by decide)
      · have n_10 := nb_ne (a := 1) (b := 0) c_10 (by omega) (by omega)
        refine lv_aload_n hx hb dX11_files_13 rfl (lv_at hl 0 rfl) ?_
        refine k_mgi (v := nI F.length) C G 30 (by decide) mr_30 hF.1 fl_X11_245 rfl dX11_files_14 ?_
        refine lv_goto (tgt := 21) hx hb dX11_files_17 (by decide) ?_
        exact kr_i C G ⟨_, _, rfl, hs1, ha1, by rw [hvr]; rfl⟩ (Nat.le_of_ble_eq_true rfl) (Nat.le_of_ble_eq_true rfl) dX11_files_21
    · subst r_7_e
      refine lv_if_eq (tgt := 20) hx hb dX11_files_10 (by decide) (fun c_10 => ?_) (fun c_10 => ?_)
      · have n_10 := nb_eq (a := 0) (b := 0) c_10 (by omega) (by omega)
        refine lv_iconst (v := (-1)) hx hb dX11_files_20 (by decide) ?_
        exact kr_i C G ⟨_, _, rfl, hs1, ha1, by rw [hvr]; rfl⟩ (Nat.le_of_ble_eq_true rfl) (Nat.le_of_ble_eq_true rfl) dX11_files_21
      · exact absurd c_10 (by decide)
set_option maxRecDepth 100000 in
set_option maxHeartbeats 4000000 in
theorem c_X11_file (Z : zT) (l : Launch) (h : Nat) (ad : Nat → Nat) (iv : ivT) (av : avT) (ob : List obT) (flo x y : Int32) (ho : mo_ok iv av ob) (hin : mo_in ob) (h13 : iv 13 = flo) (hflo : ¬ flo < 0) : Ki Z l yX11_file cX11_file 3 (some .int) ({ frames := 4, cells := 0, slots := 0, locals := 130 }) [.ref h, .int x, .int y] (mdW Z h ad iv av) (fun r u => ∃ (iv2 : ivT) (av2 : avT), u = mdW Z h ad iv2 av2 ∧ sI [16, 17, 18, 26, 30] iv iv2 ∧ sA [27, 28, 29, 31, 32] av av2 ∧ r = (mVr ob flo x).elim (-1) (fun F => flN F y)) := by
  intro sz
  refine Met.ofK (cc := cX11_file) (maxL := 3) (ret := (some .int)) (by decide) (Nat.le_of_ble_eq_true rfl) ?_
  intro p e s m below meth c ls C G hl
  generalize va_A _ sz = A at G ⊢
  have hx := C.1
  have hb := C.2.1
  have hown := C.2.2.2.2.2.1
  have hts := C.2.2.2.2.2.2.1
  refine lv_iload_n hx hb dX11_file_0 rfl (lv_at hl 1 rfl) ?_
  refine lv_iconst (v := (-1)) hx hb dX11_file_1 (by decide) ?_
  refine lv_icmp_lt (tgt := 34) hx hb dX11_file_2 (by decide) (fun c_2 => ?_) (fun c_2 => ?_)
  · refine lv_iconst (v := (-1)) hx hb dX11_file_34 (by decide) ?_
    exact kr_i C G ⟨iv, av, rfl, sI.rf, sA.rf, by rw [mVr_neg hflo (Int32.not_le.mpr c_2)]; rfl⟩ (Nat.le_of_ble_eq_true rfl) (Nat.le_of_ble_eq_true rfl) dX11_file_35
  · refine lv_aload_n hx hb dX11_file_5 rfl (lv_at hl 0 rfl) ?_
    refine lv_iload_n hx hb dX11_file_6 rfl (lv_at hl 1 rfl) ?_
    refine kcM_i G (krV 1 rfl (As := [.int x]) (rest := []) (ci := 12) (CC := RX11) (T := TX11) (N := 61) C G pmN (c_X11_reads Z l h ad iv av ob flo x ho hin h13 hflo _) (gdV ml_X11_280 im_X11_reads se_X11_reads ii_X11 co_X11_reads) (by decide +kernel) ⟨Nat.le_of_ble_eq_true rfl, Nat.le_of_ble_eq_true rfl⟩ rfl 0 rfl hl rfl (Nat.le_of_ble_eq_true rfl) ⟨Nat.le_of_ble_eq_true rfl, Nat.le_of_ble_eq_true rfl⟩ dX11_file_7) (fun r_7 u H locs hu G => ?_)
    obtain ⟨iv1_, av1_, rfl, hs1, ha1, hcs1⟩ := hu
    rcases hcs1 with ⟨r_7_e, F, hvr, hF⟩ | ⟨r_7_e, hvr⟩
    · subst r_7_e
      have hfl := hF.2.2.1
      refine lv_if_eq (tgt := 34) hx hb dX11_file_10 (by decide) (fun c_10 => ?_) (fun c_10 => ?_)
      · exact absurd c_10 (by decide)
      · have n_10 := nb_ne (a := 1) (b := 0) c_10 (by omega) (by omega)
        refine lv_iload_n hx hb dX11_file_13 rfl (lv_at hl 2 rfl) ?_
        refine lv_if_lt (tgt := 34) hx hb dX11_file_14 (by decide) (fun c_14 => ?_) (fun c_14 => ?_)
        · refine lv_iconst (v := (-1)) hx hb dX11_file_34 (by decide) ?_
          exact kr_i C G ⟨_, _, rfl, hs1, ha1, by rw [hvr]; show _ = flN F y; rw [flN, if_neg (fun z => absurd c_14 (Int32.not_lt.mpr z.1))]⟩ (Nat.le_of_ble_eq_true rfl) (Nat.le_of_ble_eq_true rfl) dX11_file_35
        · refine lv_iload_n hx hb dX11_file_17 rfl (lv_at hl 2 rfl) ?_
          refine lv_aload_n hx hb dX11_file_18 rfl (lv_at hl 0 rfl) ?_
          refine k_mgi (v := nI F.length) C G 30 (by decide) mr_30 hF.1 fl_X11_245 rfl dX11_file_19 ?_
          refine lv_icmp_ge (tgt := 34) hx hb dX11_file_22 (by decide) (fun c_22 => ?_) (fun c_22 => ?_)
          · refine lv_iconst (v := (-1)) hx hb dX11_file_34 (by decide) ?_
            exact kr_i C G ⟨_, _, rfl, hs1, ha1, by rw [hvr]; show _ = flN F y; rw [flN, if_neg (fun z => absurd z.2 (Int32.not_lt.mpr c_22))]⟩ (Nat.le_of_ble_eq_true rfl) (Nat.le_of_ble_eq_true rfl) dX11_file_35
          · obtain ⟨yn, hy31, hyn⟩ := nI_of c_14
            have hyl : yn < F.length := nb_lt (by rw [← hyn]; exact Int32.not_le.mp c_22) hy31 (by omega)
            refine lv_aload_n hx hb dX11_file_25 rfl (lv_at hl 0 rfl) ?_
            refine k_mga C G 31 (by decide) mr_31 fl_X11_59 rfl dX11_file_26 ?_
            refine lv_iload_n hx hb dX11_file_29 rfl (lv_at hl 2 rfl) ?_
            refine k_topi (y := nI yn) hyn ?_
            refine k_mil (v := (F.getD yn (0, 0)).1) (i := yn) C G 13 (k := 31) (n := 260) mp_31 (by decide) (by omega) ((hF.2.1 yn hyl).1) dX11_file_30 ?_
            refine lv_goto (tgt := 35) hx hb dX11_file_31 (by decide) ?_
            exact kr_i C G ⟨_, _, rfl, hs1, ha1, by rw [hvr]; show _ = flN F y; rw [flN, if_pos ⟨Int32.not_lt.mp c_14, Int32.not_le.mp c_22⟩, hyn, nI_clamp hy31]⟩ (Nat.le_of_ble_eq_true rfl) (Nat.le_of_ble_eq_true rfl) dX11_file_35
    · subst r_7_e
      refine lv_if_eq (tgt := 34) hx hb dX11_file_10 (by decide) (fun c_10 => ?_) (fun c_10 => ?_)
      · have n_10 := nb_eq (a := 0) (b := 0) c_10 (by omega) (by omega)
        refine lv_iconst (v := (-1)) hx hb dX11_file_34 (by decide) ?_
        exact kr_i C G ⟨_, _, rfl, hs1, ha1, by rw [hvr]; rfl⟩ (Nat.le_of_ble_eq_true rfl) (Nat.le_of_ble_eq_true rfl) dX11_file_35
      · exact absurd c_10 (by decide)
