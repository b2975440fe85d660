/-! MODEL (X11): put, goes, take, opens, isMade. -/
set_option maxRecDepth 100000 in
set_option maxHeartbeats 4000000 in
theorem c_X11_opens (Z : zT) (l : Launch) (h : Nat) (ad : Nat → Nat) (iv : ivT) (av : avT) (ob : List obT) (k : Nat) (o : obT) (ho : mo_at av ob) (hl1 : ob.length ≤ 100) (hk : ob[k]? = some o) : Kv Z l yX11_opens cX11_opens 2 none ({ frames := 1, cells := 0, slots := 0, locals := 40 }) [.ref h, .int (nI k)] (mdW Z h ad iv av) (fun u => ∃ iv2, u = mdW Z h ad iv2 av ∧ sI [16, 17, 18] iv iv2 ∧ iv2 16 = nI (1400 * k) ∧ iv2 17 = nI (1400 * k + o.2.2.length - 4) ∧ ((okC o.2.2 ∧ iv2 18 = 1) ∨ (¬ okC o.2.2 ∧ iv2 18 = 0))) := by
  intro sz
  refine Met.ofK (cc := cX11_opens) (maxL := 2) (ret := none) (by decide) (Nat.le_of_ble_eq_true rfl) ?_
  intro p e s m below meth c ls C G hl
  generalize va_A _ sz = A at G ⊢
  have hx := C.1
  have hb := C.2.1
  have hown := C.2.2.2.2.2.1
  have hts := C.2.2.2.2.2.2.1
  have hkl := (List.getElem?_eq_some_iff.mp hk).1
  have hol := (ho.1 k o hk).2.2.2.1
  have hou := (ho.1 k o hk).2.2.2.2.1
  refine lv_aload_n hx hb dX11_opens_0 rfl (lv_at hl 0 rfl) ?_
  refine lv_sipush (v := 1400) hx hb dX11_opens_1 (by decide) ?_
  refine lv_iload_n hx hb dX11_opens_4 rfl (lv_at hl 1 rfl) ?_
  refine lv_imul hx hb dX11_opens_5 ?_
  refine k_topi (y := nI (1400 * k)) (pk_mul 1400 k) ?_
  refine k_mpi (v := nI (1400 * k)) (ty := .int) C G 16 (by decide) mr_16 fl_X11_179 rfl rfl rfl rfl rfl dX11_opens_6 (fun H locs (G : wd Z A s (mdW Z h ad (upd iv 16 (nI (1400 * k))) av) H locs) => ?_)
  refine lv_aload_n hx hb dX11_opens_9 rfl (lv_at hl 0 rfl) ?_
  refine lv_aload_n hx hb dX11_opens_10 rfl (lv_at hl 0 rfl) ?_
  refine k_mgi (v := nI (1400 * k)) C G 16 (by decide) mr_16 rfl fl_X11_179 rfl dX11_opens_11 ?_
  refine lv_aload_n hx hb dX11_opens_14 rfl (lv_at hl 0 rfl) ?_
  refine k_mga C G 2 (by decide) mr_2 fl_X11_16 rfl dX11_opens_15 ?_
  refine lv_iload_n hx hb dX11_opens_18 rfl (lv_at hl 1 rfl) ?_
  refine k_mil (v := nI o.2.2.length) (i := k) C G 2 (k := 2) (n := 100) mp_2 (by decide) (by omega) ((ho.1 k o hk).2.2.1) dX11_opens_19 ?_
  refine lv_iadd hx hb dX11_opens_20 ?_
  refine k_topi (y := nI (1400 * k + o.2.2.length)) (nI_add (1400 * k) o.2.2.length) ?_
  refine lv_iconst (v := 4) hx hb dX11_opens_21 (by decide) ?_
  refine lv_isub hx hb dX11_opens_22 ?_
  refine k_topi (y := nI (1400 * k + o.2.2.length - 4)) (pk_sub (a := 1400 * k + o.2.2.length) (b := 4) (by omega)) ?_
  refine k_mpi (v := nI (1400 * k + o.2.2.length - 4)) (ty := .int) C G 17 (by decide) mr_17 fl_X11_182 rfl rfl rfl rfl rfl dX11_opens_23 (fun H locs (G : wd Z A s (mdW Z h ad (upd (upd iv 16 (nI (1400 * k))) 17 (nI (1400 * k + o.2.2.length - 4))) av) H locs) => ?_)
  refine lv_aload_n hx hb dX11_opens_26 rfl (lv_at hl 0 rfl) ?_
  refine lv_aload_n hx hb dX11_opens_27 rfl (lv_at hl 0 rfl) ?_
  refine k_mga C G 2 (by decide) mr_2 fl_X11_16 rfl dX11_opens_28 ?_
  refine lv_iload_n hx hb dX11_opens_31 rfl (lv_at hl 1 rfl) ?_
  refine k_mil (v := nI o.2.2.length) (i := k) C G 2 (k := 2) (n := 100) mp_2 (by decide) (by omega) ((ho.1 k o hk).2.2.1) dX11_opens_32 ?_
  refine lv_iconst (v := 4) hx hb dX11_opens_33 (by decide) ?_
  refine lv_icmp_le (tgt := 68) hx hb dX11_opens_34 (by decide) (fun c_34 => ?_) (fun c_34 => ?_)
  · have n_34 := nb_le (a := o.2.2.length) (b := 4) c_34 (by omega) (by omega)
    refine lv_iconst (v := 0) hx hb dX11_opens_68 (by decide) ?_
    refine k_mpi (v := 0) (ty := .boolean) C G 18 (by decide) mr_18 fl_X11_175 rfl rfl rfl rfl rfl dX11_opens_69 (fun H locs (G : wd Z A s (mdW Z h ad (upd (upd (upd iv 16 (nI (1400 * k))) 17 (nI (1400 * k + o.2.2.length - 4))) 18 0) av) H locs) => ?_)
    exact absurd n_34 (by omega)
  · have n_34 := nb_nle (a := o.2.2.length) (b := 4) c_34 (by omega) (by omega)
    refine lv_aload_n hx hb dX11_opens_37 rfl (lv_at hl 0 rfl) ?_
    refine lv_aload_n hx hb dX11_opens_38 rfl (lv_at hl 0 rfl) ?_
    refine k_mga C G 3 (by decide) mr_3 fl_X11_20 rfl dX11_opens_39 ?_
    refine lv_aload_n hx hb dX11_opens_42 rfl (lv_at hl 0 rfl) ?_
    refine k_mgi (v := nI (1400 * k)) C G 16 (by decide) mr_16 rfl fl_X11_179 rfl dX11_opens_43 ?_
    refine lv_aload_n hx hb dX11_opens_46 rfl (lv_at hl 0 rfl) ?_
    refine k_mgi (v := nI (1400 * k + o.2.2.length - 4)) C G 17 (by decide) mr_17 rfl fl_X11_182 rfl dX11_opens_47 ?_
    refine kcM_i G (krV 3 rfl (As := [.ref (ad 3), .int (nI (1400 * k)), .int (nI (1400 * k + o.2.2.length - 4))]) (rest := [.ref h]) (ci := 12) (CC := RX11) (T := TX11) (N := 61) C G pmN (c_X11_check Z l h ad (upd (upd iv 16 (nI (1400 * k))) 17 (nI (1400 * k + o.2.2.length - 4))) av 3 (1400 * k) (1400 * k + o.2.2.length - 4) 3 140000 rfl (by decide) (by omega) (by omega) _) (gdV ml_X11_157 im_X11_check se_X11_check ii_X11 co_X11_check) (by decide +kernel) ⟨Nat.le_of_ble_eq_true rfl, Nat.le_of_ble_eq_true rfl⟩ rfl 0 rfl hl rfl (Nat.le_of_ble_eq_true rfl) ⟨Nat.le_of_ble_eq_true rfl, Nat.le_of_ble_eq_true rfl⟩ dX11_opens_50) (fun r_50 u H locs hu G => ?_)
    obtain ⟨r_50_e, rfl⟩ := hu
    subst r_50_e
    refine k_topi (y := crc (o.2.2.take (o.2.2.length - 4))) (by rw [show 1400 * k + o.2.2.length - 4 - 1400 * k = o.2.2.length - 4 by omega]; exact mo_crc ho hk) ?_
    refine lv_aload_n hx hb dX11_opens_53 rfl (lv_at hl 0 rfl) ?_
    refine lv_aload_n hx hb dX11_opens_54 rfl (lv_at hl 0 rfl) ?_
    refine k_mgi (v := nI (1400 * k + o.2.2.length - 4)) C G 17 (by decide) mr_17 rfl fl_X11_182 rfl dX11_opens_55 ?_
    refine kcM_i G (krV 1 rfl (As := [.int (nI (1400 * k + o.2.2.length - 4))]) (rest := [.int (crc (o.2.2.take (o.2.2.length - 4))), .ref h]) (ci := 12) (CC := RX11) (T := TX11) (N := 61) C G pmN (c_X11_whole Z l h ad (upd (upd iv 16 (nI (1400 * k))) 17 (nI (1400 * k + o.2.2.length - 4))) av (1400 * k + o.2.2.length - 4) (by omega) _) (gdV ml_X11_187 im_X11_whole se_X11_whole ii_X11 co_X11_whole) (by decide +kernel) ⟨Nat.le_of_ble_eq_true rfl, Nat.le_of_ble_eq_true rfl⟩ rfl 0 rfl hl rfl (Nat.le_of_ble_eq_true rfl) ⟨Nat.le_of_ble_eq_true rfl, Nat.le_of_ble_eq_true rfl⟩ dX11_opens_58) (fun r_58 u H locs hu G => ?_)
    obtain ⟨r_58_e, rfl⟩ := hu
    subst r_58_e
    refine k_topi (y := r4 (fnB o.2.2) (o.2.2.length - 4)) (by rw [show 1400 * k + o.2.2.length - 4 = 1400 * k + (o.2.2.length - 4) by omega]; exact mo_r4 ho hk (by omega)) ?_
    refine lv_icmp_ne (tgt := 68) hx hb dX11_opens_61 (by decide) (fun c_61 => ?_) (fun c_61 => ?_)
    · refine lv_iconst (v := 0) hx hb dX11_opens_68 (by decide) ?_
      refine k_mpi (v := 0) (ty := .boolean) C G 18 (by decide) mr_18 fl_X11_175 rfl rfl rfl rfl rfl dX11_opens_69 (fun H locs (G : wd Z A s (mdW Z h ad (upd (upd (upd iv 16 (nI (1400 * k))) 17 (nI (1400 * k + o.2.2.length - 4))) 18 0) av) H locs) => ?_)
      exact kr_v C G ⟨_, rfl, (((sI.rf.up (by decide) _).up (by decide) _).up (by decide) _), rfl, rfl, Or.inr ⟨c_61, rfl⟩⟩ (Nat.le_of_ble_eq_true rfl) (Nat.le_of_ble_eq_true rfl) dX11_opens_72
    · refine lv_iconst (v := 1) hx hb dX11_opens_64 (by decide) ?_
      refine lv_goto (tgt := 69) hx hb dX11_opens_65 (by decide) ?_
      refine k_mpi (v := 1) (ty := .boolean) C G 18 (by decide) mr_18 fl_X11_175 rfl rfl rfl rfl rfl dX11_opens_69 (fun H locs (G : wd Z A s (mdW Z h ad (upd (upd (upd iv 16 (nI (1400 * k))) 17 (nI (1400 * k + o.2.2.length - 4))) 18 1) av) H locs) => ?_)
      exact kr_v C G ⟨_, rfl, (((sI.rf.up (by decide) _).up (by decide) _).up (by decide) _), rfl, rfl, Or.inl ⟨c_61, rfl⟩⟩ (Nat.le_of_ble_eq_true rfl) (Nat.le_of_ble_eq_true rfl) dX11_opens_72
theorem bs_ext {a b : List Int8} (hl : a.length = b.length) (h : ∀ i, i < b.length → a.getD i 0 = b.getD i 0) : a = b := by
  apply List.ext_getElem hl
  intro i h1 h2
  have := h i h2
  simpa [List.getD_eq_getElem?_getD, h1, h2] using this
set_option maxRecDepth 100000 in
set_option maxHeartbeats 4000000 in
theorem lp_mmade0 {p : Program} {l : Launch} {e : Env} {R : Room} {s : State} {m : MethodId} {args : Array Value} {below : List Frame} {meth : Method} {c : Code} {Z : zT} {A : Nat → Prop} {h : Nat} {ad : Nat → Nat} {iv : ivT} {av : avT} {ob : List obT} {k : Nat} {o : obT} {bs : List Int8} {post : Int32 → va_W → Prop} (C : cx p s m args meth c cX11_isMade 4 (some .boolean) RX11 "isMade") (ho : mo_at av ob) (hl1 : ob.length ≤ 100) (hk : ob[k]? = some o) (hm : mk_at iv av bs) (hbl : bs.length ≤ 1500) {i : Nat} (hp : post 0 (mdW Z h ad iv av)) {H : Heap} {locs : List Loc} {ls : Array Slot} (G : wd Z A s (mdW Z h ad iv av) H locs) (hl : lv_has ls 4 [(3, .int (nI i)), (2, .int 0), (0, .ref h), (1, .int (nI k))]) : W p l e R s m args below meth c H locs 0 0 (MQ below (va_Qi post (mB Z A) A) args s 0 0 A) (F0 m 28 ls []) := by
  have hx := C.1
  have hb := C.2.1
  have hown := C.2.2.2.2.2.1
  have hts := C.2.2.2.2.2.2.1
  refine lv_iload_n hx hb dX11_isMade_28 rfl (lv_at hl 1 rfl) ?_
  refine lv_if_eq (tgt := 73) hx hb dX11_isMade_29 (by decide) (fun c_29 => ?_) (fun c_29 => ?_)
  · have n_29 := nb_eq (a := 0) (b := 0) c_29 (by omega) (by omega)
    refine lv_iload_n hx hb dX11_isMade_73 rfl (lv_at hl 1 rfl) ?_
    exact kr_z C G (by decide) hp (Nat.le_of_ble_eq_true rfl) (Nat.le_of_ble_eq_true rfl) dX11_isMade_74
  · exact absurd c_29 (by decide)
set_option maxRecDepth 100000 in
set_option maxHeartbeats 4000000 in
theorem lp_mmade {p : Program} {l : Launch} {e : Env} {R : Room} {s : State} {m : MethodId} {args : Array Value} {below : List Frame} {meth : Method} {c : Code} {Z : zT} {A : Nat → Prop} {h : Nat} {ad : Nat → Nat} {iv : ivT} {av : avT} {ob : List obT} {k : Nat} {o : obT} {bs : List Int8} {post : Int32 → va_W → Prop} (C : cx p s m args meth c cX11_isMade 4 (some .boolean) RX11 "isMade") (ho : mo_at av ob) (hl1 : ob.length ≤ 100) (hk : ob[k]? = some o) (hm : mk_at iv av bs) (hbl : bs.length ≤ 1500) (hlen : o.2.2.length = bs.length) (hp0 : ¬ o.2.2 = bs → post 0 (mdW Z h ad iv av)) (hp1 : o.2.2 = bs → post 1 (mdW Z h ad iv av)) : ∀ (n i : Nat), i + n = bs.length → (∀ j, j < i → o.2.2.getD j 0 = bs.getD j 0) → ∀ (H : Heap) (locs : List Loc) (ls : Array Slot), wd Z A s (mdW Z h ad iv av) H locs → lv_has ls 4 [(3, .int (nI i)), (2, .int 1), (0, .ref h), (1, .int (nI k))] → W p l e R s m args below meth c H locs 0 0 (MQ below (va_Qi post (mB Z A) A) args s 0 0 A) (F0 m 28 ls []) := by
  have hx := C.1
  have hb := C.2.1
  have hown := C.2.2.2.2.2.1
  have hts := C.2.2.2.2.2.2.1
  have hkl := (List.getElem?_eq_some_iff.mp hk).1
  have hou := (ho.1 k o hk).2.2.2.2.1
  intro n
  induction n with
  | zero =>
    intro i hin hs H locs ls G hl
    refine lv_iload_n hx hb dX11_isMade_28 rfl (lv_at hl 1 rfl) ?_
    refine lv_if_eq (tgt := 73) hx hb dX11_isMade_29 (by decide) (fun c_29 => ?_) (fun c_29 => ?_)
    · exact absurd c_29 (by decide)
    · have n_29 := nb_ne (a := 1) (b := 0) c_29 (by omega) (by omega)
      refine lv_iload_n hx hb dX11_isMade_32 rfl (lv_at hl 0 rfl) ?_
      refine lv_aload_n hx hb dX11_isMade_33 rfl (lv_at hl 2 rfl) ?_
      refine k_mgi (v := nI bs.length) C G 15 (by decide) mr_15 hm.1 fl_X11_153 rfl dX11_isMade_34 ?_
      refine lv_icmp_ge (tgt := 73) hx hb dX11_isMade_37 (by decide) (fun c_37 => ?_) (fun c_37 => ?_)
      · have n_37 := nb_le (a := bs.length) (b := i) c_37 (by omega) (by omega)
        refine lv_iload_n hx hb dX11_isMade_73 rfl (lv_at hl 1 rfl) ?_
        exact kr_z C G (by decide) (hp1 (bs_ext hlen (fun j hj => hs j (by omega)))) (Nat.le_of_ble_eq_true rfl) (Nat.le_of_ble_eq_true rfl) dX11_isMade_74
      · exact absurd (nb_nle (a := bs.length) (b := i) c_37 (by omega) (by omega)) (by omega)
  | succ n ih =>
    intro i hin hs H locs ls G hl
    refine lv_iload_n hx hb dX11_isMade_28 rfl (lv_at hl 1 rfl) ?_
    refine lv_if_eq (tgt := 73) hx hb dX11_isMade_29 (by decide) (fun c_29 => ?_) (fun c_29 => ?_)
    · exact absurd c_29 (by decide)
    · have n_29 := nb_ne (a := 1) (b := 0) c_29 (by omega) (by omega)
      refine lv_iload_n hx hb dX11_isMade_32 rfl (lv_at hl 0 rfl) ?_
      refine lv_aload_n hx hb dX11_isMade_33 rfl (lv_at hl 2 rfl) ?_
      refine k_mgi (v := nI bs.length) C G 15 (by decide) mr_15 hm.1 fl_X11_153 rfl dX11_isMade_34 ?_
      refine lv_icmp_ge (tgt := 73) hx hb dX11_isMade_37 (by decide) (fun c_37 => ?_) (fun c_37 => ?_)
      · exact absurd (nb_le (a := bs.length) (b := i) c_37 (by omega) (by omega)) (by omega)
      · have n_37 := nb_nle (a := bs.length) (b := i) c_37 (by omega) (by omega)
        refine lv_aload_n hx hb dX11_isMade_40 rfl (lv_at hl 2 rfl) ?_
        refine k_mga C G 3 (by decide) mr_3 fl_X11_20 rfl dX11_isMade_41 ?_
        refine lv_sipush (v := 1400) hx hb dX11_isMade_44 (by decide) ?_
        refine lv_iload_n hx hb dX11_isMade_47 rfl (lv_at hl 3 rfl) ?_
        refine lv_imul hx hb dX11_isMade_48 ?_
        refine k_topi (y := nI (1400 * k)) (pk_mul 1400 k) ?_
        refine lv_iload_n hx hb dX11_isMade_49 rfl (lv_at hl 0 rfl) ?_
        refine lv_iadd hx hb dX11_isMade_50 ?_
        refine k_topi (y := nI (1400 * k + i)) (nI_add (1400 * k) i) ?_
        refine k_mbl (v := (o.2.2.getD i 0).toInt32) (i := 1400 * k + i) C G 3 (k := 3) (n := 140000) mp_3 (by decide) (by omega) ((ho.1 k o hk).2.2.2.2.2 i (by omega)) dX11_isMade_51 ?_
        refine lv_aload_n hx hb dX11_isMade_52 rfl (lv_at hl 2 rfl) ?_
        refine k_mga C G 14 (by decide) mr_14 fl_X11_31 rfl dX11_isMade_53 ?_
        refine lv_iload_n hx hb dX11_isMade_56 rfl (lv_at hl 0 rfl) ?_
        refine k_mbl (v := (bs.getD i 0).toInt32) (i := i) C G 4 (k := 14) (n := 1500) mp_14 (by decide) (by omega) (hm.2.1 i (by omega)) dX11_isMade_57 ?_
        refine lv_icmp_ne (tgt := 65) hx hb dX11_isMade_58 (by decide) (fun c_58 => ?_) (fun c_58 => ?_)
        · refine lv_iconst (v := 0) hx hb dX11_isMade_65 (by decide) ?_
          refine lv_istore_n (lv' := [(2, .int 0), (3, .int (nI i)), (0, .ref h), (1, .int (nI k))]) hx hb dX11_isMade_66 rfl hl (by decide) rfl (fun ls hl => ?_)
          refine lv_iinc (v := nI (i + 1)) (lv' := [(3, .int (nI (i + 1))), (2, .int 0), (0, .ref h), (1, .int (nI k))]) hx hb dX11_isMade_67 hl (k := 1) rfl (nI_1 _) (by decide) rfl (fun ls hl => ?_)
          refine lv_goto (tgt := 28) hx hb dX11_isMade_70 (by decide) ?_
          exact lp_mmade0 C ho hl1 hk hm hbl (hp0 (fun z => c_58 (by rw [z]))) G (lv_sub hl [0, 1, 2, 3] rfl)
        · refine lv_iconst (v := 1) hx hb dX11_isMade_61 (by decide) ?_
          refine lv_goto (tgt := 66) hx hb dX11_isMade_62 (by decide) ?_
          refine lv_istore_n (lv' := [(2, .int 1), (3, .int (nI i)), (0, .ref h), (1, .int (nI k))]) hx hb dX11_isMade_66 rfl hl (by decide) rfl (fun ls hl => ?_)
          refine lv_iinc (v := nI (i + 1)) (lv' := [(3, .int (nI (i + 1))), (2, .int 1), (0, .ref h), (1, .int (nI k))]) hx hb dX11_isMade_67 hl (k := 1) rfl (nI_1 _) (by decide) rfl (fun ls hl => ?_)
          refine lv_goto (tgt := 28) hx hb dX11_isMade_70 (by decide) ?_
          exact ih (i + 1) (by omega) (fun j hj => by
            by_cases e : j = i
            · subst e; exact i8_inj c_58
            · exact hs j (by omega)) _ _ _ G (lv_sub hl [0, 1, 2, 3] rfl)
set_option maxRecDepth 100000 in
set_option maxHeartbeats 4000000 in
theorem c_X11_isMade (Z : zT) (l : Launch) (h : Nat) (ad : Nat → Nat) (iv : ivT) (av : avT) (ob : List obT) (k : Nat) (o : obT) (bs : List Int8) (g : Int32) (ho : mo_at av ob) (hl1 : ob.length ≤ 100) (hk : ob[k]? = some o) (hm : mk_at iv av bs) (hbl : bs.length ≤ 1500) (hgv : iv 18 = g) (hg : g = 0 ∨ g = 1) : Ki Z l yX11_isMade cX11_isMade 4 (some .boolean) ({ frames := 0, cells := 0, slots := 0, locals := 0 }) [.ref h, .int (nI k)] (mdW Z h ad iv av) (fun r u => r = (if g = 1 ∧ o.2.2 = bs then 1 else 0) ∧ u = mdW Z h ad iv av) := by
  intro sz
  refine Met.ofK (cc := cX11_isMade) (maxL := 4) (ret := (some .boolean)) (by decide) (Nat.le_of_ble_eq_true rfl) ?_
  intro p e s m below meth c ls C G hl
  generalize va_A _ sz = A at G ⊢
  have hx := C.1
  have hb := C.2.1
  have hown := C.2.2.2.2.2.1
  have hts := C.2.2.2.2.2.2.1
  have hkl := (List.getElem?_eq_some_iff.mp hk).1
  have hou := (ho.1 k o hk).2.2.2.2.1
  refine lv_aload_n hx hb dX11_isMade_0 rfl (lv_at hl 0 rfl) ?_
  refine k_mgi (v := g) C G 18 (by decide) mr_18 hgv fl_X11_175 rfl dX11_isMade_1 ?_
  refine lv_if_eq (tgt := 24) hx hb dX11_isMade_4 (by decide) (fun c_4 => ?_) (fun c_4 => ?_)
  · refine lv_iconst (v := 0) hx hb dX11_isMade_24 (by decide) ?_
    refine lv_istore_n (lv' := [(2, .int 0), (0, .ref h), (1, .int (nI k))]) hx hb dX11_isMade_25 rfl hl (by decide) rfl (fun ls hl => ?_)
    refine lv_iconst (v := 0) hx hb dX11_isMade_26 (by decide) ?_
    refine k_topi (y := nI 0) (by rfl) ?_
    refine lv_istore_n (lv' := [(3, .int (nI 0)), (2, .int 0), (0, .ref h), (1, .int (nI k))]) hx hb dX11_isMade_27 rfl hl (by decide) rfl (fun ls hl => ?_)
    exact lp_mmade0 C ho hl1 hk hm hbl ⟨(if_neg (fun q => absurd (q.1.symm.trans c_4) (by decide))).symm, rfl⟩ G (lv_sub hl [0, 1, 2, 3] rfl)
  · refine lv_aload_n hx hb dX11_isMade_7 rfl (lv_at hl 0 rfl) ?_
    refine k_mga C G 2 (by decide) mr_2 fl_X11_16 rfl dX11_isMade_8 ?_
    refine lv_iload_n hx hb dX11_isMade_11 rfl (lv_at hl 1 rfl) ?_
    refine k_mil (v := nI o.2.2.length) (i := k) C G 2 (k := 2) (n := 100) mp_2 (by decide) (by omega) ((ho.1 k o hk).2.2.1) dX11_isMade_12 ?_
    refine lv_aload_n hx hb dX11_isMade_13 rfl (lv_at hl 0 rfl) ?_
    refine k_mgi (v := nI bs.length) C G 15 (by decide) mr_15 hm.1 fl_X11_153 rfl dX11_isMade_14 ?_
    refine lv_icmp_ne (tgt := 24) hx hb dX11_isMade_17 (by decide) (fun c_17 => ?_) (fun c_17 => ?_)
    · have n_17 := nb_ne (a := o.2.2.length) (b := bs.length) c_17 (by omega) (by omega)
      refine lv_iconst (v := 0) hx hb dX11_isMade_24 (by decide) ?_
      refine lv_istore_n (lv' := [(2, .int 0), (0, .ref h), (1, .int (nI k))]) hx hb dX11_isMade_25 rfl hl (by decide) rfl (fun ls hl => ?_)
      refine lv_iconst (v := 0) hx hb dX11_isMade_26 (by decide) ?_
      refine k_topi (y := nI 0) (by rfl) ?_
      refine lv_istore_n (lv' := [(3, .int (nI 0)), (2, .int 0), (0, .ref h), (1, .int (nI k))]) hx hb dX11_isMade_27 rfl hl (by decide) rfl (fun ls hl => ?_)
      exact lp_mmade0 C ho hl1 hk hm hbl ⟨(if_neg (fun q => n_17 (by rw [q.2]))).symm, rfl⟩ G (lv_sub hl [0, 1, 2, 3] rfl)
    · have n_17 := nb_eq (a := o.2.2.length) (b := bs.length) c_17 (by omega) (by omega)
      refine lv_iconst (v := 1) hx hb dX11_isMade_20 (by decide) ?_
      refine lv_goto (tgt := 25) hx hb dX11_isMade_21 (by decide) ?_
      refine lv_istore_n (lv' := [(2, .int 1), (0, .ref h), (1, .int (nI k))]) hx hb dX11_isMade_25 rfl hl (by decide) rfl (fun ls hl => ?_)
      refine lv_iconst (v := 0) hx hb dX11_isMade_26 (by decide) ?_
      refine k_topi (y := nI 0) (by rfl) ?_
      refine lv_istore_n (lv' := [(3, .int (nI 0)), (2, .int 1), (0, .ref h), (1, .int (nI k))]) hx hb dX11_isMade_27 rfl hl (by decide) rfl (fun ls hl => ?_)
      exact lp_mmade C ho hl1 hk hm hbl n_17 (fun z => ⟨(if_neg (fun q => z q.2)).symm, rfl⟩) (fun z => ⟨(if_pos ⟨hg.resolve_left c_4, z⟩).symm, rfl⟩) bs.length 0 (by omega) (fun j hj => absurd hj (by omega)) _ _ _ G (lv_sub hl [0, 1, 2, 3] rfl)
theorem vp_by {x : Int32} (h : fits .byte (.int x) = true) : vp_nar .byte x = x := by
  have h1 := pk_vb x
  have h2 := fit_byte h
  rw [h2] at h1; exact h1
set_option maxRecDepth 100000 in
set_option maxHeartbeats 4000000 in
theorem lp_mput {p : Program} {l : Launch} {e : Env} {R : Room} {s : State} {m : MethodId} {args : Array Value} {below : List Frame} {meth : Method} {c : Code} {Z : zT} {A : Nat → Prop} {h : Nat} {ad : Nat → Nat} {iv : ivT} {av : avT} {ob : List obT} {bs : List Int8} {x y : Int32} {post : Int32 → va_W → Prop} (C : cx p s m args meth c cX11_put 4 (some .boolean) RX11 "put") (h4 : iv 4 = nI ob.length) (h5 : iv 5 = nI (oSz ob)) (h15 : iv 15 = nI bs.length) (hby : by_at (av 14) bs) (hat : mo_at av ob) (hlt : ob.length < 100) (h10 : 10 ≤ bs.length) (h14 : bs.length ≤ 1400) (hp : ∀ iv2 av2, (4 : Nat) = 4 → sI [4, 5] iv iv2 → sA [0, 1, 2, 3] av av2 → iv2 4 = nI (ob ++ [(x, y, bs)]).length → iv2 5 = nI (oSz (ob ++ [(x, y, bs)])) → mo_at av2 (ob ++ [(x, y, bs)]) → post 1 (mdW Z h ad iv2 av2)) : ∀ (n i : Nat) (B : Nat → Int32), i + n = bs.length → (∀ j, j < 1400 * ob.length → B j = av 3 j) → (∀ j, j < i → B (1400 * ob.length + j) = av 14 j) → (∀ j, fits .byte (.int (B j)) = true) → ∀ (H : Heap) (locs : List Loc) (ls : Array Slot), wd Z A s (mdW Z h ad iv (ua (ua (ua (ua av 0 (upd (av 0) ob.length x)) 1 (upd (av 1) ob.length y)) 2 (upd (av 2) ob.length (nI bs.length))) 3 B)) H locs → lv_has ls 4 [(3, .int (nI i)), (0, .ref h), (1, .int x), (2, .int y)] → W p l e R s m args below meth c H locs 0 0 (MQ below (va_Qi post (mB Z A) A) args s 0 0 A) (F0 m 71 ls []) := by
  have hx := C.1
  have hb := C.2.1
  have hown := C.2.2.2.2.2.1
  have hts := C.2.2.2.2.2.2.1
  have hoz := oSz_le hat
  intro n
  induction n with
  | zero =>
    intro i B hin hB1 hB2 hB3 H locs ls G hl
    refine lv_iload_n hx hb dX11_put_71 rfl (lv_at hl 0 rfl) ?_
    refine lv_aload_n hx hb dX11_put_72 rfl (lv_at hl 1 rfl) ?_
    refine k_mgi (v := nI bs.length) C G 15 (by decide) mr_15 h15 fl_X11_153 rfl dX11_put_73 ?_
    refine lv_icmp_ge (tgt := 106) hx hb dX11_put_76 (by decide) (fun c_76 => ?_) (fun c_76 => ?_)
    · have n_76 := nb_le (a := bs.length) (b := i) c_76 (by omega) (by omega)
      refine lv_aload_n hx hb dX11_put_106 rfl (lv_at hl 1 rfl) ?_
      refine lv_dup hx hb dX11_put_107 rfl ?_
      refine k_mgi (v := nI (oSz ob)) C G 5 (by decide) mr_5 h5 fl_X11_169 rfl dX11_put_108 ?_
      refine lv_aload_n hx hb dX11_put_111 rfl (lv_at hl 1 rfl) ?_
      refine k_mgi (v := nI bs.length) C G 15 (by decide) mr_15 h15 fl_X11_153 rfl dX11_put_112 ?_
      refine lv_iadd hx hb dX11_put_115 ?_
      refine k_topi (y := nI (oSz ob + bs.length)) (nI_add (oSz ob) bs.length) ?_
      refine k_mpi (v := nI (oSz ob + bs.length)) (ty := .int) C G 5 (by decide) mr_5 fl_X11_169 rfl rfl rfl rfl rfl dX11_put_116 (fun H locs (G : wd Z A s (mdW Z h ad (upd iv 5 (nI (oSz ob + bs.length))) (ua (ua (ua (ua av 0 (upd (av 0) ob.length x)) 1 (upd (av 1) ob.length y)) 2 (upd (av 2) ob.length (nI bs.length))) 3 B)) H locs) => ?_)
      refine lv_aload_n hx hb dX11_put_119 rfl (lv_at hl 1 rfl) ?_
      refine lv_dup hx hb dX11_put_120 rfl ?_
      refine k_mgi (v := nI ob.length) C G 4 (by decide) mr_4 h4 fl_X11_150 rfl dX11_put_121 ?_
      refine lv_iconst (v := 1) hx hb dX11_put_124 (by decide) ?_
      refine lv_iadd hx hb dX11_put_125 ?_
      refine k_topi (y := nI (ob.length + 1)) (nI_add ob.length 1) ?_
      refine k_mpi (v := nI (ob.length + 1)) (ty := .int) C G 4 (by decide) mr_4 fl_X11_150 rfl rfl rfl rfl rfl dX11_put_126 (fun H locs (G : wd Z A s (mdW Z h ad (upd (upd iv 5 (nI (oSz ob + bs.length))) 4 (nI (ob.length + 1))) (ua (ua (ua (ua av 0 (upd (av 0) ob.length x)) 1 (upd (av 1) ob.length y)) 2 (upd (av 2) ob.length (nI bs.length))) 3 B)) H locs) => ?_)
      refine lv_iconst (v := 1) hx hb dX11_put_129 (by decide) ?_
      exact kr_z C G (by decide) (hp _ _ rfl (sI.rf.up (by decide) _ |>.up (by decide) _) (((((sA.rf.up (by decide) _).up (by decide) _).up (by decide) _).up (by decide) _)) (by rw [List.length_append]; rfl) (by rw [oSz_app]; rfl) (hat.put hlt h10 h14 rfl rfl rfl hB1 (fun j hj => by rw [show (ua (ua (ua (ua av 0 (upd (av 0) ob.length x)) 1 (upd (av 1) ob.length y)) 2 (upd (av 2) ob.length (nI bs.length))) 3 B) 3 = B from rfl, hB2 j (by omega)]; exact hby.1 j hj) hB3)) (Nat.le_of_ble_eq_true rfl) (Nat.le_of_ble_eq_true rfl) dX11_put_130
    · exact absurd (nb_nle (a := bs.length) (b := i) c_76 (by omega) (by omega)) (by omega)
  | succ n ih =>
    intro i B hin hB1 hB2 hB3 H locs ls G hl
    refine lv_iload_n hx hb dX11_put_71 rfl (lv_at hl 0 rfl) ?_
    refine lv_aload_n hx hb dX11_put_72 rfl (lv_at hl 1 rfl) ?_
    refine k_mgi (v := nI bs.length) C G 15 (by decide) mr_15 h15 fl_X11_153 rfl dX11_put_73 ?_
    refine lv_icmp_ge (tgt := 106) hx hb dX11_put_76 (by decide) (fun c_76 => ?_) (fun c_76 => ?_)
    · exact absurd (nb_le (a := bs.length) (b := i) c_76 (by omega) (by omega)) (by omega)
    · have n_76 := nb_nle (a := bs.length) (b := i) c_76 (by omega) (by omega)
      refine lv_aload_n hx hb dX11_put_79 rfl (lv_at hl 1 rfl) ?_
      refine k_mga C G 3 (by decide) mr_3 fl_X11_20 rfl dX11_put_80 ?_
      refine lv_sipush (v := 1400) hx hb dX11_put_83 (by decide) ?_
      refine lv_aload_n hx hb dX11_put_86 rfl (lv_at hl 1 rfl) ?_
      refine k_mgi (v := nI ob.length) C G 4 (by decide) mr_4 h4 fl_X11_150 rfl dX11_put_87 ?_
      refine lv_imul hx hb dX11_put_90 ?_
      refine k_topi (y := nI (1400 * ob.length)) (pk_mul 1400 ob.length) ?_
      refine lv_iload_n hx hb dX11_put_91 rfl (lv_at hl 0 rfl) ?_
      refine lv_iadd hx hb dX11_put_92 ?_
      refine k_topi (y := nI (1400 * ob.length + i)) (nI_add (1400 * ob.length) i) ?_
      refine lv_aload_n hx hb dX11_put_93 rfl (lv_at hl 1 rfl) ?_
      refine k_mga C G 14 (by decide) mr_14 fl_X11_31 rfl dX11_put_94 ?_
      refine lv_iload_n hx hb dX11_put_97 rfl (lv_at hl 0 rfl) ?_
      refine k_mbl (v := (av 14) i) (i := i) C G 4 (k := 14) (n := 1500) mp_14 (by decide) (by omega) rfl dX11_put_98 ?_
      refine k_mbs (x := (av 14) i) (i := 1400 * ob.length + i) C G 3 (k := 3) (n := 140000) mp_3 (by decide) (by omega) (vp_by (hby.2 i)) dX11_put_99 (fun H locs (G : wd Z A s (mdW Z h ad iv (ua (ua (ua (ua (ua av 0 (upd (av 0) ob.length x)) 1 (upd (av 1) ob.length y)) 2 (upd (av 2) ob.length (nI bs.length))) 3 B) 3 (upd B (1400 * ob.length + i) ((av 14) i)))) H locs) => ?_)
      refine lv_iinc (v := nI (i + 1)) (lv' := [(3, .int (nI (i + 1))), (0, .ref h), (1, .int x), (2, .int y)]) hx hb dX11_put_100 hl (k := 0) rfl (nI_1 _) (by decide) rfl (fun ls hl => ?_)
      refine lv_goto (tgt := 71) hx hb dX11_put_103 (by decide) ?_
      have G : wd Z A s (mdW Z h ad iv (ua (ua (ua (ua av 0 (upd (av 0) ob.length x)) 1 (upd (av 1) ob.length y)) 2 (upd (av 2) ob.length (nI bs.length))) 3 (upd B (1400 * ob.length + i) (av 14 i)))) H locs := by
        have e9 : (ua (ua (ua (ua (ua av 0 (upd (av 0) ob.length x)) 1 (upd (av 1) ob.length y)) 2 (upd (av 2) ob.length (nI bs.length))) 3 B) 3 (upd B (1400 * ob.length + i) (av 14 i))) = (ua (ua (ua (ua av 0 (upd (av 0) ob.length x)) 1 (upd (av 1) ob.length y)) 2 (upd (av 2) ob.length (nI bs.length))) 3 (upd B (1400 * ob.length + i) (av 14 i))) := by
          funext j; unfold ua; by_cases e : j = 3
          · rw [if_pos e, if_pos e]
          · rw [if_neg e, if_neg e]; rw [if_neg e]
        rw [← e9]; exact G
      exact ih (i + 1) (upd B (1400 * ob.length + i) (av 14 i)) (by omega) (fun j hj => by rw [pk_un (by omega)]; exact hB1 j hj) (fun j hj => by
        by_cases e : j = i
        · subst e; exact pk_us
        · rw [pk_un (by omega)]; exact hB2 j (by omega)) (fun j => by
        by_cases e : j = 1400 * ob.length + i
        · subst e; rw [pk_us]; exact hby.2 i
        · rw [pk_un e]; exact hB3 j) _ _ _ G (lv_sub hl [0, 1, 2, 3] rfl)
set_option maxRecDepth 100000 in
set_option maxHeartbeats 4000000 in
theorem c_X11_put (Z : zT) (l : Launch) (h : Nat) (ad : Nat → Nat) (iv : ivT) (av : avT) (ob : List obT) (bs : List Int8) (x y ro : Int32) (ho : mo_ok iv av ob) (hm : mk_at iv av bs) (h10 : 10 ≤ bs.length) (h14 : bs.length ≤ 1400) (h6 : iv 6 = ro) : Ki Z l yX11_put cX11_put 4 (some .boolean) ({ frames := 1, cells := 0, slots := 0, locals := 40 }) [.ref h, .int x, .int y] (mdW Z h ad iv av) (fun r u => ∃ iv2 av2, u = mdW Z h ad iv2 av2 ∧ (((mFi ob x y = none ∧ ob.length < 100 ∧ nI (oSz ob + bs.length) ≤ ro) ∧ r = 1 ∧ mo_ok iv2 av2 (ob ++ [(x, y, bs)]) ∧ sI [4, 5] iv iv2 ∧ sA [0, 1, 2, 3] av av2) ∨ (¬ (mFi ob x y = none ∧ ob.length < 100 ∧ nI (oSz ob + bs.length) ≤ ro) ∧ r = 0 ∧ iv2 = iv ∧ av2 = av))) := by
  intro sz
  refine Met.ofK (cc := cX11_put) (maxL := 4) (ret := (some .boolean)) (by decide) (Nat.le_of_ble_eq_true rfl) ?_
  intro p e s m below meth c ls C G hl
  generalize va_A _ sz = A at G ⊢
  have hx := C.1
  have hb := C.2.1
  have hown := C.2.2.2.2.2.1
  have hts := C.2.2.2.2.2.2.1
  have h4 := ho.1
  have h5 := ho.2.2.1
  have h15 := hm.1
  have hob := ho.2.1
  have hoz := oSz_le ho.2.2.2
  refine lv_aload_n hx hb dX11_put_0 rfl (lv_at hl 0 rfl) ?_
  refine lv_iload_n hx hb dX11_put_1 rfl (lv_at hl 1 rfl) ?_
  refine lv_iload_n hx hb dX11_put_2 rfl (lv_at hl 2 rfl) ?_
  refine kcM_i G (krV 2 rfl (As := [.int x, .int y]) (rest := []) (ci := 12) (CC := RX11) (T := TX11) (N := 61) C G pmN (c_X11_place Z l h ad iv av ob x y ho _) (gdV ml_X11_165 im_X11_place se_X11_place ii_X11 co_X11_place) (by decide +kernel) ⟨Nat.le_of_ble_eq_true rfl, Nat.le_of_ble_eq_true rfl⟩ rfl 0 rfl hl rfl (Nat.le_of_ble_eq_true rfl) ⟨Nat.le_of_ble_eq_true rfl, Nat.le_of_ble_eq_true rfl⟩ dX11_put_3) (fun r_3 u H locs hu G => ?_)
  obtain ⟨r_3_e, rfl⟩ := hu
  subst r_3_e
  refine lv_if_ge (tgt := 34) hx hb dX11_put_6 (by decide) (fun c_6 => ?_) (fun c_6 => ?_)
  · refine lv_iconst (v := 0) hx hb dX11_put_34 (by decide) ?_
    exact kr_z C G (by decide) ⟨iv, av, rfl, Or.inr ⟨fun z => absurd c_6 (by rw [z.1]; decide), rfl, rfl, rfl⟩⟩ (Nat.le_of_ble_eq_true rfl) (Nat.le_of_ble_eq_true rfl) dX11_put_35
  · refine lv_aload_n hx hb dX11_put_9 rfl (lv_at hl 0 rfl) ?_
    refine k_mgi (v := nI ob.length) C G 4 (by decide) mr_4 h4 fl_X11_150 rfl dX11_put_10 ?_
    refine lv_bipush (v := 100) hx hb dX11_put_13 (by decide) ?_
    refine lv_icmp_eq (tgt := 34) hx hb dX11_put_15 (by decide) (fun c_15 => ?_) (fun c_15 => ?_)
    · have n_15 := nb_eq (a := ob.length) (b := 100) c_15 (by omega) (by omega)
      refine lv_iconst (v := 0) hx hb dX11_put_34 (by decide) ?_
      exact kr_z C G (by decide) ⟨iv, av, rfl, Or.inr ⟨fun z => absurd z.2.1 (by omega), rfl, rfl, rfl⟩⟩ (Nat.le_of_ble_eq_true rfl) (Nat.le_of_ble_eq_true rfl) dX11_put_35
    · have n_15 := nb_ne (a := ob.length) (b := 100) c_15 (by omega) (by omega)
      refine lv_aload_n hx hb dX11_put_18 rfl (lv_at hl 0 rfl) ?_
      refine k_mgi (v := nI (oSz ob)) C G 5 (by decide) mr_5 h5 fl_X11_169 rfl dX11_put_19 ?_
      refine lv_aload_n hx hb dX11_put_22 rfl (lv_at hl 0 rfl) ?_
      refine k_mgi (v := nI bs.length) C G 15 (by decide) mr_15 h15 fl_X11_153 rfl dX11_put_23 ?_
      refine lv_iadd hx hb dX11_put_26 ?_
      refine k_topi (y := nI (oSz ob + bs.length)) (nI_add (oSz ob) bs.length) ?_
      refine lv_aload_n hx hb dX11_put_27 rfl (lv_at hl 0 rfl) ?_
      refine k_mgi (v := ro) C G 6 (by decide) mr_6 h6 fl_X11_24 rfl dX11_put_28 ?_
      refine lv_icmp_le (tgt := 36) hx hb dX11_put_31 (by decide) (fun c_31 => ?_) (fun c_31 => ?_)
      · refine lv_aload_n hx hb dX11_put_36 rfl (lv_at hl 0 rfl) ?_
        refine k_mga C G 0 (by decide) mr_0 fl_X11_7 rfl dX11_put_37 ?_
        refine lv_aload_n hx hb dX11_put_40 rfl (lv_at hl 0 rfl) ?_
        refine k_mgi (v := nI ob.length) C G 4 (by decide) mr_4 h4 fl_X11_150 rfl dX11_put_41 ?_
        refine lv_iload_n hx hb dX11_put_44 rfl (lv_at hl 1 rfl) ?_
        refine k_mis (x := x) (i := ob.length) C G 0 (k := 0) (n := 100) mp_0 (by decide) (by omega) dX11_put_45 (fun H locs (G : wd Z A s (mdW Z h ad iv (ua av 0 (upd (av 0) ob.length x))) H locs) => ?_)
        refine lv_aload_n hx hb dX11_put_46 rfl (lv_at hl 0 rfl) ?_
        refine k_mga C G 1 (by decide) mr_1 fl_X11_13 rfl dX11_put_47 ?_
        refine lv_aload_n hx hb dX11_put_50 rfl (lv_at hl 0 rfl) ?_
        refine k_mgi (v := nI ob.length) C G 4 (by decide) mr_4 h4 fl_X11_150 rfl dX11_put_51 ?_
        refine lv_iload_n hx hb dX11_put_54 rfl (lv_at hl 2 rfl) ?_
        refine k_mis (x := y) (i := ob.length) C G 1 (k := 1) (n := 100) mp_1 (by decide) (by omega) dX11_put_55 (fun H locs (G : wd Z A s (mdW Z h ad iv (ua (ua av 0 (upd (av 0) ob.length x)) 1 (upd (av 1) ob.length y))) H locs) => ?_)
        refine lv_aload_n hx hb dX11_put_56 rfl (lv_at hl 0 rfl) ?_
        refine k_mga C G 2 (by decide) mr_2 fl_X11_16 rfl dX11_put_57 ?_
        refine lv_aload_n hx hb dX11_put_60 rfl (lv_at hl 0 rfl) ?_
        refine k_mgi (v := nI ob.length) C G 4 (by decide) mr_4 h4 fl_X11_150 rfl dX11_put_61 ?_
        refine lv_aload_n hx hb dX11_put_64 rfl (lv_at hl 0 rfl) ?_
        refine k_mgi (v := nI bs.length) C G 15 (by decide) mr_15 h15 fl_X11_153 rfl dX11_put_65 ?_
        refine k_mis (x := nI bs.length) (i := ob.length) C G 2 (k := 2) (n := 100) mp_2 (by decide) (by omega) dX11_put_68 (fun H locs (G : wd Z A s (mdW Z h ad iv (ua (ua (ua av 0 (upd (av 0) ob.length x)) 1 (upd (av 1) ob.length y)) 2 (upd (av 2) ob.length (nI bs.length)))) H locs) => ?_)
        refine lv_iconst (v := 0) hx hb dX11_put_69 (by decide) ?_
        refine k_topi (y := nI 0) (by rfl) ?_
        refine lv_istore_n (lv' := [(3, .int (nI 0)), (0, .ref h), (1, .int x), (2, .int y)]) hx hb dX11_put_70 rfl hl (by decide) rfl (fun ls hl => ?_)
        have hno : mFi ob x y = none := by
          cases hq : mFi ob x y with
          | none => rfl
          | some q => rw [hq] at c_6; exact absurd (show 0 ≤ nI q from nI_pos' (by have := mFi_lt hq; omega)) c_6
        have G : wd Z A s (mdW Z h ad iv (ua (ua (ua (ua av 0 (upd (av 0) ob.length x)) 1 (upd (av 1) ob.length y)) 2 (upd (av 2) ob.length (nI bs.length))) 3 (av 3))) H locs := by
          have e9 : (ua (ua (ua av 0 (upd (av 0) ob.length x)) 1 (upd (av 1) ob.length y)) 2 (upd (av 2) ob.length (nI bs.length))) = (ua (ua (ua (ua av 0 (upd (av 0) ob.length x)) 1 (upd (av 1) ob.length y)) 2 (upd (av 2) ob.length (nI bs.length))) 3 (av 3)) := by
            funext j; unfold ua; by_cases e : j = 3
            · subst e; rfl
            · rw [if_neg e]
          rw [← e9]; exact G
        exact lp_mput C h4 h5 h15 hm.2 ho.2.2.2 (by omega) h10 h14 (fun iv2 av2 _ a1 a2 a3 a4 a5 => ⟨iv2, av2, rfl, Or.inl ⟨⟨hno, by omega, c_31⟩, rfl, ⟨a3, by rw [List.length_append]; simp only [List.length_singleton]; omega, a4, a5⟩, a1, a2⟩⟩) bs.length 0 (av 3) (by omega) (fun _ _ => rfl) (fun j hj => absurd hj (by omega)) ho.2.2.2.2 _ _ _ G (lv_sub hl [0, 1, 2, 3] rfl)
      · refine lv_iconst (v := 0) hx hb dX11_put_34 (by decide) ?_
        exact kr_z C G (by decide) ⟨iv, av, rfl, Or.inr ⟨fun z => c_31 z.2.2, rfl, rfl, rfl⟩⟩ (Nat.le_of_ble_eq_true rfl) (Nat.le_of_ble_eq_true rfl) dX11_put_35
set_option maxRecDepth 100000 in
set_option maxHeartbeats 4000000 in
theorem lp_mgoes {p : Program} {l : Launch} {e : Env} {R : Room} {s : State} {m : MethodId} {args : Array Value} {below : List Frame} {meth : Method} {c : Code} {Z : zT} {A : Nat → Prop} {h : Nat} {ad : Nat → Nat} {iv : ivT} {av : avT} {ob : List obT} {k : Nat} {o q : obT} {vc : Int32} {post : va_W → Prop} (C : cx p s m args meth c cX11_goes 3 none RX11 "goes") (h12 : iv 12 = vc) (hat : mo_at av ob) (hob : ob.length ≤ 100) (hkl : k < ob.length) (hq : ob[ob.length - 1]? = some q) (hsz : oSz ob - o.2.2.length = oSz (swR ob k)) (hp : ∀ iv2 av2, sI [4, 5, 12] iv iv2 → sA [0, 1, 2, 3] av av2 → iv2 4 = nI (swR ob k).length → iv2 5 = nI (oSz (swR ob k)) → iv2 12 = vc + 1 → mo_at av2 (swR ob k) → post (mdW Z h ad iv2 av2)) : ∀ (n i : Nat) (B : Nat → Int32), i + n = q.2.2.length → (∀ j, (j < 1400 * k ∨ 1400 * k + i ≤ j) → B j = av 3 j) → (∀ j, j < i → B (1400 * k + j) = av 3 (1400 * (ob.length - 1) + j)) → (∀ j, fits .byte (.int (B j)) = true) → ∀ (H : Heap) (locs : List Loc) (ls : Array Slot), wd Z A s (mdW Z h ad (upd (upd iv 5 (nI (oSz ob - o.2.2.length))) 4 (nI (ob.length - 1))) (ua (ua (ua (ua av 0 (upd (av 0) k q.1)) 1 (upd (av 1) k q.2.1)) 2 (upd (av 2) k (nI q.2.2.length))) 3 B)) H locs → lv_has ls 3 [(2, .int (nI i)), (0, .ref h), (1, .int (nI k))] → W p l e R s m args below meth c H locs 0 0 (MQ below (va_Qv post (mB Z A) A) args s 0 0 A) (F0 m 72 ls []) := by
  have hx := C.1
  have hb := C.2.1
  have hown := C.2.2.2.2.2.1
  have hts := C.2.2.2.2.2.2.1
  have hql := (hat.1 _ q hq).2.2.2.2.1
  have hoz := oSz_le hat
  intro n
  induction n with
  | zero =>
    intro i B hin hB1 hB2 hB3 H locs ls G hl
    refine lv_iload_n hx hb dX11_goes_72 rfl (lv_at hl 0 rfl) ?_
    refine lv_aload_n hx hb dX11_goes_73 rfl (lv_at hl 1 rfl) ?_
    refine k_mga C G 2 (by decide) mr_2 fl_X11_16 rfl dX11_goes_74 ?_
    refine lv_iload_n hx hb dX11_goes_77 rfl (lv_at hl 2 rfl) ?_
    refine k_mil (v := nI q.2.2.length) (i := k) C G 2 (k := 2) (n := 100) mp_2 (by decide) (by omega) pk_us dX11_goes_78 ?_
    refine lv_icmp_ge (tgt := 115) hx hb dX11_goes_79 (by decide) (fun c_79 => ?_) (fun c_79 => ?_)
    · have n_79 := nb_le (a := q.2.2.length) (b := i) c_79 (by omega) (by omega)
      refine lv_aload_n hx hb dX11_goes_115 rfl (lv_at hl 1 rfl) ?_
      refine lv_dup hx hb dX11_goes_116 rfl ?_
      refine k_mgi (v := vc) C G 12 (by decide) mr_12 h12 fl_X11_172 rfl dX11_goes_117 ?_
      refine lv_iconst (v := 1) hx hb dX11_goes_120 (by decide) ?_
      refine lv_iadd hx hb dX11_goes_121 ?_
      refine k_mpi (v := vc + 1) (ty := .int) C G 12 (by decide) mr_12 fl_X11_172 rfl rfl rfl rfl rfl dX11_goes_122 (fun H locs (G : wd Z A s (mdW Z h ad (upd (upd (upd iv 5 (nI (oSz ob - o.2.2.length))) 4 (nI (ob.length - 1))) 12 (vc + 1)) (ua (ua (ua (ua av 0 (upd (av 0) k q.1)) 1 (upd (av 1) k q.2.1)) 2 (upd (av 2) k (nI q.2.2.length))) 3 B)) H locs) => ?_)
      exact kr_v C G (hp _ _ (((sI.rf.up (by decide) _).up (by decide) _).up (by decide) _) ((((sA.rf.up (by decide) _).up (by decide) _).up (by decide) _).up (by decide) _) (by rw [swR_len]; rfl) (by rw [← hsz]; rfl) rfl (hat.del hkl hq rfl rfl rfl (fun j hj => hB1 j (by omega)) (fun j hj => by rw [show (ua (ua (ua (ua av 0 (upd (av 0) k q.1)) 1 (upd (av 1) k q.2.1)) 2 (upd (av 2) k (nI q.2.2.length))) 3 B) 3 = B from rfl, hB2 j (by omega)]; exact (hat.1 _ q hq).2.2.2.2.2 j hj) hB3)) (Nat.le_of_ble_eq_true rfl) (Nat.le_of_ble_eq_true rfl) dX11_goes_125
    · exact absurd (nb_nle (a := q.2.2.length) (b := i) c_79 (by omega) (by omega)) (by omega)
  | succ n ih =>
    intro i B hin hB1 hB2 hB3 H locs ls G hl
    refine lv_iload_n hx hb dX11_goes_72 rfl (lv_at hl 0 rfl) ?_
    refine lv_aload_n hx hb dX11_goes_73 rfl (lv_at hl 1 rfl) ?_
    refine k_mga C G 2 (by decide) mr_2 fl_X11_16 rfl dX11_goes_74 ?_
    refine lv_iload_n hx hb dX11_goes_77 rfl (lv_at hl 2 rfl) ?_
    refine k_mil (v := nI q.2.2.length) (i := k) C G 2 (k := 2) (n := 100) mp_2 (by decide) (by omega) pk_us dX11_goes_78 ?_
    refine lv_icmp_ge (tgt := 115) hx hb dX11_goes_79 (by decide) (fun c_79 => ?_) (fun c_79 => ?_)
    · exact absurd (nb_le (a := q.2.2.length) (b := i) c_79 (by omega) (by omega)) (by omega)
    · have n_79 := nb_nle (a := q.2.2.length) (b := i) c_79 (by omega) (by omega)
      refine lv_aload_n hx hb dX11_goes_82 rfl (lv_at hl 1 rfl) ?_
      refine k_mga C G 3 (by decide) mr_3 fl_X11_20 rfl dX11_goes_83 ?_
      refine lv_sipush (v := 1400) hx hb dX11_goes_86 (by decide) ?_
      refine lv_iload_n hx hb dX11_goes_89 rfl (lv_at hl 2 rfl) ?_
      refine lv_imul hx hb dX11_goes_90 ?_
      refine k_topi (y := nI (1400 * k)) (pk_mul 1400 k) ?_
      refine lv_iload_n hx hb dX11_goes_91 rfl (lv_at hl 0 rfl) ?_
      refine lv_iadd hx hb dX11_goes_92 ?_
      refine k_topi (y := nI (1400 * k + i)) (nI_add (1400 * k) i) ?_
      refine lv_aload_n hx hb dX11_goes_93 rfl (lv_at hl 1 rfl) ?_
      refine k_mga C G 3 (by decide) mr_3 fl_X11_20 rfl dX11_goes_94 ?_
      refine lv_sipush (v := 1400) hx hb dX11_goes_97 (by decide) ?_
      refine lv_aload_n hx hb dX11_goes_100 rfl (lv_at hl 1 rfl) ?_
      refine k_mgi (v := nI (ob.length - 1)) C G 4 (by decide) mr_4 rfl fl_X11_150 rfl dX11_goes_101 ?_
      refine lv_imul hx hb dX11_goes_104 ?_
      refine k_topi (y := nI (1400 * (ob.length - 1))) (pk_mul 1400 (ob.length - 1)) ?_
      refine lv_iload_n hx hb dX11_goes_105 rfl (lv_at hl 0 rfl) ?_
      refine lv_iadd hx hb dX11_goes_106 ?_
      refine k_topi (y := nI (1400 * (ob.length - 1) + i)) (nI_add (1400 * (ob.length - 1)) i) ?_
      refine k_mbl (v := B (1400 * (ob.length - 1) + i)) (i := 1400 * (ob.length - 1) + i) C G 3 (k := 3) (n := 140000) mp_3 (by decide) (by omega) rfl dX11_goes_107 ?_
      refine k_mbs (x := B (1400 * (ob.length - 1) + i)) (i := 1400 * k + i) C G 3 (k := 3) (n := 140000) mp_3 (by decide) (by omega) (vp_by (hB3 _)) dX11_goes_108 (fun H locs (G : wd Z A s (mdW Z h ad (upd (upd iv 5 (nI (oSz ob - o.2.2.length))) 4 (nI (ob.length - 1))) (ua (ua (ua (ua (ua av 0 (upd (av 0) k q.1)) 1 (upd (av 1) k q.2.1)) 2 (upd (av 2) k (nI q.2.2.length))) 3 B) 3 (upd B (1400 * k + i) (B (1400 * (ob.length - 1) + i))))) H locs) => ?_)
      refine lv_iinc (v := nI (i + 1)) (lv' := [(2, .int (nI (i + 1))), (0, .ref h), (1, .int (nI k))]) hx hb dX11_goes_109 hl (k := 0) rfl (nI_1 _) (by decide) rfl (fun ls hl => ?_)
      refine lv_goto (tgt := 72) hx hb dX11_goes_112 (by decide) ?_
      have G : wd Z A s (mdW Z h ad (upd (upd iv 5 (nI (oSz ob - o.2.2.length))) 4 (nI (ob.length - 1))) (ua (ua (ua (ua av 0 (upd (av 0) k q.1)) 1 (upd (av 1) k q.2.1)) 2 (upd (av 2) k (nI q.2.2.length))) 3 (upd B (1400 * k + i) (B (1400 * (ob.length - 1) + i))))) H locs := by
        have e9 : (ua (ua (ua (ua (ua av 0 (upd (av 0) k q.1)) 1 (upd (av 1) k q.2.1)) 2 (upd (av 2) k (nI q.2.2.length))) 3 B) 3 (upd B (1400 * k + i) (B (1400 * (ob.length - 1) + i)))) = (ua (ua (ua (ua av 0 (upd (av 0) k q.1)) 1 (upd (av 1) k q.2.1)) 2 (upd (av 2) k (nI q.2.2.length))) 3 (upd B (1400 * k + i) (B (1400 * (ob.length - 1) + i)))) := by
          funext j; unfold ua; by_cases e : j = 3
          · rw [if_pos e, if_pos e]
          · rw [if_neg e, if_neg e]; rw [if_neg e]
        rw [← e9]; exact G
      have hBl : B (1400 * (ob.length - 1) + i) = av 3 (1400 * (ob.length - 1) + i) := by
        by_cases e : k = ob.length - 1
        · rw [← e]; exact hB1 _ (by omega)
        · exact hB1 _ (by omega)
      exact ih (i + 1) (upd B (1400 * k + i) (B (1400 * (ob.length - 1) + i))) (by omega) (fun j hj => by rw [pk_un (by omega)]; exact hB1 j (by omega)) (fun j hj => by
        by_cases e : j = i
        · subst e; rw [pk_us, hBl]
        · rw [pk_un (by omega)]; exact hB2 j (by omega)) (fun j => by
        by_cases e : j = 1400 * k + i
        · subst e; rw [pk_us]; exact hB3 _
        · rw [pk_un e]; exact hB3 j) _ _ _ G (lv_sub hl [0, 1, 2] rfl)
set_option maxRecDepth 100000 in
set_option maxHeartbeats 4000000 in
theorem c_X11_goes (Z : zT) (l : Launch) (h : Nat) (ad : Nat → Nat) (iv : ivT) (av : avT) (ob : List obT) (k : Nat) (o : obT) (vc : Int32) (ho : mo_ok iv av ob) (hk : ob[k]? = some o) (h12 : iv 12 = vc) : Kv Z l yX11_goes cX11_goes 3 none ({ frames := 0, cells := 0, slots := 0, locals := 0 }) [.ref h, .int (nI k)] (mdW Z h ad iv av) (fun u => ∃ iv2 av2, u = mdW Z h ad iv2 av2 ∧ mo_ok iv2 av2 (swR ob k) ∧ iv2 12 = vc + 1 ∧ sI [4, 5, 12] iv iv2 ∧ sA [0, 1, 2, 3] av av2) := by
  intro sz
  refine Met.ofK (cc := cX11_goes) (maxL := 3) (ret := none) (by decide) (Nat.le_of_ble_eq_true rfl) ?_
  intro p e s m below meth c ls C G hl
  generalize va_A _ sz = A at G ⊢
  have hx := C.1
  have hb := C.2.1
  have hown := C.2.2.2.2.2.1
  have hts := C.2.2.2.2.2.2.1
  have h4 := ho.1
  have h5 := ho.2.2.1
  have hob := ho.2.1
  have hkl := (List.getElem?_eq_some_iff.mp hk).1
  obtain ⟨q, hq⟩ : ∃ q, ob[ob.length - 1]? = some q := ⟨_, List.getElem?_eq_getElem (by omega)⟩
  have hoz := oSz_le ho.2.2.2
  have hpz : oSz ob = o.2.2.length + oSz (swR ob k) := (oSz_perm (swR_perm hk)).trans (by simp [oSz])
  have hsz : oSz ob - o.2.2.length = oSz (swR ob k) := by omega
  refine lv_aload_n hx hb dX11_goes_0 rfl (lv_at hl 0 rfl) ?_
  refine lv_dup hx hb dX11_goes_1 rfl ?_
  refine k_mgi (v := nI (oSz ob)) C G 5 (by decide) mr_5 h5 fl_X11_169 rfl dX11_goes_2 ?_
  refine lv_aload_n hx hb dX11_goes_5 rfl (lv_at hl 0 rfl) ?_
  refine k_mga C G 2 (by decide) mr_2 fl_X11_16 rfl dX11_goes_6 ?_
  refine lv_iload_n hx hb dX11_goes_9 rfl (lv_at hl 1 rfl) ?_
  refine k_mil (v := nI o.2.2.length) (i := k) C G 2 (k := 2) (n := 100) mp_2 (by decide) (by omega) ((ho.2.2.2.1 k o hk).2.2.1) dX11_goes_10 ?_
  refine lv_isub hx hb dX11_goes_11 ?_
  refine k_topi (y := nI (oSz ob - o.2.2.length)) (pk_sub (a := oSz ob) (b := o.2.2.length) (by omega)) ?_
  refine k_mpi (v := nI (oSz ob - o.2.2.length)) (ty := .int) C G 5 (by decide) mr_5 fl_X11_169 rfl rfl rfl rfl rfl dX11_goes_12 (fun H locs (G : wd Z A s (mdW Z h ad (upd iv 5 (nI (oSz ob - o.2.2.length))) av) H locs) => ?_)
  refine lv_aload_n hx hb dX11_goes_15 rfl (lv_at hl 0 rfl) ?_
  refine lv_dup hx hb dX11_goes_16 rfl ?_
  refine k_mgi (v := nI ob.length) C G 4 (by decide) mr_4 h4 fl_X11_150 rfl dX11_goes_17 ?_
  refine lv_iconst (v := 1) hx hb dX11_goes_20 (by decide) ?_
  refine lv_isub hx hb dX11_goes_21 ?_
  refine k_topi (y := nI (ob.length - 1)) (pk_sub (a := ob.length) (b := 1) (by omega)) ?_
  refine k_mpi (v := nI (ob.length - 1)) (ty := .int) C G 4 (by decide) mr_4 fl_X11_150 rfl rfl rfl rfl rfl dX11_goes_22 (fun H locs (G : wd Z A s (mdW Z h ad (upd (upd iv 5 (nI (oSz ob - o.2.2.length))) 4 (nI (ob.length - 1))) av) H locs) => ?_)
  refine lv_aload_n hx hb dX11_goes_25 rfl (lv_at hl 0 rfl) ?_
  refine k_mga C G 0 (by decide) mr_0 fl_X11_7 rfl dX11_goes_26 ?_
  refine lv_iload_n hx hb dX11_goes_29 rfl (lv_at hl 1 rfl) ?_
  refine lv_aload_n hx hb dX11_goes_30 rfl (lv_at hl 0 rfl) ?_
  refine k_mga C G 0 (by decide) mr_0 fl_X11_7 rfl dX11_goes_31 ?_
  refine lv_aload_n hx hb dX11_goes_34 rfl (lv_at hl 0 rfl) ?_
  refine k_mgi (v := nI (ob.length - 1)) C G 4 (by decide) mr_4 rfl fl_X11_150 rfl dX11_goes_35 ?_
  refine k_mil (v := q.1) (i := ob.length - 1) C G 0 (k := 0) (n := 100) mp_0 (by decide) (by omega) ((ho.2.2.2.1 _ q hq).1) dX11_goes_38 ?_
  refine k_mis (x := q.1) (i := k) C G 0 (k := 0) (n := 100) mp_0 (by decide) (by omega) dX11_goes_39 (fun H locs (G : wd Z A s (mdW Z h ad (upd (upd iv 5 (nI (oSz ob - o.2.2.length))) 4 (nI (ob.length - 1))) (ua av 0 (upd (av 0) k q.1))) H locs) => ?_)
  refine lv_aload_n hx hb dX11_goes_40 rfl (lv_at hl 0 rfl) ?_
  refine k_mga C G 1 (by decide) mr_1 fl_X11_13 rfl dX11_goes_41 ?_
  refine lv_iload_n hx hb dX11_goes_44 rfl (lv_at hl 1 rfl) ?_
  refine lv_aload_n hx hb dX11_goes_45 rfl (lv_at hl 0 rfl) ?_
  refine k_mga C G 1 (by decide) mr_1 fl_X11_13 rfl dX11_goes_46 ?_
  refine lv_aload_n hx hb dX11_goes_49 rfl (lv_at hl 0 rfl) ?_
  refine k_mgi (v := nI (ob.length - 1)) C G 4 (by decide) mr_4 rfl fl_X11_150 rfl dX11_goes_50 ?_
  refine k_mil (v := q.2.1) (i := ob.length - 1) C G 1 (k := 1) (n := 100) mp_1 (by decide) (by omega) ((ho.2.2.2.1 _ q hq).2.1) dX11_goes_53 ?_
  refine k_mis (x := q.2.1) (i := k) C G 1 (k := 1) (n := 100) mp_1 (by decide) (by omega) dX11_goes_54 (fun H locs (G : wd Z A s (mdW Z h ad (upd (upd iv 5 (nI (oSz ob - o.2.2.length))) 4 (nI (ob.length - 1))) (ua (ua av 0 (upd (av 0) k q.1)) 1 (upd (av 1) k q.2.1))) H locs) => ?_)
  refine lv_aload_n hx hb dX11_goes_55 rfl (lv_at hl 0 rfl) ?_
  refine k_mga C G 2 (by decide) mr_2 fl_X11_16 rfl dX11_goes_56 ?_
  refine lv_iload_n hx hb dX11_goes_59 rfl (lv_at hl 1 rfl) ?_
  refine lv_aload_n hx hb dX11_goes_60 rfl (lv_at hl 0 rfl) ?_
  refine k_mga C G 2 (by decide) mr_2 fl_X11_16 rfl dX11_goes_61 ?_
  refine lv_aload_n hx hb dX11_goes_64 rfl (lv_at hl 0 rfl) ?_
  refine k_mgi (v := nI (ob.length - 1)) C G 4 (by decide) mr_4 rfl fl_X11_150 rfl dX11_goes_65 ?_
  refine k_mil (v := nI q.2.2.length) (i := ob.length - 1) C G 2 (k := 2) (n := 100) mp_2 (by decide) (by omega) ((ho.2.2.2.1 _ q hq).2.2.1) dX11_goes_68 ?_
  refine k_mis (x := nI q.2.2.length) (i := k) C G 2 (k := 2) (n := 100) mp_2 (by decide) (by omega) dX11_goes_69 (fun H locs (G : wd Z A s (mdW Z h ad (upd (upd iv 5 (nI (oSz ob - o.2.2.length))) 4 (nI (ob.length - 1))) (ua (ua (ua av 0 (upd (av 0) k q.1)) 1 (upd (av 1) k q.2.1)) 2 (upd (av 2) k (nI q.2.2.length)))) H locs) => ?_)
  refine lv_iconst (v := 0) hx hb dX11_goes_70 (by decide) ?_
  refine k_topi (y := nI 0) (by rfl) ?_
  refine lv_istore_n (lv' := [(2, .int (nI 0)), (0, .ref h), (1, .int (nI k))]) hx hb dX11_goes_71 rfl hl (by decide) rfl (fun ls hl => ?_)
  have G : wd Z A s (mdW Z h ad (upd (upd iv 5 (nI (oSz ob - o.2.2.length))) 4 (nI (ob.length - 1))) (ua (ua (ua (ua av 0 (upd (av 0) k q.1)) 1 (upd (av 1) k q.2.1)) 2 (upd (av 2) k (nI q.2.2.length))) 3 (av 3))) H locs := by
    have e9 : (ua (ua (ua av 0 (upd (av 0) k q.1)) 1 (upd (av 1) k q.2.1)) 2 (upd (av 2) k (nI q.2.2.length))) = (ua (ua (ua (ua av 0 (upd (av 0) k q.1)) 1 (upd (av 1) k q.2.1)) 2 (upd (av 2) k (nI q.2.2.length))) 3 (av 3)) := by
      funext j; by_cases e : j = 3
      · subst e; rfl
      · rw [ua_n e]
    rw [← e9]; exact G
  exact lp_mgoes C h12 ho.2.2.2 hob hkl hq hsz (fun iv2 av2 a1 a2 a3 a4 a5 a6 => ⟨iv2, av2, rfl, ⟨a3, by rw [swR_len]; omega, a4, a6⟩, a5, a1, a2⟩) q.2.2.length 0 (av 3) (by omega) (fun _ _ => rfl) (fun j hj => absurd hj (by omega)) ho.2.2.2.2 _ _ _ G (lv_sub hl [0, 1, 2] rfl)
