/-! MODULE Sink (X6), third part: making, growth, slices, comparison; MODULE Source (X7). -/
set_option maxRecDepth 100000 in
set_option maxHeartbeats 4000000 in
theorem c_X6_init (Z : zT) (l : Launch) (h : Nat) : Kv Z l yX6_init cX6_init 1 none ({ frames := 1, cells := 1, slots := 64, locals := 12 }) [.ref h] [(h, .inr (7, [.null, .int 0]))] (fun u => ∃ q, u = skW Z h q 64 (fun _ => 0) 0) := by
  intro sz
  refine Met.ofK (cc := cX6_init) (maxL := 1) (ret := none) (by decide) (Nat.le_of_ble_eq_true rfl) ?_
  intro p e s m below meth c ls C G hl
  generalize va_A _ sz = A at G ⊢
  have hx := C.1
  have hb := C.2.1
  have hown := C.2.2.2.2.2.1
  have hts := C.2.2.2.2.2.2.1
  refine lv_aload_n hx hb dX6_init_0 rfl (lv_at hl 0 rfl) ?_
  refine k_objInit C hl.1 ml_X6_1 im_Object__init____V co_obj (Nat.le_of_ble_eq_true rfl) (Nat.le_of_ble_eq_true rfl) dX6_init_1 ?_
  refine lv_aload_n hx hb dX6_init_4 rfl (lv_at hl 0 rfl) ?_
  refine lv_bipush (v := 64) hx hb dX6_init_5 (by decide) ?_
  refine k_newa (i := 64) (N' := 64) (ty := .byte) C G 0 rfl rfl rfl ac_byte (by decide) (by decide) (by decide) (Nat.le_of_ble_eq_true rfl) (Nat.le_of_ble_eq_true rfl) dX6_init_7 (fun qn H (G : wd Z A s ([(h, .inr (7, [.null, .int 0])), (qn, aB Z 64 (fun _ => 0))]) H _) => ?_)
  refine k_put (ci := 7) (CC := RX6) (T := TX6) (N := 2) (ty := .array .byte) (v := .ref qn) C G 0 rfl rfl in_7 tyX6 tyX6_ok nmX6 0 (by decide) fl_X6_7 rfl rfl rfl rfl rfl (Nat.le_of_ble_eq_true rfl) dX6_init_9 (fun H locs (G : wd Z A s ([(h, .inr (7, [.ref qn, .int 0])), (qn, aB Z 64 (fun _ => 0))]) H locs) => ?_)
  exact kr_v C G ⟨qn, rfl⟩ (Nat.le_of_ble_eq_true rfl) (Nat.le_of_ble_eq_true rfl) dX6_init_12
set_option maxRecDepth 100000 in
set_option maxHeartbeats 4000000 in
theorem c_X6_makePlace (Z : zT) (l : Launch) (h q L k : Nat) (f : Nat → Int32) (bs : List Int8) (hf : by_at f bs) (hl0 : bs.length ≤ L) (hL : L < 2 ^ 27) (hk : k < 2 ^ 27) : Kv Z l yX6_makePlace cX6_makePlace 3 none ({ frames := 2, cells := gC L (bs.length + k), slots := gS L (bs.length + k), locals := 70 }) [.ref h, .int (nI k)] (skW Z h q L f (nI bs.length)) (fun u => ∃ q' f', by_at f' bs ∧ u = skW Z h q' (gL L (bs.length + k)) f' (nI bs.length)) := by
  intro sz
  refine Met.ofK (cc := cX6_makePlace) (maxL := 3) (ret := none) (by decide) (Nat.le_of_ble_eq_true rfl) ?_
  intro p e s m below meth c ls C G hl
  generalize va_A _ sz = A at G ⊢
  have hx := C.1
  have hb := C.2.1
  have hown := C.2.2.2.2.2.1
  have hts := C.2.2.2.2.2.2.1
  refine lv_aload_n hx hb dX6_makePlace_0 rfl (lv_at hl 0 rfl) ?_
  refine k_get (ci := 7) (CC := RX6) (T := TX6) (N := 2) (v := .int (nI bs.length)) C G 0 rfl rfl in_7 1 (by decide) fl_X6_13 rfl rfl dX6_makePlace_1 ?_
  refine lv_iload_n hx hb dX6_makePlace_4 rfl (lv_at hl 1 rfl) ?_
  refine lv_iadd hx hb dX6_makePlace_5 ?_
  refine k_topi (y := nI (bs.length + k)) (by exact nI_add _ _) ?_
  refine lv_istore_n (lv' := [(2, .int (nI (bs.length + k))), (0, .ref h), (1, .int (nI k))]) hx hb dX6_makePlace_6 rfl hl (by decide) rfl (fun ls hl => ?_)
  refine lv_iload_n hx hb dX6_makePlace_7 rfl (lv_at hl 0 rfl) ?_
  refine lv_aload_n hx hb dX6_makePlace_8 rfl (lv_at hl 1 rfl) ?_
  refine k_get (ci := 7) (CC := RX6) (T := TX6) (N := 2) (v := .ref q) C G 0 rfl rfl in_7 0 (by decide) fl_X6_7 rfl rfl dX6_makePlace_9 ?_
  refine k_alen (ty := .byte) C G 1 0 rfl rfl dX6_makePlace_12 ?_
  refine lv_icmp_le (tgt := 38) hx hb dX6_makePlace_13 (by decide) (fun c_13 => ?_) (fun c_13 => ?_)
  · have hn : bs.length + k ≤ L := (nI_leI (by omega) (by omega)).mp c_13
    exact kr_v C G ⟨q, f, hf, by rw [gL, if_pos hn]⟩ (Nat.zero_le _) (Nat.zero_le _) dX6_makePlace_38
  · have hn : ¬ bs.length + k ≤ L := fun z => c_13 (nI_le z (by omega))
    refine lv_aload_n hx hb dX6_makePlace_16 rfl (lv_at hl 1 rfl) ?_
    refine lv_aload_n hx hb dX6_makePlace_17 rfl (lv_at hl 1 rfl) ?_
    refine k_get (ci := 7) (CC := RX6) (T := TX6) (N := 2) (v := .ref q) C G 0 rfl rfl in_7 0 (by decide) fl_X6_7 rfl rfl dX6_makePlace_18 ?_
    refine lv_iload_n hx hb dX6_makePlace_21 rfl (lv_at hl 0 rfl) ?_
    refine lv_iconst (v := 2) hx hb dX6_makePlace_22 (by decide) ?_
    refine lv_aload_n hx hb dX6_makePlace_23 rfl (lv_at hl 1 rfl) ?_
    refine k_get (ci := 7) (CC := RX6) (T := TX6) (N := 2) (v := .ref q) C G 0 rfl rfl in_7 0 (by decide) fl_X6_7 rfl rfl dX6_makePlace_24 ?_
    refine k_alen (ty := .byte) C G 1 0 rfl rfl dX6_makePlace_27 ?_
    refine lv_imul hx hb dX6_makePlace_28 ?_
    refine k_topi (y := nI (2 * L)) (by exact pk_mul 2 L) ?_
    refine k_mmax C hl.1 ml_X6_17 sm_J9_max_7cf53 ii_J9 co_max (Nat.le_of_ble_eq_true rfl) (Nat.le_of_ble_eq_true rfl) (Nat.zero_le _) (Nat.zero_le _) dX6_makePlace_29 ?_
    refine k_topi (y := nI (max (bs.length + k) (2 * L))) (by exact max_nI (by omega) (by omega)) ?_
    have hX : List.Perm ([(h, .inr (7, [.ref q, .int (nI bs.length)])), (q, aB Z L f)]) ([(q, aB Z L f)] ++ ([(h, .inr (7, [.ref q, .int (nI bs.length)]))])) := (perm_ix [1, 0] rfl 2 (by decide) rfl)
    refine kc_q (Wc := [(q, aB Z L f)]) (Wr := [(h, .inr (7, [.ref q, .int (nI bs.length)]))]) G hX (krS 2 rfl (As := [.ref q, .int (nI (max (bs.length + k) (2 * L)))]) (rest := [.ref h]) C G hX (c_J7_copyOf Z l q L (max (bs.length + k) (2 * L)) f hf.2 (by omega) (by omega) _) (gdS ml_X6_23 sm_J7_copyOf_9075b ii_J7 co_J7_copyOf_9075b) (by decide +kernel) ⟨Nat.le_of_ble_eq_true rfl, Nat.le_of_ble_eq_true rfl⟩ hl rfl (Nat.le_of_ble_eq_true rfl) ⟨by show 0 + 1 ≤ gC _ _; rw [gC, if_neg hn]; omega, by show 0 + max _ _ ≤ gS _ _; rw [gS, if_neg hn]; omega⟩ dX6_makePlace_32) (fun r_32 u H locs hu G => ?_)
    obtain ⟨qn, rfl, rfl⟩ := hu
    have G : wd Z A s ([(q, aB Z L f), (qn, aB Z (max (bs.length + k) (2 * L)) (va_cpy f (fun _ => 0) 0 0 L)), (h, .inr (7, [.ref q, .int (nI bs.length)]))]) H locs := G
    refine k_put (ci := 7) (CC := RX6) (T := TX6) (N := 2) (ty := .array .byte) (v := .ref qn) C G 2 rfl rfl in_7 tyX6 tyX6_ok nmX6 0 (by decide) fl_X6_7 rfl rfl rfl rfl rfl (Nat.le_of_ble_eq_true rfl) dX6_makePlace_35 (fun H locs (G : wd Z A s ([(q, aB Z L f), (qn, aB Z (max (bs.length + k) (2 * L)) (va_cpy f (fun _ => 0) 0 0 L)), (h, .inr (7, [.ref qn, .int (nI bs.length)]))]) H locs) => ?_)
    have G := (G.perm (perm_ix [2, 1, 0] rfl 3 (by decide) rfl : List.Perm _ ([(h, .inr (7, [.ref qn, .int (nI bs.length)])), (qn, aB Z (max (bs.length + k) (2 * L)) (va_cpy f (fun _ => 0) 0 0 L))] ++ [(q, aB Z L f)]))).drop
    exact kr_v C G ⟨qn, _, by_cpy hf hl0, by rw [gL, if_neg hn]⟩ (by show 0 + 1 ≤ gC _ _; rw [gC, if_neg hn]; omega) (by show 0 + max _ _ ≤ gS _ _; rw [gS, if_neg hn]; omega) dX6_makePlace_38
set_option maxRecDepth 100000 in
set_option maxHeartbeats 4000000 in
theorem c_X6_slice (Z : zT) (l : Launch) (h q L a b : Nat) (f : Nat → Int32) (bs : List Int8) (hf : by_at f bs) (ha : a ≤ b) (hb1 : b ≤ bs.length) (hl0 : bs.length ≤ L) (hL : L < 2 ^ 29) : Kq Z l yX6_slice cX6_slice 3 (some (.array .byte)) ({ frames := 3, cells := 1, slots := b - a, locals := 120 }) [.ref h, .int (nI a), .int (nI b)] (skW Z h q L f (nI bs.length)) (fun r u => ∃ q' g, r = some q' ∧ by_at g ((bs.drop a).take (b - a)) ∧ u = skW Z h q L f (nI bs.length) ++ [(q', aB Z (b - a) g)]) := by
  intro sz
  refine Met.ofK (cc := cX6_slice) (maxL := 3) (ret := (some (.array .byte))) (by decide) (Nat.le_of_ble_eq_true rfl) ?_
  intro p e s m below meth c ls C G hl
  generalize va_A _ sz = A at G ⊢
  have hx := C.1
  have hb := C.2.1
  have hown := C.2.2.2.2.2.1
  have hts := C.2.2.2.2.2.2.1
  refine lv_iload_n hx hb dX6_slice_0 rfl (lv_at hl 1 rfl) ?_
  refine lv_if_lt (tgt := 17) hx hb dX6_slice_1 (by decide) (fun c_1 => ?_) (fun c_1 => ?_)
  · exact absurd c_1 (nI_pos (by omega))
  · refine lv_iload_n hx hb dX6_slice_4 rfl (lv_at hl 2 rfl) ?_
    refine lv_iload_n hx hb dX6_slice_5 rfl (lv_at hl 1 rfl) ?_
    refine lv_icmp_lt (tgt := 17) hx hb dX6_slice_6 (by decide) (fun c_6 => ?_) (fun c_6 => ?_)
    · exact absurd c_6 (nI_nlt ha (by omega))
    · refine lv_iload_n hx hb dX6_slice_9 rfl (lv_at hl 2 rfl) ?_
      refine lv_aload_n hx hb dX6_slice_10 rfl (lv_at hl 0 rfl) ?_
      refine k_get (ci := 7) (CC := RX6) (T := TX6) (N := 2) (v := .int (nI bs.length)) C G 0 rfl rfl in_7 1 (by decide) fl_X6_13 rfl rfl dX6_slice_11 ?_
      refine lv_icmp_le (tgt := 21) hx hb dX6_slice_14 (by decide) (fun c_14 => ?_) (fun c_14 => ?_)
      · refine lv_aload_n hx hb dX6_slice_21 rfl (lv_at hl 0 rfl) ?_
        refine k_get (ci := 7) (CC := RX6) (T := TX6) (N := 2) (v := .ref q) C G 0 rfl rfl in_7 0 (by decide) fl_X6_7 rfl rfl dX6_slice_22 ?_
        refine lv_iload_n hx hb dX6_slice_25 rfl (lv_at hl 1 rfl) ?_
        refine lv_iload_n hx hb dX6_slice_26 rfl (lv_at hl 2 rfl) ?_
        have hX : List.Perm ([(h, .inr (7, [.ref q, .int (nI bs.length)])), (q, aB Z L f)]) ([(q, aB Z L f)] ++ ([(h, .inr (7, [.ref q, .int (nI bs.length)]))])) := (perm_ix [1, 0] rfl 2 (by decide) rfl)
        refine kc_q (Wc := [(q, aB Z L f)]) (Wr := [(h, .inr (7, [.ref q, .int (nI bs.length)]))]) G hX (krS 3 rfl (As := [.ref q, .int (nI a), .int (nI b)]) (rest := []) C G hX (c_J7_copyOfRange Z l q L a b f hf.2 ha (by omega) (by omega) _) (gdS ml_X6_43 sm_J7_copyOfRange_39247 ii_J7 co_J7_copyOfRange_39247) (by decide +kernel) ⟨Nat.le_of_ble_eq_true rfl, Nat.le_of_ble_eq_true rfl⟩ hl rfl (Nat.le_of_ble_eq_true rfl) ⟨Nat.le_of_ble_eq_true rfl, Nat.le_of_eq (Nat.zero_add _)⟩ dX6_slice_27) (fun r_27 u H locs hu G => ?_)
        obtain ⟨qn, g, rfl, hg, hg2, rfl⟩ := hu
        have G : wd Z A s ([(q, aB Z L f), (qn, aB Z (b - a) g), (h, .inr (7, [.ref q, .int (nI bs.length)]))]) H locs := G
        have G := G.perm (perm_ix [2, 0, 1] rfl 3 (by decide) rfl : List.Perm _ (skW Z h q L f (nI bs.length) ++ [(qn, aB Z (b - a) g)]))
        exact kr_q (r := some qn) C G (Or.inr ⟨_, rfl⟩) ⟨qn, g, rfl, by_slice hf ha hb1 hg hg2, rfl⟩ (Nat.le_of_ble_eq_true rfl) (Nat.le_of_eq (Nat.zero_add _)) dX6_slice_30
      · exact absurd (nI_le hb1 (by omega)) c_14
set_option maxRecDepth 100000 in
set_option maxHeartbeats 4000000 in
theorem lp_X6_holdsJust {p : Program} {l : Launch} {e : Env} {R : Room} {s : State} {m : MethodId} {args : Array Value} {below : List Frame} {meth : Method} {c : Code} {Z : zT} {A : Nat → Prop} {h q L o : Nat} {f g : Nat → Int32} {bs os : List Int8} {post : Int32 → va_W → Prop} (C : cx p s m args meth c cX6_holdsJust 3 (some .boolean) RX6 "holdsJust") (hf : by_at f bs) (hg : by_at g os) (hle : bs.length = os.length) (hl0 : bs.length ≤ L) (hL : L < 2 ^ 31) (hp0 : ¬ bs = os → post 0 ([(h, .inr (7, [.ref q, .int (nI bs.length)])), (q, aB Z L f), (o, aB Z os.length g)])) (hp1 : bs = os → post 1 ([(h, .inr (7, [.ref q, .int (nI bs.length)])), (q, aB Z L f), (o, aB Z os.length g)])) : ∀ (n a : Nat), a + n = os.length → (∀ i, i < a → f i = g i) → ∀ (H : Heap) (locs : List Loc) (ls : Array Slot), wd Z A s ([(h, .inr (7, [.ref q, .int (nI bs.length)])), (q, aB Z L f), (o, aB Z os.length g)]) H locs → lv_has ls 3 [(2, .int (nI a)), (0, .ref h), (1, .ref o)] → W p l e R s m args below meth c H locs 0 0 (MQ below (va_Qi post (mB Z A) A) args s 0 0 A) (F0 m 25 ls []) := by
  have hx := C.1
  have hb := C.2.1
  have hown := C.2.2.2.2.2.1
  have hts := C.2.2.2.2.2.2.1
  intro n
  induction n with
  | zero =>
    intro a hn hi H locs ls G hl
    refine lv_iload_n hx hb dX6_holdsJust_25 rfl (lv_at hl 0 rfl) ?_
    refine lv_aload_n hx hb dX6_holdsJust_26 rfl (lv_at hl 2 rfl) ?_
    refine k_alen (ty := .byte) C G 2 0 rfl rfl dX6_holdsJust_27 ?_
    refine lv_icmp_ge (tgt := 51) hx hb dX6_holdsJust_28 (by decide) (fun c_28 => ?_) (fun c_28 => ?_)
    · refine lv_iconst (v := 1) hx hb dX6_holdsJust_51 (by decide) ?_
      exact kr_z C G (by decide) (hp1 ((by_eq hf hg).mpr ⟨hle, fun i hi2 => hi i (by omega)⟩)) (Nat.le_refl _) (Nat.le_refl _) dX6_holdsJust_52
    · exact absurd (nI_le (by omega) (by omega)) c_28
  | succ n ih =>
    intro a hn hi H locs ls G hl
    refine lv_iload_n hx hb dX6_holdsJust_25 rfl (lv_at hl 0 rfl) ?_
    refine lv_aload_n hx hb dX6_holdsJust_26 rfl (lv_at hl 2 rfl) ?_
    refine k_alen (ty := .byte) C G 2 0 rfl rfl dX6_holdsJust_27 ?_
    refine lv_icmp_ge (tgt := 51) hx hb dX6_holdsJust_28 (by decide) (fun c_28 => ?_) (fun c_28 => ?_)
    · exact absurd c_28 (nI_ge (by omega) (by omega))
    · refine lv_aload_n hx hb dX6_holdsJust_31 rfl (lv_at hl 1 rfl) ?_
      refine k_get (ci := 7) (CC := RX6) (T := TX6) (N := 2) (v := .ref q) C G 0 rfl rfl in_7 0 (by decide) fl_X6_7 rfl rfl dX6_holdsJust_32 ?_
      refine lv_iload_n hx hb dX6_holdsJust_35 rfl (lv_at hl 0 rfl) ?_
      have h_36 : vp_in (nI a) L := by exact vp_in_nI (by omega) (by omega)
      refine k_bald C G 1 rfl h_36 dX6_holdsJust_36 ?_
      refine lv_aload_n hx hb dX6_holdsJust_37 rfl (lv_at hl 2 rfl) ?_
      refine lv_iload_n hx hb dX6_holdsJust_38 rfl (lv_at hl 0 rfl) ?_
      have h_39 : vp_in (nI a) os.length := by exact vp_in_nI (by omega) (by omega)
      refine k_bald C G 2 rfl h_39 dX6_holdsJust_39 ?_
      refine lv_icmp_eq (tgt := 45) hx hb dX6_holdsJust_40 (by decide) (fun c_40 => ?_) (fun c_40 => ?_)
      · refine lv_iinc (v := nI (a + 1)) (lv' := [(2, .int (nI (a + 1))), (0, .ref h), (1, .ref o)]) hx hb dX6_holdsJust_45 hl (k := 0) rfl (nI_1 _) (by decide) rfl (fun ls hl => ?_)
        refine lv_goto (tgt := 25) hx hb dX6_holdsJust_48 (by decide) ?_
        exact ih (a + 1) (by omega) (lt_s hi (by rw [nI_clamp (by omega)] at c_40; exact c_40)) _ _ _ G (lv_sub hl [0, 1, 2] rfl)
      · refine lv_iconst (v := 0) hx hb dX6_holdsJust_43 (by decide) ?_
        exact kr_z C G (by decide) (hp0 (fun e => c_40 (by rw [nI_clamp (by omega)]; exact ((by_eq hf hg).mp e).2 a (by omega)))) (Nat.le_refl _) (Nat.le_refl _) dX6_holdsJust_44
set_option maxRecDepth 100000 in
set_option maxHeartbeats 4000000 in
theorem c_X6_holdsJust (Z : zT) (l : Launch) (h q L o : Nat) (f g : Nat → Int32) (bs os : List Int8) (hf : by_at f bs) (hg : by_at g os) (hl0 : bs.length ≤ L) (hL : L < 2 ^ 31) (ho : os.length < 2 ^ 31) : Ki Z l yX6_holdsJust cX6_holdsJust 3 (some .boolean) ({ frames := 0, cells := 0, slots := 0, locals := 0 }) [.ref h, .ref o] ([(h, .inr (7, [.ref q, .int (nI bs.length)])), (q, aB Z L f), (o, aB Z os.length g)]) (fun r u => r = (if bs = os then 1 else 0) ∧ u = [(h, .inr (7, [.ref q, .int (nI bs.length)])), (q, aB Z L f), (o, aB Z os.length g)]) := by
  intro sz
  refine Met.ofK (cc := cX6_holdsJust) (maxL := 3) (ret := (some .boolean)) (by decide) (Nat.le_of_ble_eq_true rfl) ?_
  intro p e s m below meth c ls C G hl
  generalize va_A _ sz = A at G ⊢
  have hx := C.1
  have hb := C.2.1
  have hown := C.2.2.2.2.2.1
  have hts := C.2.2.2.2.2.2.1
  refine lv_aload_n hx hb dX6_holdsJust_0 rfl (lv_at hl 0 rfl) ?_
  refine k_get (ci := 7) (CC := RX6) (T := TX6) (N := 2) (v := .int (nI bs.length)) C G 0 rfl rfl in_7 1 (by decide) fl_X6_13 rfl rfl dX6_holdsJust_1 ?_
  refine lv_aload_n hx hb dX6_holdsJust_4 rfl (lv_at hl 1 rfl) ?_
  refine k_alen (ty := .byte) C G 2 0 rfl rfl dX6_holdsJust_5 ?_
  refine lv_icmp_ne (tgt := 21) hx hb dX6_holdsJust_6 (by decide) (fun c_6 => ?_) (fun c_6 => ?_)
  · refine lv_iconst (v := 0) hx hb dX6_holdsJust_21 (by decide) ?_
    exact kr_z C G (by decide) ⟨by rw [if_neg (fun e => c_6 (by rw [e]))], rfl⟩ (Nat.le_refl _) (Nat.le_refl _) dX6_holdsJust_22
  · refine lv_aload_n hx hb dX6_holdsJust_9 rfl (lv_at hl 0 rfl) ?_
    refine k_get (ci := 7) (CC := RX6) (T := TX6) (N := 2) (v := .int (nI bs.length)) C G 0 rfl rfl in_7 1 (by decide) fl_X6_13 rfl rfl dX6_holdsJust_10 ?_
    refine lv_aload_n hx hb dX6_holdsJust_13 rfl (lv_at hl 0 rfl) ?_
    refine k_get (ci := 7) (CC := RX6) (T := TX6) (N := 2) (v := .ref q) C G 0 rfl rfl in_7 0 (by decide) fl_X6_7 rfl rfl dX6_holdsJust_14 ?_
    refine k_alen (ty := .byte) C G 1 0 rfl rfl dX6_holdsJust_17 ?_
    refine lv_icmp_le (tgt := 23) hx hb dX6_holdsJust_18 (by decide) (fun c_18 => ?_) (fun c_18 => ?_)
    · refine lv_iconst (v := 0) hx hb dX6_holdsJust_23 (by decide) ?_
      refine lv_istore_n (lv' := [(2, .int 0), (0, .ref h), (1, .ref o)]) hx hb dX6_holdsJust_24 rfl hl (by decide) rfl (fun ls hl => ?_)
      exact lp_X6_holdsJust C hf hg ((nI_eq (by omega) (by omega)).mp c_6) hl0 hL (fun e => ⟨by rw [if_neg e], rfl⟩) (fun e => ⟨by rw [if_pos e], rfl⟩) os.length 0 (by omega) lt_0 _ _ _ G (lv_sub hl [0, 1, 2] rfl)
    · exact absurd (nI_le hl0 hL) c_18
set_option maxRecDepth 100000 in
set_option maxHeartbeats 4000000 in
theorem c_X7_init (Z : zT) (l : Launch) (h : Nat) : Kv Z l yX7_init cX7_init 1 none ({ frames := 1, cells := 1, slots := 0, locals := 12 }) [.ref h] [(h, .inr (8, [.null, .int 0, .int 0, .int 0]))] (fun u => ∃ q, u = [(h, .inr (8, [.ref q, .int 0, .int 0, .int 0])), (q, aB Z 0 (fun _ => 0))]) := by
  intro sz
  refine Met.ofK (cc := cX7_init) (maxL := 1) (ret := none) (by decide) (Nat.le_of_ble_eq_true rfl) ?_
  intro p e s m below meth c ls C G hl
  generalize va_A _ sz = A at G ⊢
  have hx := C.1
  have hb := C.2.1
  have hown := C.2.2.2.2.2.1
  have hts := C.2.2.2.2.2.2.1
  refine lv_aload_n hx hb dX7_init_0 rfl (lv_at hl 0 rfl) ?_
  refine k_objInit C hl.1 ml_X7_1 im_Object__init____V co_obj (Nat.le_of_ble_eq_true rfl) (Nat.le_of_ble_eq_true rfl) dX7_init_1 ?_
  refine lv_aload_n hx hb dX7_init_4 rfl (lv_at hl 0 rfl) ?_
  refine lv_iconst (v := 0) hx hb dX7_init_5 (by decide) ?_
  refine k_newa (i := 0) (N' := 0) (ty := .byte) C G 0 rfl rfl rfl ac_byte (by decide) (by decide) (by decide) (Nat.le_of_ble_eq_true rfl) (Nat.le_of_ble_eq_true rfl) dX7_init_6 (fun qn H (G : wd Z A s ([(h, .inr (8, [.null, .int 0, .int 0, .int 0])), (qn, aB Z 0 (fun _ => 0))]) H _) => ?_)
  refine k_put (ci := 8) (CC := RX7) (T := TX7) (N := 4) (ty := .array .byte) (v := .ref qn) C G 0 rfl rfl in_8 tyX7 tyX7_ok nmX7 0 (by decide) fl_X7_7 rfl rfl rfl rfl rfl (Nat.le_of_ble_eq_true rfl) dX7_init_8 (fun H locs (G : wd Z A s ([(h, .inr (8, [.ref qn, .int 0, .int 0, .int 0])), (qn, aB Z 0 (fun _ => 0))]) H locs) => ?_)
  exact kr_v C G ⟨qn, rfl⟩ (Nat.le_of_ble_eq_true rfl) (Nat.le_of_ble_eq_true rfl) dX7_init_11
set_option maxRecDepth 100000 in
set_option maxHeartbeats 4000000 in
theorem c_X7_isAtEnd (Z : zT) (l : Launch) (h q L k E : Nat) (f : Nat → Int32) (br : Int32) (hk : k < 2 ^ 31) (hE : E < 2 ^ 31) : Ki Z l yX7_isAtEnd cX7_isAtEnd 1 (some .boolean) ({ frames := 0, cells := 0, slots := 0, locals := 0 }) [.ref h] (scW Z h q L f k E br) (fun r u => r = (if br = 0 ∧ k = E then 1 else 0) ∧ u = scW Z h q L f k E br) := by
  intro sz
  refine Met.ofK (cc := cX7_isAtEnd) (maxL := 1) (ret := (some .boolean)) (by decide) (Nat.le_of_ble_eq_true rfl) ?_
  intro p e s m below meth c ls C G hl
  generalize va_A _ sz = A at G ⊢
  have hx := C.1
  have hb := C.2.1
  have hown := C.2.2.2.2.2.1
  have hts := C.2.2.2.2.2.2.1
  refine lv_aload_n hx hb dX7_isAtEnd_0 rfl (lv_at hl 0 rfl) ?_
  refine k_get (ci := 8) (CC := RX7) (T := TX7) (N := 4) (v := .int br) C G 0 rfl rfl in_8 3 (by decide) fl_X7_26 rfl rfl dX7_isAtEnd_1 ?_
  refine lv_if_ne (tgt := 22) hx hb dX7_isAtEnd_4 (by decide) (fun c_4 => ?_) (fun c_4 => ?_)
  · refine lv_iconst (v := 0) hx hb dX7_isAtEnd_22 (by decide) ?_
    exact kr_z C G (by decide) ⟨by rw [if_neg (fun z => c_4 z.1)], rfl⟩ (Nat.le_refl _) (Nat.le_refl _) dX7_isAtEnd_23
  · refine lv_aload_n hx hb dX7_isAtEnd_7 rfl (lv_at hl 0 rfl) ?_
    refine k_get (ci := 8) (CC := RX7) (T := TX7) (N := 4) (v := .int (nI k)) C G 0 rfl rfl in_8 1 (by decide) fl_X7_13 rfl rfl dX7_isAtEnd_8 ?_
    refine lv_aload_n hx hb dX7_isAtEnd_11 rfl (lv_at hl 0 rfl) ?_
    refine k_get (ci := 8) (CC := RX7) (T := TX7) (N := 4) (v := .int (nI E)) C G 0 rfl rfl in_8 2 (by decide) fl_X7_23 rfl rfl dX7_isAtEnd_12 ?_
    refine lv_icmp_ne (tgt := 22) hx hb dX7_isAtEnd_15 (by decide) (fun c_15 => ?_) (fun c_15 => ?_)
    · refine lv_iconst (v := 0) hx hb dX7_isAtEnd_22 (by decide) ?_
      exact kr_z C G (by decide) ⟨by rw [if_neg (fun z => c_15 (by rw [z.2]))], rfl⟩ (Nat.le_refl _) (Nat.le_refl _) dX7_isAtEnd_23
    · refine lv_iconst (v := 1) hx hb dX7_isAtEnd_18 (by decide) ?_
      refine lv_goto (tgt := 23) hx hb dX7_isAtEnd_19 (by decide) ?_
      exact kr_z C G (by decide) ⟨by rw [if_pos ⟨c_4, (nI_eq hk hE).mp c_15⟩], rfl⟩ (Nat.le_refl _) (Nat.le_refl _) dX7_isAtEnd_23
set_option maxRecDepth 100000 in
set_option maxHeartbeats 4000000 in
theorem c_X7_u1 (Z : zT) (l : Launch) (h q L k E : Nat) (f : Nat → Int32) (br : Int32) (hk : k ≤ E) (hE : E ≤ L) (hL : L < 2 ^ 31) : Ki Z l yX7_u1 cX7_u1 2 (some .int) ({ frames := 0, cells := 0, slots := 0, locals := 0 }) [.ref h] (scW Z h q L f k E br) (fun r u => if k < E then r = f k &&& 255 ∧ u = scW Z h q L f (k + 1) E br else r = 0 ∧ u = scW Z h q L f k E 1) := by
  intro sz
  refine Met.ofK (cc := cX7_u1) (maxL := 2) (ret := (some .int)) (by decide) (Nat.le_of_ble_eq_true rfl) ?_
  intro p e s m below meth c ls C G hl
  generalize va_A _ sz = A at G ⊢
  have hx := C.1
  have hb := C.2.1
  have hown := C.2.2.2.2.2.1
  have hts := C.2.2.2.2.2.2.1
  refine lv_aload_n hx hb dX7_u1_0 rfl (lv_at hl 0 rfl) ?_
  refine k_get (ci := 8) (CC := RX7) (T := TX7) (N := 4) (v := .int (nI k)) C G 0 rfl rfl in_8 1 (by decide) fl_X7_13 rfl rfl dX7_u1_1 ?_
  refine lv_aload_n hx hb dX7_u1_4 rfl (lv_at hl 0 rfl) ?_
  refine k_get (ci := 8) (CC := RX7) (T := TX7) (N := 4) (v := .int (nI E)) C G 0 rfl rfl in_8 2 (by decide) fl_X7_23 rfl rfl dX7_u1_5 ?_
  refine lv_icmp_lt (tgt := 18) hx hb dX7_u1_8 (by decide) (fun c_8 => ?_) (fun c_8 => ?_)
  · have hkE : k < E := (nI_ltI (by omega) (by omega)).mp c_8
    refine lv_aload_n hx hb dX7_u1_18 rfl (lv_at hl 0 rfl) ?_
    refine k_get (ci := 8) (CC := RX7) (T := TX7) (N := 4) (v := .ref q) C G 0 rfl rfl in_8 0 (by decide) fl_X7_7 rfl rfl dX7_u1_19 ?_
    refine lv_aload_n hx hb dX7_u1_22 rfl (lv_at hl 0 rfl) ?_
    refine k_get (ci := 8) (CC := RX7) (T := TX7) (N := 4) (v := .int (nI k)) C G 0 rfl rfl in_8 1 (by decide) fl_X7_13 rfl rfl dX7_u1_23 ?_
    have h_26 : vp_in (nI k) L := by exact vp_in_nI (by omega) (by omega)
    refine k_bald C G 1 rfl h_26 dX7_u1_26 ?_
    refine k_topi (y := f k) (by rw [nI_clamp (by omega)]) ?_
    refine lv_sipush (v := 255) hx hb dX7_u1_27 (by decide) ?_
    refine lv_iand hx hb dX7_u1_30 ?_
    refine lv_istore_n (lv' := [(1, .int ((f k) &&& 255)), (0, .ref h)]) hx hb dX7_u1_31 rfl hl (by decide) rfl (fun ls hl => ?_)
    refine lv_aload_n hx hb dX7_u1_32 rfl (lv_at hl 1 rfl) ?_
    refine lv_dup hx hb dX7_u1_33 rfl ?_
    refine k_get (ci := 8) (CC := RX7) (T := TX7) (N := 4) (v := .int (nI k)) C G 0 rfl rfl in_8 1 (by decide) fl_X7_13 rfl rfl dX7_u1_34 ?_
    refine lv_iconst (v := 1) hx hb dX7_u1_37 (by decide) ?_
    refine lv_iadd hx hb dX7_u1_38 ?_
    refine k_topi (y := nI (k + 1)) (by exact nI_1 _) ?_
    refine k_put (ci := 8) (CC := RX7) (T := TX7) (N := 4) (ty := .int) (v := .int (nI (k + 1))) C G 0 rfl rfl in_8 tyX7 tyX7_ok nmX7 1 (by decide) fl_X7_13 rfl rfl rfl rfl rfl (Nat.le_of_ble_eq_true rfl) dX7_u1_39 (fun H locs (G : wd Z A s ([(h, .inr (8, [.ref q, .int (nI (k + 1)), .int (nI E), .int br])), (q, aB Z L f)]) H locs) => ?_)
    refine lv_iload_n hx hb dX7_u1_42 rfl (lv_at hl 0 rfl) ?_
    exact kr_i C G (by rw [if_pos hkE]; exact ⟨rfl, rfl⟩) (Nat.le_refl _) (Nat.le_refl _) dX7_u1_43
  · refine lv_aload_n hx hb dX7_u1_11 rfl (lv_at hl 0 rfl) ?_
    refine lv_iconst (v := 1) hx hb dX7_u1_12 (by decide) ?_
    refine k_put (ci := 8) (CC := RX7) (T := TX7) (N := 4) (ty := .boolean) (v := .int 1) C G 0 rfl rfl in_8 tyX7 tyX7_ok nmX7 3 (by decide) fl_X7_26 rfl rfl rfl rfl rfl (Nat.le_of_ble_eq_true rfl) dX7_u1_13 (fun H locs (G : wd Z A s ([(h, .inr (8, [.ref q, .int (nI k), .int (nI E), .int 1])), (q, aB Z L f)]) H locs) => ?_)
    refine lv_iconst (v := 0) hx hb dX7_u1_16 (by decide) ?_
    exact kr_i C G (by rw [if_neg (fun z => c_8 (nI_lt z (by omega)))]; exact ⟨rfl, rfl⟩) (Nat.le_refl _) (Nat.le_refl _) dX7_u1_17
set_option maxRecDepth 100000 in
set_option maxHeartbeats 4000000 in
theorem c_X7_u4 (Z : zT) (l : Launch) (h q L k E : Nat) (f : Nat → Int32) (br : Int32) (hk : k ≤ E) (hE : E ≤ L) (hL : L < 2 ^ 30) : Ki Z l yX7_u4 cX7_u4 2 (some .int) ({ frames := 0, cells := 0, slots := 0, locals := 0 }) [.ref h] (scW Z h q L f k E br) (fun r u => if k + 4 ≤ E then r = r4 f k ∧ u = scW Z h q L f (k + 4) E br else r = 0 ∧ u = scW Z h q L f k E 1) := by
  intro sz
  refine Met.ofK (cc := cX7_u4) (maxL := 2) (ret := (some .int)) (by decide) (Nat.le_of_ble_eq_true rfl) ?_
  intro p e s m below meth c ls C G hl
  generalize va_A _ sz = A at G ⊢
  have hx := C.1
  have hb := C.2.1
  have hown := C.2.2.2.2.2.1
  have hts := C.2.2.2.2.2.2.1
  refine lv_aload_n hx hb dX7_u4_0 rfl (lv_at hl 0 rfl) ?_
  refine k_get (ci := 8) (CC := RX7) (T := TX7) (N := 4) (v := .int (nI k)) C G 0 rfl rfl in_8 1 (by decide) fl_X7_13 rfl rfl dX7_u4_1 ?_
  refine lv_aload_n hx hb dX7_u4_4 rfl (lv_at hl 0 rfl) ?_
  refine k_get (ci := 8) (CC := RX7) (T := TX7) (N := 4) (v := .int (nI E)) C G 0 rfl rfl in_8 2 (by decide) fl_X7_23 rfl rfl dX7_u4_5 ?_
  refine lv_iconst (v := 4) hx hb dX7_u4_8 (by decide) ?_
  refine lv_isub hx hb dX7_u4_9 ?_
  refine lv_icmp_le (tgt := 20) hx hb dX7_u4_10 (by decide) (fun c_10 => ?_) (fun c_10 => ?_)
  · have hkE : k + 4 ≤ E := k_le4c c_10 (by omega) (by omega)
    refine lv_aload_n hx hb dX7_u4_20 rfl (lv_at hl 0 rfl) ?_
    refine k_get (ci := 8) (CC := RX7) (T := TX7) (N := 4) (v := .ref q) C G 0 rfl rfl in_8 0 (by decide) fl_X7_7 rfl rfl dX7_u4_21 ?_
    refine lv_aload_n hx hb dX7_u4_24 rfl (lv_at hl 0 rfl) ?_
    refine k_get (ci := 8) (CC := RX7) (T := TX7) (N := 4) (v := .int (nI k)) C G 0 rfl rfl in_8 1 (by decide) fl_X7_13 rfl rfl dX7_u4_25 ?_
    have h_28 : vp_in (nI k) L := by exact vp_in_nI (by omega) (by omega)
    refine k_bald C G 1 rfl h_28 dX7_u4_28 ?_
    refine k_topi (y := f k) (by rw [nI_clamp (by omega)]) ?_
    refine lv_sipush (v := 255) hx hb dX7_u4_29 (by decide) ?_
    refine lv_iand hx hb dX7_u4_32 ?_
    refine lv_bipush (v := 24) hx hb dX7_u4_33 (by decide) ?_
    refine lv_ishl hx hb dX7_u4_35 ?_
    refine lv_aload_n hx hb dX7_u4_36 rfl (lv_at hl 0 rfl) ?_
    refine k_get (ci := 8) (CC := RX7) (T := TX7) (N := 4) (v := .ref q) C G 0 rfl rfl in_8 0 (by decide) fl_X7_7 rfl rfl dX7_u4_37 ?_
    refine lv_aload_n hx hb dX7_u4_40 rfl (lv_at hl 0 rfl) ?_
    refine k_get (ci := 8) (CC := RX7) (T := TX7) (N := 4) (v := .int (nI k)) C G 0 rfl rfl in_8 1 (by decide) fl_X7_13 rfl rfl dX7_u4_41 ?_
    refine lv_iconst (v := 1) hx hb dX7_u4_44 (by decide) ?_
    refine lv_iadd hx hb dX7_u4_45 ?_
    have h_46 : vp_in ((nI k) + 1) L := by exact in_u4 (by omega) (by omega) 1 (by omega)
    refine k_bald C G 1 rfl h_46 dX7_u4_46 ?_
    refine k_topi (y := f (k + 1)) (by rw [nI_1, nI_clamp (by omega)]) ?_
    refine lv_sipush (v := 255) hx hb dX7_u4_47 (by decide) ?_
    refine lv_iand hx hb dX7_u4_50 ?_
    refine lv_bipush (v := 16) hx hb dX7_u4_51 (by decide) ?_
    refine lv_ishl hx hb dX7_u4_53 ?_
    refine lv_ior hx hb dX7_u4_54 ?_
    refine lv_aload_n hx hb dX7_u4_55 rfl (lv_at hl 0 rfl) ?_
    refine k_get (ci := 8) (CC := RX7) (T := TX7) (N := 4) (v := .ref q) C G 0 rfl rfl in_8 0 (by decide) fl_X7_7 rfl rfl dX7_u4_56 ?_
    refine lv_aload_n hx hb dX7_u4_59 rfl (lv_at hl 0 rfl) ?_
    refine k_get (ci := 8) (CC := RX7) (T := TX7) (N := 4) (v := .int (nI k)) C G 0 rfl rfl in_8 1 (by decide) fl_X7_13 rfl rfl dX7_u4_60 ?_
    refine lv_iconst (v := 2) hx hb dX7_u4_63 (by decide) ?_
    refine lv_iadd hx hb dX7_u4_64 ?_
    have h_65 : vp_in ((nI k) + 2) L := by exact in_u4 (by omega) (by omega) 2 (by omega)
    refine k_bald C G 1 rfl h_65 dX7_u4_65 ?_
    refine k_topi (y := f (k + 2)) (by rw [show nI k + 2 = nI (k + 2) from nI_add k 2, nI_clamp (by omega)]) ?_
    refine lv_sipush (v := 255) hx hb dX7_u4_66 (by decide) ?_
    refine lv_iand hx hb dX7_u4_69 ?_
    refine lv_bipush (v := 8) hx hb dX7_u4_70 (by decide) ?_
    refine lv_ishl hx hb dX7_u4_72 ?_
    refine lv_ior hx hb dX7_u4_73 ?_
    refine lv_aload_n hx hb dX7_u4_74 rfl (lv_at hl 0 rfl) ?_
    refine k_get (ci := 8) (CC := RX7) (T := TX7) (N := 4) (v := .ref q) C G 0 rfl rfl in_8 0 (by decide) fl_X7_7 rfl rfl dX7_u4_75 ?_
    refine lv_aload_n hx hb dX7_u4_78 rfl (lv_at hl 0 rfl) ?_
    refine k_get (ci := 8) (CC := RX7) (T := TX7) (N := 4) (v := .int (nI k)) C G 0 rfl rfl in_8 1 (by decide) fl_X7_13 rfl rfl dX7_u4_79 ?_
    refine lv_iconst (v := 3) hx hb dX7_u4_82 (by decide) ?_
    refine lv_iadd hx hb dX7_u4_83 ?_
    have h_84 : vp_in ((nI k) + 3) L := by exact in_u4 (by omega) (by omega) 3 (by omega)
    refine k_bald C G 1 rfl h_84 dX7_u4_84 ?_
    refine k_topi (y := f (k + 3)) (by rw [show nI k + 3 = nI (k + 3) from nI_add k 3, nI_clamp (by omega)]) ?_
    refine lv_sipush (v := 255) hx hb dX7_u4_85 (by decide) ?_
    refine lv_iand hx hb dX7_u4_88 ?_
    refine lv_ior hx hb dX7_u4_89 ?_
    refine lv_istore_n (lv' := [(1, .int ((((((f k) &&& 255) <<< (24 &&& 31)) ||| (((f (k + 1)) &&& 255) <<< (16 &&& 31))) ||| (((f (k + 2)) &&& 255) <<< (8 &&& 31))) ||| ((f (k + 3)) &&& 255))), (0, .ref h)]) hx hb dX7_u4_90 rfl hl (by decide) rfl (fun ls hl => ?_)
    refine lv_aload_n hx hb dX7_u4_91 rfl (lv_at hl 1 rfl) ?_
    refine lv_dup hx hb dX7_u4_92 rfl ?_
    refine k_get (ci := 8) (CC := RX7) (T := TX7) (N := 4) (v := .int (nI k)) C G 0 rfl rfl in_8 1 (by decide) fl_X7_13 rfl rfl dX7_u4_93 ?_
    refine lv_iconst (v := 4) hx hb dX7_u4_96 (by decide) ?_
    refine lv_iadd hx hb dX7_u4_97 ?_
    refine k_topi (y := nI (k + 4)) (by exact nI_add k 4) ?_
    refine k_put (ci := 8) (CC := RX7) (T := TX7) (N := 4) (ty := .int) (v := .int (nI (k + 4))) C G 0 rfl rfl in_8 tyX7 tyX7_ok nmX7 1 (by decide) fl_X7_13 rfl rfl rfl rfl rfl (Nat.le_of_ble_eq_true rfl) dX7_u4_98 (fun H locs (G : wd Z A s ([(h, .inr (8, [.ref q, .int (nI (k + 4)), .int (nI E), .int br])), (q, aB Z L f)]) H locs) => ?_)
    refine lv_iload_n hx hb dX7_u4_101 rfl (lv_at hl 0 rfl) ?_
    exact kr_i C G (by rw [if_pos hkE]; exact ⟨rfl, rfl⟩) (Nat.le_refl _) (Nat.le_refl _) dX7_u4_102
  · refine lv_aload_n hx hb dX7_u4_13 rfl (lv_at hl 0 rfl) ?_
    refine lv_iconst (v := 1) hx hb dX7_u4_14 (by decide) ?_
    refine k_put (ci := 8) (CC := RX7) (T := TX7) (N := 4) (ty := .boolean) (v := .int 1) C G 0 rfl rfl in_8 tyX7 tyX7_ok nmX7 3 (by decide) fl_X7_26 rfl rfl rfl rfl rfl (Nat.le_of_ble_eq_true rfl) dX7_u4_15 (fun H locs (G : wd Z A s ([(h, .inr (8, [.ref q, .int (nI k), .int (nI E), .int 1])), (q, aB Z L f)]) H locs) => ?_)
    refine lv_iconst (v := 0) hx hb dX7_u4_18 (by decide) ?_
    exact kr_i C G (by rw [if_neg (fun z => c_10 (k_le4b z (by omega)))]; exact ⟨rfl, rfl⟩) (Nat.le_refl _) (Nat.le_refl _) dX7_u4_19
set_option maxRecDepth 100000 in
set_option maxHeartbeats 4000000 in
theorem lp_X7_varint {p : Program} {l : Launch} {e : Env} {R : Room} {s : State} {m : MethodId} {args : Array Value} {below : List Frame} {meth : Method} {c : Code} {Z : zT} {A : Nat → Prop} {h q L E : Nat} {f : Nat → Int32} {br : Int32} {post : Int32 → va_W → Prop} (C : cx p s m args meth c cX7_varint 4 (some .int) RX7 "varint") (hE : E ≤ L) (hL : L < 2 ^ 30) : ∀ (n i : Nat) (z : Int32) (k : Nat), i + n = 5 → k ≤ E → post (rvL f E br n i z k).1 (scW Z h q L f (rvL f E br n i z k).2.1 E (rvL f E br n i z k).2.2) → ∀ (H : Heap) (locs : List Loc) (ls : Array Slot), wd Z A s (scW Z h q L f k E br) H locs → lv_has ls 4 [(2, .int (nI i)), (1, .int z), (0, .ref h)] → W p l e R s m args below meth c H locs 0 0 (MQ below (va_Qi post (mB Z A) A) args s 0 0 A) (F0 m 4 ls []) := by
  have hx := C.1
  have hb := C.2.1
  have hown := C.2.2.2.2.2.1
  have hts := C.2.2.2.2.2.2.1
  intro n
  induction n with
  | zero =>
    intro i z k hn hk hp H locs ls G hl
    rw [rvL] at hp
    refine lv_iload_n hx hb dX7_varint_4 rfl (lv_at hl 0 rfl) ?_
    refine lv_iconst (v := 5) hx hb dX7_varint_5 (by decide) ?_
    refine lv_icmp_ge (tgt := 71) hx hb dX7_varint_6 (by decide) (fun c_6 => ?_) (fun c_6 => ?_)
    · refine lv_aload_n hx hb dX7_varint_71 rfl (lv_at hl 2 rfl) ?_
      refine lv_iconst (v := 1) hx hb dX7_varint_72 (by decide) ?_
      refine k_put (ci := 8) (CC := RX7) (T := TX7) (N := 4) (ty := .boolean) (v := .int 1) C G 0 rfl rfl in_8 tyX7 tyX7_ok nmX7 3 (by decide) fl_X7_26 rfl rfl rfl rfl rfl (Nat.le_of_ble_eq_true rfl) dX7_varint_73 (fun H locs (G : wd Z A s ([(h, .inr (8, [.ref q, .int (nI k), .int (nI E), .int 1])), (q, aB Z L f)]) H locs) => ?_)
      refine lv_iconst (v := 0) hx hb dX7_varint_76 (by decide) ?_
      exact kr_i C G hp (Nat.le_refl _) (Nat.le_refl _) dX7_varint_77
    · exact absurd (show nI 5 ≤ nI i from nI_le (by omega) (by omega)) c_6
  | succ n ih =>
    intro i z k hn hk hp H locs ls G hl
    refine lv_iload_n hx hb dX7_varint_4 rfl (lv_at hl 0 rfl) ?_
    refine lv_iconst (v := 5) hx hb dX7_varint_5 (by decide) ?_
    refine lv_icmp_ge (tgt := 71) hx hb dX7_varint_6 (by decide) (fun c_6 => ?_) (fun c_6 => ?_)
    · exact absurd (show nI 5 ≤ nI i from c_6) (nI_ge (by omega) (by omega))
    · refine lv_aload_n hx hb dX7_varint_9 rfl (lv_at hl 2 rfl) ?_
      refine k_get (ci := 8) (CC := RX7) (T := TX7) (N := 4) (v := .int (nI k)) C G 0 rfl rfl in_8 1 (by decide) fl_X7_13 rfl rfl dX7_varint_10 ?_
      refine lv_aload_n hx hb dX7_varint_13 rfl (lv_at hl 2 rfl) ?_
      refine k_get (ci := 8) (CC := RX7) (T := TX7) (N := 4) (v := .int (nI E)) C G 0 rfl rfl in_8 2 (by decide) fl_X7_23 rfl rfl dX7_varint_14 ?_
      refine lv_icmp_ge (tgt := 71) hx hb dX7_varint_17 (by decide) (fun c_17 => ?_) (fun c_17 => ?_)
      · refine lv_aload_n hx hb dX7_varint_71 rfl (lv_at hl 2 rfl) ?_
        refine lv_iconst (v := 1) hx hb dX7_varint_72 (by decide) ?_
        refine k_put (ci := 8) (CC := RX7) (T := TX7) (N := 4) (ty := .boolean) (v := .int 1) C G 0 rfl rfl in_8 tyX7 tyX7_ok nmX7 3 (by decide) fl_X7_26 rfl rfl rfl rfl rfl (Nat.le_of_ble_eq_true rfl) dX7_varint_73 (fun H locs (G : wd Z A s ([(h, .inr (8, [.ref q, .int (nI k), .int (nI E), .int 1])), (q, aB Z L f)]) H locs) => ?_)
        refine lv_iconst (v := 0) hx hb dX7_varint_76 (by decide) ?_
        rw [rvL, if_neg (fun z => absurd c_17 (nI_ge z (by omega)))] at hp
        exact kr_i C G hp (Nat.le_refl _) (Nat.le_refl _) dX7_varint_77
      · have hkE : k < E := nI_nle_lt c_17 (by omega)
        refine lv_aload_n hx hb dX7_varint_20 rfl (lv_at hl 2 rfl) ?_
        refine k_get (ci := 8) (CC := RX7) (T := TX7) (N := 4) (v := .ref q) C G 0 rfl rfl in_8 0 (by decide) fl_X7_7 rfl rfl dX7_varint_21 ?_
        refine lv_aload_n hx hb dX7_varint_24 rfl (lv_at hl 2 rfl) ?_
        refine k_get (ci := 8) (CC := RX7) (T := TX7) (N := 4) (v := .int (nI k)) C G 0 rfl rfl in_8 1 (by decide) fl_X7_13 rfl rfl dX7_varint_25 ?_
        have h_28 : vp_in (nI k) L := by exact vp_in_nI (by omega) (by omega)
        refine k_bald C G 1 rfl h_28 dX7_varint_28 ?_
        refine k_topi (y := f k) (by rw [nI_clamp (by omega)]) ?_
        refine lv_istore_n (lv' := [(3, .int (f k)), (2, .int (nI i)), (1, .int z), (0, .ref h)]) hx hb dX7_varint_29 rfl hl (by decide) rfl (fun ls hl => ?_)
        refine lv_aload_n hx hb dX7_varint_30 rfl (lv_at hl 3 rfl) ?_
        refine lv_dup hx hb dX7_varint_31 rfl ?_
        refine k_get (ci := 8) (CC := RX7) (T := TX7) (N := 4) (v := .int (nI k)) C G 0 rfl rfl in_8 1 (by decide) fl_X7_13 rfl rfl dX7_varint_32 ?_
        refine lv_iconst (v := 1) hx hb dX7_varint_35 (by decide) ?_
        refine lv_iadd hx hb dX7_varint_36 ?_
        refine k_topi (y := nI (k + 1)) (by exact nI_1 _) ?_
        refine k_put (ci := 8) (CC := RX7) (T := TX7) (N := 4) (ty := .int) (v := .int (nI (k + 1))) C G 0 rfl rfl in_8 tyX7 tyX7_ok nmX7 1 (by decide) fl_X7_13 rfl rfl rfl rfl rfl (Nat.le_of_ble_eq_true rfl) dX7_varint_37 (fun H locs (G : wd Z A s ([(h, .inr (8, [.ref q, .int (nI (k + 1)), .int (nI E), .int br])), (q, aB Z L f)]) H locs) => ?_)
        refine lv_iload_n hx hb dX7_varint_40 rfl (lv_at hl 2 rfl) ?_
        refine lv_iload_n hx hb dX7_varint_41 rfl (lv_at hl 0 rfl) ?_
        refine lv_bipush (v := 127) hx hb dX7_varint_42 (by decide) ?_
        refine lv_iand hx hb dX7_varint_44 ?_
        refine lv_bipush (v := 7) hx hb dX7_varint_45 (by decide) ?_
        refine lv_iload_n hx hb dX7_varint_47 rfl (lv_at hl 1 rfl) ?_
        refine lv_imul hx hb dX7_varint_48 ?_
        refine lv_ishl hx hb dX7_varint_49 ?_
        refine lv_ior hx hb dX7_varint_50 ?_
        refine lv_istore_n (lv' := [(1, .int (z ||| (((f k) &&& 127) <<< ((7 * (nI i)) &&& 31)))), (3, .int (f k)), (2, .int (nI i)), (0, .ref h)]) hx hb dX7_varint_51 rfl hl (by decide) rfl (fun ls hl => ?_)
        refine lv_iload_n hx hb dX7_varint_52 rfl (lv_at hl 1 rfl) ?_
        refine lv_if_lt (tgt := 65) hx hb dX7_varint_53 (by decide) (fun c_53 => ?_) (fun c_53 => ?_)
        · refine lv_iinc (v := nI (i + 1)) (lv' := [(2, .int (nI (i + 1))), (1, .int (z ||| (((f k) &&& 127) <<< ((7 * (nI i)) &&& 31)))), (3, .int (f k)), (0, .ref h)]) hx hb dX7_varint_65 hl (k := 2) rfl (nI_1 _) (by decide) rfl (fun ls hl => ?_)
          refine lv_goto (tgt := 4) hx hb dX7_varint_68 (by decide) ?_
          rw [rvL, if_pos hkE, if_pos c_53] at hp
          exact ih (i + 1) _ (k + 1) (by omega) (by omega) hp _ _ _ G (lv_sub hl [0, 1, 3] rfl)
        · refine lv_iload_n hx hb dX7_varint_56 rfl (lv_at hl 0 rfl) ?_
          refine lv_iconst (v := 1) hx hb dX7_varint_57 (by decide) ?_
          refine lv_iushr (v := ush (z ||| (((f k) &&& 127) <<< ((7 * (nI i)) &&& 31))) 1) hx hb dX7_varint_58 rfl ?_
          refine lv_iload_n hx hb dX7_varint_59 rfl (lv_at hl 0 rfl) ?_
          refine lv_iconst (v := 1) hx hb dX7_varint_60 (by decide) ?_
          refine lv_iand hx hb dX7_varint_61 ?_
          refine lv_ineg hx hb dX7_varint_62 ?_
          refine lv_ixor hx hb dX7_varint_63 ?_
          rw [rvL, if_pos hkE, if_neg c_53] at hp
          exact kr_i C G hp (Nat.le_refl _) (Nat.le_refl _) dX7_varint_64
set_option maxRecDepth 100000 in
set_option maxHeartbeats 4000000 in
theorem c_X7_varint (Z : zT) (l : Launch) (h q L k E : Nat) (f : Nat → Int32) (br : Int32) (hk : k ≤ E) (hE : E ≤ L) (hL : L < 2 ^ 30) : Ki Z l yX7_varint cX7_varint 4 (some .int) ({ frames := 0, cells := 0, slots := 0, locals := 0 }) [.ref h] (scW Z h q L f k E br) (fun r u => r = (rvL f E br 5 0 0 k).1 ∧ u = scW Z h q L f (rvL f E br 5 0 0 k).2.1 E (rvL f E br 5 0 0 k).2.2) := by
  intro sz
  refine Met.ofK (cc := cX7_varint) (maxL := 4) (ret := (some .int)) (by decide) (Nat.le_of_ble_eq_true rfl) ?_
  intro p e s m below meth c ls C G hl
  generalize va_A _ sz = A at G ⊢
  have hx := C.1
  have hb := C.2.1
  have hown := C.2.2.2.2.2.1
  have hts := C.2.2.2.2.2.2.1
  refine lv_iconst (v := 0) hx hb dX7_varint_0 (by decide) ?_
  refine lv_istore_n (lv' := [(1, .int 0), (0, .ref h)]) hx hb dX7_varint_1 rfl hl (by decide) rfl (fun ls hl => ?_)
  refine lv_iconst (v := 0) hx hb dX7_varint_2 (by decide) ?_
  refine lv_istore_n (lv' := [(2, .int 0), (1, .int 0), (0, .ref h)]) hx hb dX7_varint_3 rfl hl (by decide) rfl (fun ls hl => ?_)
  exact lp_X7_varint C hE hL 5 0 0 k (by omega) hk ⟨rfl, rfl⟩ _ _ _ G (lv_sub hl [0, 1, 2] rfl)
