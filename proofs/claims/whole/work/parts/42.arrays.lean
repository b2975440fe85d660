/-! MODULE java.util.Arrays (J7): fill, copyOf, copyOfRange of bytes. -/
set_option maxRecDepth 100000 in
set_option maxHeartbeats 4000000 in
theorem lp_J7_fill {p : Program} {l : Launch} {e : Env} {R : Room} {s : State} {m : MethodId} {args : Array Value} {below : List Frame} {meth : Method} {c : Code} {Z : zT} {A : Nat → Prop} {q L : Nat} {v : Int32} {post : va_W → Prop} (C : cx p s m args meth c cJ7_fill_53178 4 none RJ7 "fill") (hL : L < 2 ^ 31) (hp : ∀ f : Nat → Int32, (∀ j, j < L → f j = v) → post [(q, aI Z L f)]) : ∀ (n a : Nat) (f : Nat → Int32), a + n = L → (∀ j, j < a → f j = v) → ∀ (H : Heap) (locs : List Loc) (ls : Array Slot), wd Z A s [(q, aI Z L f)] H locs → lv_has ls 4 [(2, .int (nI a)), (3, .int (nI L)), (0, .ref q), (1, .int v)] → W p l e R s m args below meth c H locs 0 0 (MQ below (va_Qv post (mB Z A) A) args s 0 0 A) (F0 m 5 ls []) := by
  have hx := C.1
  have hb := C.2.1
  have hown := C.2.2.2.2.2.1
  have hts := C.2.2.2.2.2.2.1
  intro n
  induction n with
  | zero =>
    intro a f hn hf H locs ls G hl
    have hab : a = L := by omega
    rw [hab] at hf
    refine lv_iload_n hx hb dJ7_fill_53178_5 rfl (lv_at hl 0 rfl) ?_
    refine lv_iload_n hx hb dJ7_fill_53178_6 rfl (lv_at hl 1 rfl) ?_
    refine lv_icmp_ge (tgt := 20) hx hb dJ7_fill_53178_7 (by decide) (fun c_7 => ?_) (fun c_7 => ?_)
    · exact kr_v C G (hp f hf) (Nat.le_refl _) (Nat.le_refl _) dJ7_fill_53178_20
    · exact absurd (nI_le (by omega) (by omega)) c_7
  | succ n ih =>
    intro a f hn hf H locs ls G hl
    refine lv_iload_n hx hb dJ7_fill_53178_5 rfl (lv_at hl 0 rfl) ?_
    refine lv_iload_n hx hb dJ7_fill_53178_6 rfl (lv_at hl 1 rfl) ?_
    refine lv_icmp_ge (tgt := 20) hx hb dJ7_fill_53178_7 (by decide) (fun c_7 => ?_) (fun c_7 => ?_)
    · exact absurd c_7 (nI_ge (by omega) (by omega))
    · refine lv_aload_n hx hb dJ7_fill_53178_10 rfl (lv_at hl 2 rfl) ?_
      refine lv_iload_n hx hb dJ7_fill_53178_11 rfl (lv_at hl 0 rfl) ?_
      refine lv_iload_n hx hb dJ7_fill_53178_12 rfl (lv_at hl 3 rfl) ?_
      have h_13 : vp_in (nI a) L := by exact vp_in_nI (by omega) (by omega)
      refine k_iast C G 0 rfl h_13 dJ7_fill_53178_13 (fun H locs (G : wd Z A s ([(q, aI Z L (upd f (nI a).toNatClampNeg v))]) H locs) => ?_)
      refine lv_iinc (v := nI (a + 1)) (lv' := [(2, .int (nI (a + 1))), (3, .int (nI L)), (0, .ref q), (1, .int v)]) hx hb dJ7_fill_53178_14 hl (k := 0) rfl (nI_1 _) (by decide) rfl (fun ls hl => ?_)
      refine lv_goto (tgt := 5) hx hb dJ7_fill_53178_17 (by decide) ?_
      exact ih (a + 1) _ (by omega) (fun j hj => by
          rw [nI_clamp (by omega)]
          by_cases e : j = a
          · subst e; exact pk_us
          · rw [pk_un e]; exact hf j (by omega)) _ _ _ G (lv_sub hl [0, 1, 2, 3] rfl)
set_option maxRecDepth 100000 in
set_option maxHeartbeats 4000000 in
theorem c_J7_fill (Z : zT) (l : Launch) (q L : Nat) (f : Nat → Int32) (v : Int32) (hL : L < 2 ^ 31) : Kv Z l yJ7_fill_53178 cJ7_fill_53178 4 none ({ frames := 0, cells := 0, slots := 0, locals := 0 }) [.ref q, .int v] [(q, aI Z L f)] (fun u => ∃ f' : Nat → Int32, (∀ j, j < L → f' j = v) ∧ u = [(q, aI Z L f')]) := by
  intro sz
  refine Met.ofK (cc := cJ7_fill_53178) (maxL := 4) (ret := none) (by decide) (Nat.le_of_ble_eq_true rfl) ?_
  intro p e s m below meth c ls C G hl
  generalize va_A _ sz = A at G ⊢
  have hx := C.1
  have hb := C.2.1
  have hown := C.2.2.2.2.2.1
  have hts := C.2.2.2.2.2.2.1
  refine lv_iconst (v := 0) hx hb dJ7_fill_53178_0 (by decide) ?_
  refine lv_istore_n (lv' := [(2, .int 0), (0, .ref q), (1, .int v)]) hx hb dJ7_fill_53178_1 rfl hl (by decide) rfl (fun ls hl => ?_)
  refine lv_aload_n hx hb dJ7_fill_53178_2 rfl (lv_at hl 1 rfl) ?_
  refine k_alen (ty := .int) C G 0 1 rfl rfl dJ7_fill_53178_3 ?_
  refine lv_istore_n (lv' := [(3, .int (nI L)), (2, .int 0), (0, .ref q), (1, .int v)]) hx hb dJ7_fill_53178_4 rfl hl (by decide) rfl (fun ls hl => ?_)
  exact lp_J7_fill C hL (fun f hf => ⟨f, hf, rfl⟩) L 0 f (by omega) (fun j hj => absurd hj (Nat.not_lt_zero j)) _ _ _ G (lv_sub hl [1, 0, 2, 3] rfl)
set_option maxRecDepth 100000 in
set_option maxHeartbeats 4000000 in
theorem c_J7_copyOf (Z : zT) (l : Launch) (q L N : Nat) (f : Nat → Int32) (hf : ∀ i, fits .byte (.int (f i)) = true) (h : L < N) (hN : N < 2 ^ 29) : Kq Z l yJ7_copyOf_9075b cJ7_copyOf_9075b 3 (some (.array .byte)) ({ frames := 1, cells := 1, slots := N, locals := 40 }) [.ref q, .int (nI N)] [(q, aB Z L f)] (fun r u => ∃ q', r = some q' ∧ u = [(q, aB Z L f), (q', aB Z N (va_cpy f (fun _ => 0) 0 0 L))]) := by
  intro sz
  refine Met.ofK (cc := cJ7_copyOf_9075b) (maxL := 3) (ret := (some (.array .byte))) (by decide) (Nat.le_of_ble_eq_true rfl) ?_
  intro p e s m below meth c ls C G hl
  generalize va_A _ sz = A at G ⊢
  have hx := C.1
  have hb := C.2.1
  have hown := C.2.2.2.2.2.1
  have hts := C.2.2.2.2.2.2.1
  refine lv_iload_n hx hb dJ7_copyOf_9075b_0 rfl (lv_at hl 1 rfl) ?_
  refine lv_aload_n hx hb dJ7_copyOf_9075b_1 rfl (lv_at hl 0 rfl) ?_
  refine k_alen (ty := .byte) C G 0 0 rfl rfl dJ7_copyOf_9075b_2 ?_
  refine lv_icmp_ne (tgt := 14) hx hb dJ7_copyOf_9075b_3 (by decide) (fun c_3 => ?_) (fun c_3 => ?_)
  · refine lv_iload_n hx hb dJ7_copyOf_9075b_14 rfl (lv_at hl 1 rfl) ?_
    refine k_newa (i := nI N) (N' := N) (ty := .byte) C G 0 rfl rfl rfl ac_byte (by exact nI_pos (by omega)) (by exact nI_clamp (by omega)) (by show N * 1 ≤ _; omega) (Nat.le_of_ble_eq_true rfl) (Nat.le_of_eq (Nat.zero_add _)) dJ7_copyOf_9075b_15 (fun qn H (G : wd Z A s ([(q, aB Z L f), (qn, aB Z N (fun _ => 0))]) H _) => ?_)
    refine lv_astore_n (lv' := [(2, .ref qn), (0, .ref q), (1, .int (nI N))]) hx hb dJ7_copyOf_9075b_17 rfl hl (by decide) rfl (fun ls hl => ?_)
    refine lv_aload_n hx hb dJ7_copyOf_9075b_18 rfl (lv_at hl 1 rfl) ?_
    refine lv_iconst (v := 0) hx hb dJ7_copyOf_9075b_19 (by decide) ?_
    refine lv_aload_n hx hb dJ7_copyOf_9075b_20 rfl (lv_at hl 0 rfl) ?_
    refine lv_iconst (v := 0) hx hb dJ7_copyOf_9075b_21 (by decide) ?_
    refine lv_aload_n hx hb dJ7_copyOf_9075b_22 rfl (lv_at hl 1 rfl) ?_
    refine k_alen (ty := .byte) C G 0 0 rfl rfl dJ7_copyOf_9075b_23 ?_
    refine lv_iload_n hx hb dJ7_copyOf_9075b_24 rfl (lv_at hl 2 rfl) ?_
    refine k_mmin C hl.1 ml_J7_304 sm_J9_min_7cf53 ii_J9 co_min (Nat.le_of_ble_eq_true rfl) (Nat.le_of_ble_eq_true rfl) (Nat.le_of_ble_eq_true rfl) (Nat.le_of_eq (Nat.zero_add _)) dJ7_copyOf_9075b_25 ?_
    refine k_topi (y := nI L) (by rw [if_neg (nI_nlt (by omega) (by omega))]) ?_
    refine k_copyb (q0 := 0) (q1 := 1) C G hl.1 ml_J7_150 nt_System_arraycopy__Ljava_lang_Object_ILjava_lang_Object_II_V sm_System_arraycopy__Ljava_lang_Object_ILjava_lang_Object_II_V ii_J10 rfl rfl (by decide) (by decide) (nI_pos (by omega)) (by rw [nI_clamp (by omega)]; show 0 + L ≤ L; omega) (by rw [nI_clamp (by omega)]; show 0 + L ≤ N; omega) hf (Nat.le_of_ble_eq_true rfl) (Nat.le_of_ble_eq_true rfl) dJ7_copyOf_9075b_28 (fun H locs G => ?_)
    have G : wd Z A s ([(q, aB Z L f), (qn, aB Z N (va_cpy f (fun _ => 0) (0 : Int32).toNatClampNeg (0 : Int32).toNatClampNeg (nI L).toNatClampNeg))]) H locs := G
    refine lv_aload_n hx hb dJ7_copyOf_9075b_31 rfl (lv_at hl 0 rfl) ?_
    exact kr_q (r := some qn) C G (Or.inr ⟨_, rfl⟩) ⟨qn, rfl, by rw [nI_clamp (by omega)]; rfl⟩ (Nat.le_of_ble_eq_true rfl) (Nat.le_of_eq (Nat.zero_add _)) dJ7_copyOf_9075b_32
  · exact absurd ((nI_eq (by omega) (by omega)).mp c_3) (by omega)
set_option maxRecDepth 100000 in
set_option maxHeartbeats 4000000 in
theorem c_J7_checkLength (Z : zT) (l : Launch) (a b : Nat) (ha : a ≤ b) (hb1 : b < 2 ^ 31) : Kv Z l yJ7_checkLength_df160 cJ7_checkLength_df160 2 none ({ frames := 0, cells := 0, slots := 0, locals := 0 }) [.int (nI a), .int (nI b)] [] (fun u => u = []) := by
  intro sz
  refine Met.ofK (cc := cJ7_checkLength_df160) (maxL := 2) (ret := none) (by decide) (Nat.le_of_ble_eq_true rfl) ?_
  intro p e s m below meth c ls C G hl
  generalize va_A _ sz = A at G ⊢
  have hx := C.1
  have hb := C.2.1
  have hown := C.2.2.2.2.2.1
  have hts := C.2.2.2.2.2.2.1
  refine lv_iload_n hx hb dJ7_checkLength_df160_0 rfl (lv_at hl 1 rfl) ?_
  refine lv_iload_n hx hb dJ7_checkLength_df160_1 rfl (lv_at hl 0 rfl) ?_
  refine lv_icmp_ge (tgt := 37) hx hb dJ7_checkLength_df160_2 (by decide) (fun c_2 => ?_) (fun c_2 => ?_)
  · exact kr_v C G rfl (Nat.le_refl _) (Nat.le_refl _) dJ7_checkLength_df160_37
  · exact absurd (nI_le ha hb1) c_2
set_option maxRecDepth 100000 in
set_option maxHeartbeats 4000000 in
theorem c_J7_copyOfRangeByte (Z : zT) (l : Launch) (q L a b : Nat) (f : Nat → Int32) (hf : sb_Fit f) (ha : a ≤ b) (hb1 : b ≤ L) (hL : L < 2 ^ 29) : Kq Z l yJ7_copyOfRangeByte_39247 cJ7_copyOfRangeByte_39247 5 (some (.array .byte)) ({ frames := 1, cells := 1, slots := b - a, locals := 60 }) [.ref q, .int (nI a), .int (nI b)] [(q, aB Z L f)] (fun r u => ∃ q' g, r = some q' ∧ (∀ i, i < b - a → g i = f (a + i)) ∧ sb_Fit g ∧ u = [(q, aB Z L f), (q', aB Z (b - a) g)]) := by
  intro sz
  refine Met.ofK (cc := cJ7_copyOfRangeByte_39247) (maxL := 5) (ret := (some (.array .byte))) (by decide) (Nat.le_of_ble_eq_true rfl) ?_
  intro p e s m below meth c ls C G hl
  generalize va_A _ sz = A at G ⊢
  have hx := C.1
  have hb := C.2.1
  have hown := C.2.2.2.2.2.1
  have hts := C.2.2.2.2.2.2.1
  refine lv_iload_n hx hb dJ7_copyOfRangeByte_39247_0 rfl (lv_at hl 1 rfl) ?_
  refine lv_iload_n hx hb dJ7_copyOfRangeByte_39247_1 rfl (lv_at hl 2 rfl) ?_
  have hX : List.Perm ([(q, aB Z L f)]) ([] ++ ([(q, aB Z L f)])) := (perm_ix [0] rfl 1 (by decide) rfl)
  refine kc_v (Wc := []) (Wr := [(q, aB Z L f)]) G hX (krS 2 rfl (As := [.int (nI a), .int (nI b)]) (rest := []) C G hX (c_J7_checkLength Z l a b ha (by omega) _) (gdS ml_J7_343 sm_J7_checkLength_df160 ii_J7 co_J7_checkLength_df160) (by decide +kernel) ⟨Nat.le_of_ble_eq_true rfl, Nat.le_of_ble_eq_true rfl⟩ hl rfl (Nat.le_of_ble_eq_true rfl) ⟨Nat.le_of_ble_eq_true rfl, Nat.le_of_ble_eq_true rfl⟩ dJ7_copyOfRangeByte_39247_2) (fun u H locs hu G => ?_)
  subst hu
  have G : wd Z A s ([(q, aB Z L f)]) H locs := G
  refine lv_iload_n hx hb dJ7_copyOfRangeByte_39247_5 rfl (lv_at hl 2 rfl) ?_
  refine lv_iload_n hx hb dJ7_copyOfRangeByte_39247_6 rfl (lv_at hl 1 rfl) ?_
  refine lv_isub hx hb dJ7_copyOfRangeByte_39247_7 ?_
  refine k_topi (y := nI (b - a)) (by exact pk_sub ha) ?_
  refine lv_istore_n (lv' := [(3, .int (nI (b - a))), (0, .ref q), (1, .int (nI a)), (2, .int (nI b))]) hx hb dJ7_copyOfRangeByte_39247_8 rfl hl (by decide) rfl (fun ls hl => ?_)
  refine lv_iload_n hx hb dJ7_copyOfRangeByte_39247_9 rfl (lv_at hl 0 rfl) ?_
  refine k_newa (i := nI (b - a)) (N' := b - a) (ty := .byte) C G 0 rfl rfl rfl ac_byte (by exact nI_pos (by omega)) (by exact nI_clamp (by omega)) (by show (b - a) * 1 ≤ _; omega) (Nat.le_of_ble_eq_true rfl) (by show 0 + 0 + (b - a) ≤ b - a; omega) dJ7_copyOfRangeByte_39247_10 (fun qn H (G : wd Z A s ([(q, aB Z L f), (qn, aB Z (b - a) (fun _ => 0))]) H _) => ?_)
  refine lv_astore (lv' := [(4, .ref qn), (3, .int (nI (b - a))), (0, .ref q), (1, .int (nI a)), (2, .int (nI b))]) hx hb dJ7_copyOfRangeByte_39247_12 hl (by decide) rfl (fun ls hl => ?_)
  refine lv_aload_n hx hb dJ7_copyOfRangeByte_39247_14 rfl (lv_at hl 2 rfl) ?_
  refine lv_iload_n hx hb dJ7_copyOfRangeByte_39247_15 rfl (lv_at hl 3 rfl) ?_
  refine lv_aload hx hb dJ7_copyOfRangeByte_39247_16 (lv_at hl 0 rfl) ?_
  refine lv_iconst (v := 0) hx hb dJ7_copyOfRangeByte_39247_18 (by decide) ?_
  refine lv_aload_n hx hb dJ7_copyOfRangeByte_39247_19 rfl (lv_at hl 2 rfl) ?_
  refine k_alen (ty := .byte) C G 0 0 rfl rfl dJ7_copyOfRangeByte_39247_20 ?_
  refine lv_iload_n hx hb dJ7_copyOfRangeByte_39247_21 rfl (lv_at hl 3 rfl) ?_
  refine lv_isub hx hb dJ7_copyOfRangeByte_39247_22 ?_
  refine lv_iload_n hx hb dJ7_copyOfRangeByte_39247_23 rfl (lv_at hl 1 rfl) ?_
  refine k_mmin C hl.1 ml_J7_304 sm_J9_min_7cf53 ii_J9 co_min (Nat.le_of_ble_eq_true rfl) (Nat.le_of_ble_eq_true rfl) (Nat.le_of_ble_eq_true rfl) (by show 0 + 0 + (b - a) ≤ b - a; omega) dJ7_copyOfRangeByte_39247_24 ?_
  refine k_topi (y := nI (b - a)) (by rw [pk_sub (by omega)]; exact min_nI (by omega) (by omega)) ?_
  refine k_copyb (q0 := 0) (q1 := 1) C G hl.1 ml_J7_150 nt_System_arraycopy__Ljava_lang_Object_ILjava_lang_Object_II_V sm_System_arraycopy__Ljava_lang_Object_ILjava_lang_Object_II_V ii_J10 rfl rfl (nI_pos (by omega)) (by decide) (nI_pos (by omega)) (by rw [nI_clamp (by omega), nI_clamp (by omega)]; omega) (by rw [nI_clamp (by omega)]; show 0 + (b - a) ≤ b - a; omega) hf (Nat.le_of_ble_eq_true rfl) (Nat.le_of_ble_eq_true rfl) dJ7_copyOfRangeByte_39247_27 (fun H locs G => ?_)
  have G : wd Z A s ([(q, aB Z L f), (qn, aB Z (b - a) (va_cpy f (fun _ => 0) (nI a).toNatClampNeg (0 : Int32).toNatClampNeg (nI (b - a)).toNatClampNeg))]) H locs := G
  refine lv_aload hx hb dJ7_copyOfRangeByte_39247_30 (lv_at hl 0 rfl) ?_
  refine kr_q (r := some qn) C G (Or.inr ⟨_, rfl⟩) ⟨qn, _, rfl, ?_, ?_, rfl⟩ (Nat.le_of_ble_eq_true rfl) (by show 0 + 0 + (b - a) ≤ b - a; omega) dJ7_copyOfRangeByte_39247_32
  · intro i hi
    rw [pk_cpy_in (by show 0 ≤ i; omega) (by rw [nI_clamp (by omega)]; show i < 0 + (b - a); omega), nI_clamp (by omega)]; rfl
  · exact sb_fitC hf sb_fit0
set_option maxRecDepth 100000 in
set_option maxHeartbeats 4000000 in
theorem c_J7_copyOfRange (Z : zT) (l : Launch) (q L a b : Nat) (f : Nat → Int32) (hf : sb_Fit f) (ha : a ≤ b) (hb1 : b ≤ L) (hL : L < 2 ^ 29) : Kq Z l yJ7_copyOfRange_39247 cJ7_copyOfRange_39247 3 (some (.array .byte)) ({ frames := 2, cells := 1, slots := b - a, locals := 90 }) [.ref q, .int (nI a), .int (nI b)] [(q, aB Z L f)] (fun r u => ∃ q' g, r = some q' ∧ (∀ i, i < b - a → g i = f (a + i)) ∧ sb_Fit g ∧ u = [(q, aB Z L f), (q', aB Z (b - a) g)]) := by
  intro sz
  refine Met.ofK (cc := cJ7_copyOfRange_39247) (maxL := 3) (ret := (some (.array .byte))) (by decide) (Nat.le_of_ble_eq_true rfl) ?_
  intro p e s m below meth c ls C G hl
  generalize va_A _ sz = A at G ⊢
  have hx := C.1
  have hb := C.2.1
  have hown := C.2.2.2.2.2.1
  have hts := C.2.2.2.2.2.2.1
  refine lv_iload_n hx hb dJ7_copyOfRange_39247_0 rfl (lv_at hl 1 rfl) ?_
  refine lv_if_ne (tgt := 10) hx hb dJ7_copyOfRange_39247_1 (by decide) (fun c_1 => ?_) (fun c_1 => ?_)
  · refine lv_aload_n hx hb dJ7_copyOfRange_39247_10 rfl (lv_at hl 0 rfl) ?_
    refine lv_iload_n hx hb dJ7_copyOfRange_39247_11 rfl (lv_at hl 1 rfl) ?_
    refine lv_iload_n hx hb dJ7_copyOfRange_39247_12 rfl (lv_at hl 2 rfl) ?_
    have hX : List.Perm ([(q, aB Z L f)]) ([(q, aB Z L f)] ++ ([])) := (perm_ix [0] rfl 1 (by decide) rfl)
    refine kc_q (Wc := [(q, aB Z L f)]) (Wr := []) G hX (krS 3 rfl (As := [.ref q, .int (nI a), .int (nI b)]) (rest := []) C G hX (c_J7_copyOfRangeByte Z l q L a b f hf ha hb1 hL _) (gdS ml_J7_339 sm_J7_copyOfRangeByte_39247 ii_J7 co_J7_copyOfRangeByte_39247) (by decide +kernel) ⟨Nat.le_of_ble_eq_true rfl, Nat.le_of_ble_eq_true rfl⟩ hl rfl (Nat.le_of_ble_eq_true rfl) ⟨Nat.le_of_ble_eq_true rfl, Nat.le_of_eq (Nat.zero_add _)⟩ dJ7_copyOfRange_39247_13) (fun r_13 u H locs hu G => ?_)
    obtain ⟨qn, g, rfl, hg, hg2, rfl⟩ := hu
    have G : wd Z A s ([(q, aB Z L f), (qn, aB Z (b - a) g)]) H locs := G
    exact kr_q (r := some qn) C G (Or.inr ⟨_, rfl⟩) ⟨qn, g, rfl, hg, hg2, rfl⟩ (Nat.le_of_ble_eq_true rfl) (Nat.le_of_eq (Nat.zero_add _)) dJ7_copyOfRange_39247_16
  · refine lv_iload_n hx hb dJ7_copyOfRange_39247_4 rfl (lv_at hl 2 rfl) ?_
    refine lv_aload_n hx hb dJ7_copyOfRange_39247_5 rfl (lv_at hl 0 rfl) ?_
    refine k_alen (ty := .byte) C G 0 0 rfl rfl dJ7_copyOfRange_39247_6 ?_
    refine lv_icmp_eq (tgt := 17) hx hb dJ7_copyOfRange_39247_7 (by decide) (fun c_7 => ?_) (fun c_7 => ?_)
    · refine lv_aload_n hx hb dJ7_copyOfRange_39247_17 rfl (lv_at hl 0 rfl) ?_
      have e1 : a = 0 := (nI_eq (b := 0) (by omega) (by omega)).mp c_1
      have e2 : b = L := (nI_eq (by omega) (by omega)).mp c_7
      refine k_cloneb (q0 := 0) C G hl.1 ml_J7_310 rfl hf (Nat.le_of_ble_eq_true rfl) (Nat.le_of_ble_eq_true rfl) (Nat.le_of_ble_eq_true rfl) (by show 0 + L ≤ b - a; omega) dJ7_copyOfRange_39247_18 (fun qn H G => ?_)
      have G : wd Z A s ([(q, aB Z L f), (qn, aB Z L f)]) H _ := G
      refine k_castb (q0 := 1) C G cl_J7_311 rfl dJ7_copyOfRange_39247_21 ?_
      have e1 : a = 0 := (nI_eq (by omega) (by omega)).mp c_1
      have e2 : b = L := (nI_eq (by omega) (by omega)).mp c_7
      subst e1; subst e2
      exact kr_q (r := some qn) C G (Or.inr ⟨_, rfl⟩) ⟨qn, f, rfl, fun i _ => by rw [Nat.zero_add], hf, rfl⟩ (Nat.le_of_ble_eq_true rfl) (by show 0 + b ≤ b - 0; omega) dJ7_copyOfRange_39247_24
    · refine lv_aload_n hx hb dJ7_copyOfRange_39247_10 rfl (lv_at hl 0 rfl) ?_
      refine lv_iload_n hx hb dJ7_copyOfRange_39247_11 rfl (lv_at hl 1 rfl) ?_
      refine lv_iload_n hx hb dJ7_copyOfRange_39247_12 rfl (lv_at hl 2 rfl) ?_
      have hX : List.Perm ([(q, aB Z L f)]) ([(q, aB Z L f)] ++ ([])) := (perm_ix [0] rfl 1 (by decide) rfl)
      refine kc_q (Wc := [(q, aB Z L f)]) (Wr := []) G hX (krS 3 rfl (As := [.ref q, .int (nI a), .int (nI b)]) (rest := []) C G hX (c_J7_copyOfRangeByte Z l q L a b f hf ha hb1 hL _) (gdS ml_J7_339 sm_J7_copyOfRangeByte_39247 ii_J7 co_J7_copyOfRangeByte_39247) (by decide +kernel) ⟨Nat.le_of_ble_eq_true rfl, Nat.le_of_ble_eq_true rfl⟩ hl rfl (Nat.le_of_ble_eq_true rfl) ⟨Nat.le_of_ble_eq_true rfl, Nat.le_of_eq (Nat.zero_add _)⟩ dJ7_copyOfRange_39247_13) (fun r_13_1 u H locs hu G => ?_)
      obtain ⟨qn, g, rfl, hg, hg2, rfl⟩ := hu
      have G : wd Z A s ([(q, aB Z L f), (qn, aB Z (b - a) g)]) H locs := G
      exact kr_q (r := some qn) C G (Or.inr ⟨_, rfl⟩) ⟨qn, g, rfl, hg, hg2, rfl⟩ (Nat.le_of_ble_eq_true rfl) (Nat.le_of_eq (Nat.zero_add _)) dJ7_copyOfRange_39247_16
