/-! MODULE ArrayList (JDK), third part: add, remove. -/
def insG (g g2 : Nat → Option Nat) (i n v : Nat) : Prop := (∀ j, j < i → g2 j = g j) ∧ g2 i = some v ∧ ∀ j, i ≤ j → j < n → g2 (j + 1) = g j
def delG (g g2 : Nat → Option Nat) (i n : Nat) : Prop := (∀ j, j < i → g2 j = g j) ∧ ∀ j, i ≤ j → j + 1 < n → g2 j = g (j + 1)
theorem insG_cpy {g : Nat → Option Nat} {i n v : Nat} (hi : i ≤ n) : insG g (va_up (va_cpy g g i (i + 1) (n - i)) i (some v)) i n v := by
  refine ⟨fun j hj => ?_, ?_, fun j h1 h2 => ?_⟩
  · simp only [va_up, va_cpy]; rw [if_neg (by omega), if_neg (by omega)]
  · simp only [va_up]; rw [if_pos trivial]
  · simp only [va_up, va_cpy]; rw [if_neg (by omega), if_pos (by omega)]; congr 1; omega
theorem delG_cpy {g : Nat → Option Nat} {i n : Nat} (hi : i < n) : delG g (va_up (va_cpy g g (i + 1) i (n - 1 - i)) (n - 1) none) i n := by
  refine ⟨fun j hj => ?_, fun j h1 h2 => ?_⟩
  · simp only [va_up, va_cpy]; rw [if_neg (by omega), if_neg (by omega)]
  · simp only [va_up, va_cpy]; rw [if_neg (by omega), if_pos (by omega)]; congr 1; omega
set_option maxRecDepth 100000 in
set_option maxHeartbeats 4000000 in
theorem c_addA (Z : zT) (l : Launch) (a : Nat) (mc : Int32) (T : va_W) (v : Nat) (fs : List Value) (hv : (v, .inr (2, fs)) ∈ T) : Kv Z l yJx4a65c_add_7a177 cJx4a65c_add_7a177 5 none ({ frames := 3, cells := 1, slots := 10, locals := 80 }) [.ref a, .int (nI 0), .ref v] ([liC a mc Z.2.2.2.1 0] ++ T) (fun u => ∃ qn g2, g2 0 = some v ∧ u = [liC a (mc + 1) qn 1, (qn, aO Z 10 g2)] ++ T) := by
  intro sz
  refine Met.ofK (cc := cJx4a65c_add_7a177) (maxL := 5) (ret := none) (by decide) (Nat.le_of_ble_eq_true rfl) ?_
  intro p e s m below meth c ls C G hl
  generalize va_A _ sz = A at G ⊢
  have hx := C.1
  have hb := C.2.1
  have hown := C.2.2.2.2.2.1
  have hts := C.2.2.2.2.2.2.1
  refine lv_aload_n hx hb dJx4a65c_add_7a177_0 rfl (lv_at hl 0 rfl) ?_
  refine lv_iload_n hx hb dJx4a65c_add_7a177_1 rfl (lv_at hl 1 rfl) ?_
  have hX : List.Perm (α := Nat × va_E) ([(a, .inr (0, [.int mc, .ref Z.2.2.2.1, .int (nI 0)]))] ++ T) (([(a, .inr (0, [.int mc, .ref Z.2.2.2.1, .int (nI 0)]))]) ++ (T)) := (perm_sg [[(a, .inr (0, [.int mc, .ref Z.2.2.2.1, .int (nI 0)]))], T] [[(a, .inr (0, [.int mc, .ref Z.2.2.2.1, .int (nI 0)]))]] [T] [0, 1] rfl 2 (by decide) rfl rfl rfl rfl)
  refine kc_v (Wc := [(a, .inr (0, [.int mc, .ref Z.2.2.2.1, .int (nI 0)]))]) (Wr := T) G hX (krV 1 rfl (As := [.int (nI 0)]) (rest := []) (ci := 0) (CC := RJx4a65c) (T := TJx4a65c) (N := 3) C G hX (c_Jx4a65c_rangeCheckForAdd Z l a Z.2.2.2.1 0 0 mc (by omega) (by omega) _) (gdV ml_Jx4a65c_135 im_Jx4a65c_rangeCheckForAdd_d00df se_Jx4a65c_rangeCheckForAdd_d00df ii_Jx4a65c co_Jx4a65c_rangeCheckForAdd_d00df) (by decide +kernel) ⟨Nat.le_of_ble_eq_true rfl, Nat.le_of_ble_eq_true rfl⟩ rfl 0 rfl hl rfl (Nat.le_of_ble_eq_true rfl) ⟨Nat.le_of_ble_eq_true rfl, Nat.le_of_ble_eq_true rfl⟩ dJx4a65c_add_7a177_2) (fun u H locs hu G => ?_)
  subst hu
  have G : wd Z A s ([(a, .inr (0, [.int mc, .ref Z.2.2.2.1, .int (nI 0)]))] ++ T) H locs := G.perm (show List.Perm (α := Nat × va_E) (([(a, .inr (0, [.int mc, .ref Z.2.2.2.1, .int (nI 0)]))]) ++ (T)) ([(a, .inr (0, [.int mc, .ref Z.2.2.2.1, .int (nI 0)]))] ++ T) from (perm_sg [[(a, .inr (0, [.int mc, .ref Z.2.2.2.1, .int (nI 0)]))], T] [[(a, .inr (0, [.int mc, .ref Z.2.2.2.1, .int (nI 0)]))]] [T] [0, 1] rfl 2 (by decide) rfl rfl rfl rfl).symm)
  refine lv_aload_n hx hb dJx4a65c_add_7a177_5 rfl (lv_at hl 0 rfl) ?_
  refine lv_dup hx hb dJx4a65c_add_7a177_6 rfl ?_
  refine k_getMC (v := .int mc) C G 0 rfl fl_Jx4a65c_63 rfl dJx4a65c_add_7a177_7 ?_
  refine lv_iconst (v := 1) hx hb dJx4a65c_add_7a177_10 (by decide) ?_
  refine lv_iadd hx hb dJx4a65c_add_7a177_11 ?_
  refine k_putMC C G 0 rfl fl_Jx4a65c_63 (Nat.le_of_ble_eq_true rfl) dJx4a65c_add_7a177_12 (fun H locs (G : wd Z A s ([(a, .inr (0, [.int (mc + 1), .ref Z.2.2.2.1, .int (nI 0)]))] ++ T) H locs) => ?_)
  refine lv_aload_n hx hb dJx4a65c_add_7a177_15 rfl (lv_at hl 0 rfl) ?_
  refine k_get (ci := 0) (CC := RJx4a65c) (T := TJx4a65c) (N := 3) (v := .int (nI 0)) C G 0 rfl rfl in_0 2 (by decide) fl_Jx4a65c_48 rfl rfl dJx4a65c_add_7a177_16 ?_
  refine lv_dup hx hb dJx4a65c_add_7a177_19 rfl ?_
  refine lv_istore_n (lv' := [(3, .int (nI 0)), (0, .ref a), (1, .int (nI 0)), (2, .ref v)]) hx hb dJx4a65c_add_7a177_20 rfl hl (by decide) rfl (fun ls hl => ?_)
  refine lv_aload_n hx hb dJx4a65c_add_7a177_21 rfl (lv_at hl 1 rfl) ?_
  refine k_get (ci := 0) (CC := RJx4a65c) (T := TJx4a65c) (N := 3) (v := .ref Z.2.2.2.1) C G 0 rfl rfl in_0 1 (by decide) fl_Jx4a65c_9 rfl rfl dJx4a65c_add_7a177_22 ?_
  refine lv_dup hx hb dJx4a65c_add_7a177_25 rfl ?_
  refine lv_astore (lv' := [(4, .ref Z.2.2.2.1), (3, .int (nI 0)), (0, .ref a), (1, .int (nI 0)), (2, .ref v)]) hx hb dJx4a65c_add_7a177_26 hl (by decide) rfl (fun ls hl => ?_)
  refine k_lenE C G dJx4a65c_add_7a177_28 ?_
  refine lv_icmp_ne (tgt := 38) hx hb dJx4a65c_add_7a177_29 (by decide) (fun c_29 => ?_) (fun c_29 => ?_)
  · exact absurd rfl c_29
  · refine lv_aload_n hx hb dJx4a65c_add_7a177_32 rfl (lv_at hl 2 rfl) ?_
    have hX : List.Perm (α := Nat × va_E) ([(a, .inr (0, [.int (mc + 1), .ref Z.2.2.2.1, .int (nI 0)]))] ++ T) (([(a, .inr (0, [.int (mc + 1), .ref Z.2.2.2.1, .int (nI 0)]))]) ++ (T)) := (perm_sg [[(a, .inr (0, [.int (mc + 1), .ref Z.2.2.2.1, .int (nI 0)]))], T] [[(a, .inr (0, [.int (mc + 1), .ref Z.2.2.2.1, .int (nI 0)]))]] [T] [0, 1] rfl 2 (by decide) rfl rfl rfl rfl)
    refine kc_q (Wc := [(a, .inr (0, [.int (mc + 1), .ref Z.2.2.2.1, .int (nI 0)]))]) (Wr := T) G hX (krV 0 rfl (As := []) (rest := []) (ci := 0) (CC := RJx4a65c) (T := TJx4a65c) (N := 3) C G hX (c_growA Z l a (mc + 1) _) (gdV ml_Jx4a65c_129 im_Jx4a65c_grow_d5877 se_Jx4a65c_grow_d5877 ii_Jx4a65c co_Jx4a65c_grow_d5877) (by decide +kernel) ⟨Nat.le_of_ble_eq_true rfl, Nat.le_of_ble_eq_true rfl⟩ rfl 0 rfl hl rfl (Nat.le_of_ble_eq_true rfl) ⟨Nat.le_of_ble_eq_true rfl, Nat.le_of_ble_eq_true rfl⟩ dJx4a65c_add_7a177_33) (fun r_33 u H locs hu G => ?_)
    obtain ⟨qn, rfl, rfl⟩ := hu
    have G : wd Z A s ([(a, .inr (0, [.int (mc + 1), .ref qn, .int (nI 0)])), (qn, aO Z 10 (fun _ => none))] ++ T) H locs := G.perm (show List.Perm (α := Nat × va_E) (([(a, .inr (0, [.int (mc + 1), .ref qn, .int (nI 0)])), (qn, aO Z 10 (fun _ => none))]) ++ (T)) ([(a, .inr (0, [.int (mc + 1), .ref qn, .int (nI 0)])), (qn, aO Z 10 (fun _ => none))] ++ T) from (perm_sg [[(a, .inr (0, [.int (mc + 1), .ref qn, .int (nI 0)]))], [(qn, aO Z 10 (fun _ => none))], T] [[(a, .inr (0, [.int (mc + 1), .ref qn, .int (nI 0)]))], [(qn, aO Z 10 (fun _ => none))]] [T] [0, 1, 2] rfl 3 (by decide) rfl rfl rfl rfl).symm)
    refine lv_astore (lv' := [(4, .ref qn), (3, .int (nI 0)), (0, .ref a), (1, .int (nI 0)), (2, .ref v)]) hx hb dJx4a65c_add_7a177_36 hl (by decide) rfl (fun ls hl => ?_)
    refine lv_aload hx hb dJx4a65c_add_7a177_38 (lv_at hl 0 rfl) ?_
    refine lv_iload_n hx hb dJx4a65c_add_7a177_40 rfl (lv_at hl 3 rfl) ?_
    refine lv_aload hx hb dJx4a65c_add_7a177_41 (lv_at hl 0 rfl) ?_
    refine lv_iload_n hx hb dJx4a65c_add_7a177_43 rfl (lv_at hl 3 rfl) ?_
    refine lv_iconst (v := 1) hx hb dJx4a65c_add_7a177_44 (by decide) ?_
    refine lv_iadd hx hb dJx4a65c_add_7a177_45 ?_
    refine k_topi (y := 1) (by decide) ?_
    refine lv_iload_n hx hb dJx4a65c_add_7a177_46 rfl (lv_at hl 1 rfl) ?_
    refine lv_iload_n hx hb dJx4a65c_add_7a177_47 rfl (lv_at hl 3 rfl) ?_
    refine lv_isub hx hb dJx4a65c_add_7a177_48 ?_
    refine k_topi (y := 0) (by decide) ?_
    refine k_copyO (q0 := 1) (q1 := 1) C G hl.1 ml_Jx4a65c_112 rfl rfl (by decide) (by decide) (by decide) (by decide) (by decide) (fun i hi y hy => by cases hy) (Nat.le_of_ble_eq_true rfl) (Nat.le_of_ble_eq_true rfl) dJx4a65c_add_7a177_49 (fun H locs G => ?_)
    have G : wd Z A s ([(a, .inr (0, [.int (mc + 1), .ref qn, .int (nI 0)])), (qn, aO Z 10 (va_cpy (fun _ => none) (fun _ => none) (nI 0).toNatClampNeg (1 : Int32).toNatClampNeg (0 : Int32).toNatClampNeg))] ++ T) H locs := G
    refine lv_aload hx hb dJx4a65c_add_7a177_52 (lv_at hl 0 rfl) ?_
    refine lv_iload_n hx hb dJx4a65c_add_7a177_54 rfl (lv_at hl 3 rfl) ?_
    refine lv_aload_n hx hb dJx4a65c_add_7a177_55 rfl (lv_at hl 4 rfl) ?_
    refine k_oastO C G 1 rfl (List.mem_append_right _ hv) (by unfold vp_in; decide) dJx4a65c_add_7a177_56 (fun H locs (G : wd Z A s ([(a, .inr (0, [.int (mc + 1), .ref qn, .int (nI 0)])), (qn, aO Z 10 (va_up (va_cpy (fun _ => none) (fun _ => none) (nI 0).toNatClampNeg (1 : Int32).toNatClampNeg (0 : Int32).toNatClampNeg) (nI 0).toNatClampNeg (some v)))] ++ T) H locs) => ?_)
    refine lv_aload_n hx hb dJx4a65c_add_7a177_57 rfl (lv_at hl 2 rfl) ?_
    refine lv_iload_n hx hb dJx4a65c_add_7a177_58 rfl (lv_at hl 1 rfl) ?_
    refine lv_iconst (v := 1) hx hb dJx4a65c_add_7a177_59 (by decide) ?_
    refine lv_iadd hx hb dJx4a65c_add_7a177_60 ?_
    refine k_topi (y := nI 1) (by decide) ?_
    refine k_put (ci := 0) (CC := RJx4a65c) (T := TJx4a65c) (N := 3) (ty := .int) (v := .int (nI 1)) C G 0 rfl rfl in_0 tyJx4a65c tyJx4a65c_ok nmJx4a65c 2 (by decide) fl_Jx4a65c_48 rfl rfl rfl rfl rfl (Nat.le_of_ble_eq_true rfl) dJx4a65c_add_7a177_61 (fun H locs (G : wd Z A s ([(a, .inr (0, [.int (mc + 1), .ref qn, .int (nI 1)])), (qn, aO Z 10 (va_up (va_cpy (fun _ => none) (fun _ => none) (nI 0).toNatClampNeg (1 : Int32).toNatClampNeg (0 : Int32).toNatClampNeg) (nI 0).toNatClampNeg (some v)))] ++ T) H locs) => ?_)
    exact kr_v C G ⟨qn, _, rfl, rfl⟩ (Nat.le_of_ble_eq_true rfl) (Nat.le_of_ble_eq_true rfl) dJx4a65c_add_7a177_64
set_option maxRecDepth 100000 in
set_option maxHeartbeats 4000000 in
theorem c_addB (Z : zT) (l : Launch) (a qe n i cap : Nat) (mc : Int32) (g : Nat → Option Nat) (T : va_W) (v : Nat) (fs : List Value) (hv : (v, .inr (2, fs)) ∈ T) (hb0 : ∀ j, j < n → ∀ y, g j = some y → ∃ fs, (y, .inr (2, fs)) ∈ T) (hi : i ≤ n) (hn : n < cap) (hcap : cap < 2 ^ 20) : Kv Z l yJx4a65c_add_7a177 cJx4a65c_add_7a177 5 none ({ frames := 1, cells := 0, slots := 0, locals := 40 }) [.ref a, .int (nI i), .ref v] ([liC a mc qe n, (qe, aO Z cap g)] ++ T) (fun u => ∃ g2, insG g g2 i n v ∧ u = [liC a (mc + 1) qe (n + 1), (qe, aO Z cap g2)] ++ T) := by
  intro sz
  refine Met.ofK (cc := cJx4a65c_add_7a177) (maxL := 5) (ret := none) (by decide) (Nat.le_of_ble_eq_true rfl) ?_
  intro p e s m below meth c ls C G hl
  generalize va_A _ sz = A at G ⊢
  have hx := C.1
  have hb := C.2.1
  have hown := C.2.2.2.2.2.1
  have hts := C.2.2.2.2.2.2.1
  refine lv_aload_n hx hb dJx4a65c_add_7a177_0 rfl (lv_at hl 0 rfl) ?_
  refine lv_iload_n hx hb dJx4a65c_add_7a177_1 rfl (lv_at hl 1 rfl) ?_
  have hX : List.Perm (α := Nat × va_E) ([(a, .inr (0, [.int mc, .ref qe, .int (nI n)])), (qe, aO Z cap g)] ++ T) (([(a, .inr (0, [.int mc, .ref qe, .int (nI n)]))]) ++ ([(qe, aO Z cap g)] ++ T)) := (perm_sg [[(a, .inr (0, [.int mc, .ref qe, .int (nI n)]))], [(qe, aO Z cap g)], T] [[(a, .inr (0, [.int mc, .ref qe, .int (nI n)]))]] [[(qe, aO Z cap g)], T] [0, 1, 2] rfl 3 (by decide) rfl rfl rfl rfl)
  refine kc_v (Wc := [(a, .inr (0, [.int mc, .ref qe, .int (nI n)]))]) (Wr := [(qe, aO Z cap g)] ++ T) G hX (krV 1 rfl (As := [.int (nI i)]) (rest := []) (ci := 0) (CC := RJx4a65c) (T := TJx4a65c) (N := 3) C G hX (c_Jx4a65c_rangeCheckForAdd Z l a qe n i mc hi (by omega) _) (gdV ml_Jx4a65c_135 im_Jx4a65c_rangeCheckForAdd_d00df se_Jx4a65c_rangeCheckForAdd_d00df ii_Jx4a65c co_Jx4a65c_rangeCheckForAdd_d00df) (by decide +kernel) ⟨Nat.le_of_ble_eq_true rfl, Nat.le_of_ble_eq_true rfl⟩ rfl 0 rfl hl rfl (Nat.le_of_ble_eq_true rfl) ⟨Nat.le_of_ble_eq_true rfl, Nat.le_of_ble_eq_true rfl⟩ dJx4a65c_add_7a177_2) (fun u H locs hu G => ?_)
  subst hu
  have G : wd Z A s ([(a, .inr (0, [.int mc, .ref qe, .int (nI n)])), (qe, aO Z cap g)] ++ T) H locs := G.perm (show List.Perm (α := Nat × va_E) (([(a, .inr (0, [.int mc, .ref qe, .int (nI n)]))]) ++ ([(qe, aO Z cap g)] ++ T)) ([(a, .inr (0, [.int mc, .ref qe, .int (nI n)])), (qe, aO Z cap g)] ++ T) from (perm_sg [[(a, .inr (0, [.int mc, .ref qe, .int (nI n)]))], [(qe, aO Z cap g)], T] [[(a, .inr (0, [.int mc, .ref qe, .int (nI n)]))]] [[(qe, aO Z cap g)], T] [0, 1, 2] rfl 3 (by decide) rfl rfl rfl rfl).symm)
  refine lv_aload_n hx hb dJx4a65c_add_7a177_5 rfl (lv_at hl 0 rfl) ?_
  refine lv_dup hx hb dJx4a65c_add_7a177_6 rfl ?_
  refine k_getMC (v := .int mc) C G 0 rfl fl_Jx4a65c_63 rfl dJx4a65c_add_7a177_7 ?_
  refine lv_iconst (v := 1) hx hb dJx4a65c_add_7a177_10 (by decide) ?_
  refine lv_iadd hx hb dJx4a65c_add_7a177_11 ?_
  refine k_putMC C G 0 rfl fl_Jx4a65c_63 (Nat.le_of_ble_eq_true rfl) dJx4a65c_add_7a177_12 (fun H locs (G : wd Z A s ([(a, .inr (0, [.int (mc + 1), .ref qe, .int (nI n)])), (qe, aO Z cap g)] ++ T) H locs) => ?_)
  refine lv_aload_n hx hb dJx4a65c_add_7a177_15 rfl (lv_at hl 0 rfl) ?_
  refine k_get (ci := 0) (CC := RJx4a65c) (T := TJx4a65c) (N := 3) (v := .int (nI n)) C G 0 rfl rfl in_0 2 (by decide) fl_Jx4a65c_48 rfl rfl dJx4a65c_add_7a177_16 ?_
  refine lv_dup hx hb dJx4a65c_add_7a177_19 rfl ?_
  refine lv_istore_n (lv' := [(3, .int (nI n)), (0, .ref a), (1, .int (nI i)), (2, .ref v)]) hx hb dJx4a65c_add_7a177_20 rfl hl (by decide) rfl (fun ls hl => ?_)
  refine lv_aload_n hx hb dJx4a65c_add_7a177_21 rfl (lv_at hl 1 rfl) ?_
  refine k_get (ci := 0) (CC := RJx4a65c) (T := TJx4a65c) (N := 3) (v := .ref qe) C G 0 rfl rfl in_0 1 (by decide) fl_Jx4a65c_9 rfl rfl dJx4a65c_add_7a177_22 ?_
  refine lv_dup hx hb dJx4a65c_add_7a177_25 rfl ?_
  refine lv_astore (lv' := [(4, .ref qe), (3, .int (nI n)), (0, .ref a), (1, .int (nI i)), (2, .ref v)]) hx hb dJx4a65c_add_7a177_26 hl (by decide) rfl (fun ls hl => ?_)
  refine k_alen (ty := .object "java/lang/Object") C G 1 4 rfl rfl dJx4a65c_add_7a177_28 ?_
  refine lv_icmp_ne (tgt := 38) hx hb dJx4a65c_add_7a177_29 (by decide) (fun c_29 => ?_) (fun c_29 => ?_)
  · refine lv_aload hx hb dJx4a65c_add_7a177_38 (lv_at hl 0 rfl) ?_
    refine lv_iload_n hx hb dJx4a65c_add_7a177_40 rfl (lv_at hl 3 rfl) ?_
    refine lv_aload hx hb dJx4a65c_add_7a177_41 (lv_at hl 0 rfl) ?_
    refine lv_iload_n hx hb dJx4a65c_add_7a177_43 rfl (lv_at hl 3 rfl) ?_
    refine lv_iconst (v := 1) hx hb dJx4a65c_add_7a177_44 (by decide) ?_
    refine lv_iadd hx hb dJx4a65c_add_7a177_45 ?_
    refine k_topi (y := nI (i + 1)) (by exact nI_1 _) ?_
    refine lv_iload_n hx hb dJx4a65c_add_7a177_46 rfl (lv_at hl 1 rfl) ?_
    refine lv_iload_n hx hb dJx4a65c_add_7a177_47 rfl (lv_at hl 3 rfl) ?_
    refine lv_isub hx hb dJx4a65c_add_7a177_48 ?_
    refine k_topi (y := nI (n - i)) (by exact pk_sub hi) ?_
    refine k_copyO (q0 := 1) (q1 := 1) C G hl.1 ml_Jx4a65c_112 rfl rfl (by exact nI_pos (by omega)) (by exact nI_pos (by omega)) (by exact nI_pos (by omega)) (by rw [nI_clamp (by omega), nI_clamp (by omega)]; omega) (by rw [nI_clamp (by omega), nI_clamp (by omega)]; omega) (fun j hj y hy => by
    rw [nI_clamp (by omega)] at hj
    rw [nI_clamp (by omega)] at hy
    obtain ⟨fs, h9⟩ := hb0 (i + j) (by omega) y hy
    exact ⟨fs, List.mem_append_right _ h9⟩) (Nat.le_of_ble_eq_true rfl) (Nat.le_of_ble_eq_true rfl) dJx4a65c_add_7a177_49 (fun H locs G => ?_)
    have G : wd Z A s ([(a, .inr (0, [.int (mc + 1), .ref qe, .int (nI n)])), (qe, aO Z cap (va_cpy g g (nI i).toNatClampNeg (nI (i + 1)).toNatClampNeg (nI (n - i)).toNatClampNeg))] ++ T) H locs := G
    refine lv_aload hx hb dJx4a65c_add_7a177_52 (lv_at hl 0 rfl) ?_
    refine lv_iload_n hx hb dJx4a65c_add_7a177_54 rfl (lv_at hl 3 rfl) ?_
    refine lv_aload_n hx hb dJx4a65c_add_7a177_55 rfl (lv_at hl 4 rfl) ?_
    refine k_oastO C G 1 rfl (List.mem_append_right _ hv) (vp_in_nI (by omega) (by omega)) dJx4a65c_add_7a177_56 (fun H locs (G : wd Z A s ([(a, .inr (0, [.int (mc + 1), .ref qe, .int (nI n)])), (qe, aO Z cap (va_up (va_cpy g g (nI i).toNatClampNeg (nI (i + 1)).toNatClampNeg (nI (n - i)).toNatClampNeg) (nI i).toNatClampNeg (some v)))] ++ T) H locs) => ?_)
    refine lv_aload_n hx hb dJx4a65c_add_7a177_57 rfl (lv_at hl 2 rfl) ?_
    refine lv_iload_n hx hb dJx4a65c_add_7a177_58 rfl (lv_at hl 1 rfl) ?_
    refine lv_iconst (v := 1) hx hb dJx4a65c_add_7a177_59 (by decide) ?_
    refine lv_iadd hx hb dJx4a65c_add_7a177_60 ?_
    refine k_topi (y := nI (n + 1)) (by exact nI_1 _) ?_
    refine k_put (ci := 0) (CC := RJx4a65c) (T := TJx4a65c) (N := 3) (ty := .int) (v := .int (nI (n + 1))) C G 0 rfl rfl in_0 tyJx4a65c tyJx4a65c_ok nmJx4a65c 2 (by decide) fl_Jx4a65c_48 rfl rfl rfl rfl rfl (Nat.le_of_ble_eq_true rfl) dJx4a65c_add_7a177_61 (fun H locs (G : wd Z A s ([(a, .inr (0, [.int (mc + 1), .ref qe, .int (nI (n + 1))])), (qe, aO Z cap (va_up (va_cpy g g (nI i).toNatClampNeg (nI (i + 1)).toNatClampNeg (nI (n - i)).toNatClampNeg) (nI i).toNatClampNeg (some v)))] ++ T) H locs) => ?_)
    exact kr_v C G ⟨_, by rw [nI_clamp (by omega), nI_clamp (by omega), nI_clamp (by omega)]; exact insG_cpy hi, rfl⟩ (Nat.le_of_ble_eq_true rfl) (Nat.le_of_ble_eq_true rfl) dJx4a65c_add_7a177_64
  · exact absurd ((nI_eq (by omega) (by omega)).mp c_29) (by omega)
theorem cpy0 {g : Nat → Option Nat} {cap j : Nat} (h : j < cap) : va_cpy g (fun _ => none) 0 0 cap j = g j := by
  simp only [va_cpy]; rw [if_pos (by omega)]; congr 1; omega
theorem insG_trans {g g2 : Nat → Option Nat} {i cap v : Nat} (h : insG (va_cpy g (fun _ => none) 0 0 cap) g2 i cap v) : insG g g2 i cap v ∨ cap < i := by
  by_cases hi : cap < i
  · exact Or.inr hi
  · refine Or.inl ⟨fun j hj => ?_, h.2.1, fun j h1 h2 => ?_⟩
    · rw [h.1 j hj, cpy0 (by omega)]
    · rw [h.2.2 j h1 h2, cpy0 h2]
set_option maxRecDepth 100000 in
set_option maxHeartbeats 4000000 in
theorem c_addC (Z : zT) (l : Launch) (a qe i cap : Nat) (mc : Int32) (g : Nat → Option Nat) (T : va_W) (v : Nat) (fs : List Value) (hv : (v, .inr (2, fs)) ∈ T) (hb0 : ∀ j, j < cap → ∀ y, g j = some y → ∃ fs, (y, .inr (2, fs)) ∈ T) (hi : i ≤ cap) (h4 : 4 ≤ cap) (hcap : cap < 2 ^ 20) : Kv Z l yJx4a65c_add_7a177 cJx4a65c_add_7a177 5 none ({ frames := 5, cells := 1, slots := cap + cap / 2, locals := 160 }) [.ref a, .int (nI i), .ref v] ([liC a mc qe cap, (qe, aO Z cap g)] ++ T) (fun u => ∃ qn g2, insG g g2 i cap v ∧ u = [liC a (mc + 1) qn (cap + 1), (qn, aO Z (cap + cap / 2) g2)] ++ T) := by
  intro sz
  refine Met.ofK (cc := cJx4a65c_add_7a177) (maxL := 5) (ret := none) (by decide) (Nat.le_of_ble_eq_true rfl) ?_
  intro p e s m below meth c ls C G hl
  generalize va_A _ sz = A at G ⊢
  have hx := C.1
  have hb := C.2.1
  have hown := C.2.2.2.2.2.1
  have hts := C.2.2.2.2.2.2.1
  refine lv_aload_n hx hb dJx4a65c_add_7a177_0 rfl (lv_at hl 0 rfl) ?_
  refine lv_iload_n hx hb dJx4a65c_add_7a177_1 rfl (lv_at hl 1 rfl) ?_
  have hX : List.Perm (α := Nat × va_E) ([(a, .inr (0, [.int mc, .ref qe, .int (nI cap)])), (qe, aO Z cap g)] ++ T) (([(a, .inr (0, [.int mc, .ref qe, .int (nI cap)]))]) ++ ([(qe, aO Z cap g)] ++ T)) := (perm_sg [[(a, .inr (0, [.int mc, .ref qe, .int (nI cap)]))], [(qe, aO Z cap g)], T] [[(a, .inr (0, [.int mc, .ref qe, .int (nI cap)]))]] [[(qe, aO Z cap g)], T] [0, 1, 2] rfl 3 (by decide) rfl rfl rfl rfl)
  refine kc_v (Wc := [(a, .inr (0, [.int mc, .ref qe, .int (nI cap)]))]) (Wr := [(qe, aO Z cap g)] ++ T) G hX (krV 1 rfl (As := [.int (nI i)]) (rest := []) (ci := 0) (CC := RJx4a65c) (T := TJx4a65c) (N := 3) C G hX (c_Jx4a65c_rangeCheckForAdd Z l a qe cap i mc hi (by omega) _) (gdV ml_Jx4a65c_135 im_Jx4a65c_rangeCheckForAdd_d00df se_Jx4a65c_rangeCheckForAdd_d00df ii_Jx4a65c co_Jx4a65c_rangeCheckForAdd_d00df) (by decide +kernel) ⟨Nat.le_of_ble_eq_true rfl, Nat.le_of_ble_eq_true rfl⟩ rfl 0 rfl hl rfl (Nat.le_of_ble_eq_true rfl) ⟨Nat.le_of_ble_eq_true rfl, Nat.le_of_ble_eq_true rfl⟩ dJx4a65c_add_7a177_2) (fun u H locs hu G => ?_)
  subst hu
  have G : wd Z A s ([(a, .inr (0, [.int mc, .ref qe, .int (nI cap)])), (qe, aO Z cap g)] ++ T) H locs := G.perm (show List.Perm (α := Nat × va_E) (([(a, .inr (0, [.int mc, .ref qe, .int (nI cap)]))]) ++ ([(qe, aO Z cap g)] ++ T)) ([(a, .inr (0, [.int mc, .ref qe, .int (nI cap)])), (qe, aO Z cap g)] ++ T) from (perm_sg [[(a, .inr (0, [.int mc, .ref qe, .int (nI cap)]))], [(qe, aO Z cap g)], T] [[(a, .inr (0, [.int mc, .ref qe, .int (nI cap)]))]] [[(qe, aO Z cap g)], T] [0, 1, 2] rfl 3 (by decide) rfl rfl rfl rfl).symm)
  refine lv_aload_n hx hb dJx4a65c_add_7a177_5 rfl (lv_at hl 0 rfl) ?_
  refine lv_dup hx hb dJx4a65c_add_7a177_6 rfl ?_
  refine k_getMC (v := .int mc) C G 0 rfl fl_Jx4a65c_63 rfl dJx4a65c_add_7a177_7 ?_
  refine lv_iconst (v := 1) hx hb dJx4a65c_add_7a177_10 (by decide) ?_
  refine lv_iadd hx hb dJx4a65c_add_7a177_11 ?_
  refine k_putMC C G 0 rfl fl_Jx4a65c_63 (Nat.le_of_ble_eq_true rfl) dJx4a65c_add_7a177_12 (fun H locs (G : wd Z A s ([(a, .inr (0, [.int (mc + 1), .ref qe, .int (nI cap)])), (qe, aO Z cap g)] ++ T) H locs) => ?_)
  refine lv_aload_n hx hb dJx4a65c_add_7a177_15 rfl (lv_at hl 0 rfl) ?_
  refine k_get (ci := 0) (CC := RJx4a65c) (T := TJx4a65c) (N := 3) (v := .int (nI cap)) C G 0 rfl rfl in_0 2 (by decide) fl_Jx4a65c_48 rfl rfl dJx4a65c_add_7a177_16 ?_
  refine lv_dup hx hb dJx4a65c_add_7a177_19 rfl ?_
  refine lv_istore_n (lv' := [(3, .int (nI cap)), (0, .ref a), (1, .int (nI i)), (2, .ref v)]) hx hb dJx4a65c_add_7a177_20 rfl hl (by decide) rfl (fun ls hl => ?_)
  refine lv_aload_n hx hb dJx4a65c_add_7a177_21 rfl (lv_at hl 1 rfl) ?_
  refine k_get (ci := 0) (CC := RJx4a65c) (T := TJx4a65c) (N := 3) (v := .ref qe) C G 0 rfl rfl in_0 1 (by decide) fl_Jx4a65c_9 rfl rfl dJx4a65c_add_7a177_22 ?_
  refine lv_dup hx hb dJx4a65c_add_7a177_25 rfl ?_
  refine lv_astore (lv' := [(4, .ref qe), (3, .int (nI cap)), (0, .ref a), (1, .int (nI i)), (2, .ref v)]) hx hb dJx4a65c_add_7a177_26 hl (by decide) rfl (fun ls hl => ?_)
  refine k_alen (ty := .object "java/lang/Object") C G 1 4 rfl rfl dJx4a65c_add_7a177_28 ?_
  refine lv_icmp_ne (tgt := 38) hx hb dJx4a65c_add_7a177_29 (by decide) (fun c_29 => ?_) (fun c_29 => ?_)
  · exact absurd rfl c_29
  · refine lv_aload_n hx hb dJx4a65c_add_7a177_32 rfl (lv_at hl 2 rfl) ?_
    have hX : List.Perm (α := Nat × va_E) ([(a, .inr (0, [.int (mc + 1), .ref qe, .int (nI cap)])), (qe, aO Z cap g)] ++ T) (([(a, .inr (0, [.int (mc + 1), .ref qe, .int (nI cap)])), (qe, aO Z cap g)] ++ T) ++ ([])) := (perm_sg [[(a, .inr (0, [.int (mc + 1), .ref qe, .int (nI cap)]))], [(qe, aO Z cap g)], T] [[(a, .inr (0, [.int (mc + 1), .ref qe, .int (nI cap)]))], [(qe, aO Z cap g)], T] [] [0, 1, 2] rfl 3 (by decide) rfl rfl rfl rfl)
    refine kc_q (Wc := [(a, .inr (0, [.int (mc + 1), .ref qe, .int (nI cap)])), (qe, aO Z cap g)] ++ T) (Wr := []) G hX (krV 0 rfl (As := []) (rest := []) (ci := 0) (CC := RJx4a65c) (T := TJx4a65c) (N := 3) C G hX (c_growB Z l a qe cap (mc + 1) g T hb0 h4 hcap _) (gdV ml_Jx4a65c_129 im_Jx4a65c_grow_d5877 se_Jx4a65c_grow_d5877 ii_Jx4a65c co_Jx4a65c_grow_d5877) (by decide +kernel) ⟨Nat.le_of_ble_eq_true rfl, Nat.le_of_ble_eq_true rfl⟩ rfl 0 rfl hl rfl (Nat.le_of_ble_eq_true rfl) ⟨Nat.le_of_ble_eq_true rfl, by show 0 + 0 + (cap + cap / 2) ≤ cap + cap / 2; omega⟩ dJx4a65c_add_7a177_33) (fun r_33 u H locs hu G => ?_)
    obtain ⟨qn, rfl, rfl⟩ := hu
    have G : wd Z A s ([(a, .inr (0, [.int (mc + 1), .ref qn, .int (nI cap)])), (qn, aO Z (cap + cap / 2) (va_cpy g (fun _ => none) 0 0 cap))] ++ T) H locs := G.perm (show List.Perm (α := Nat × va_E) (([(a, .inr (0, [.int (mc + 1), .ref qn, .int (nI cap)])), (qn, aO Z (cap + cap / 2) (va_cpy g (fun _ => none) 0 0 cap))] ++ T) ++ ([])) ([(a, .inr (0, [.int (mc + 1), .ref qn, .int (nI cap)])), (qn, aO Z (cap + cap / 2) (va_cpy g (fun _ => none) 0 0 cap))] ++ T) from (perm_sg [[(a, .inr (0, [.int (mc + 1), .ref qn, .int (nI cap)]))], [(qn, aO Z (cap + cap / 2) (va_cpy g (fun _ => none) 0 0 cap))], T] [[(a, .inr (0, [.int (mc + 1), .ref qn, .int (nI cap)]))], [(qn, aO Z (cap + cap / 2) (va_cpy g (fun _ => none) 0 0 cap))], T] [] [0, 1, 2] rfl 3 (by decide) rfl rfl rfl rfl).symm)
    refine lv_astore (lv' := [(4, .ref qn), (3, .int (nI cap)), (0, .ref a), (1, .int (nI i)), (2, .ref v)]) hx hb dJx4a65c_add_7a177_36 hl (by decide) rfl (fun ls hl => ?_)
    refine lv_aload hx hb dJx4a65c_add_7a177_38 (lv_at hl 0 rfl) ?_
    refine lv_iload_n hx hb dJx4a65c_add_7a177_40 rfl (lv_at hl 3 rfl) ?_
    refine lv_aload hx hb dJx4a65c_add_7a177_41 (lv_at hl 0 rfl) ?_
    refine lv_iload_n hx hb dJx4a65c_add_7a177_43 rfl (lv_at hl 3 rfl) ?_
    refine lv_iconst (v := 1) hx hb dJx4a65c_add_7a177_44 (by decide) ?_
    refine lv_iadd hx hb dJx4a65c_add_7a177_45 ?_
    refine k_topi (y := nI (i + 1)) (by exact nI_1 _) ?_
    refine lv_iload_n hx hb dJx4a65c_add_7a177_46 rfl (lv_at hl 1 rfl) ?_
    refine lv_iload_n hx hb dJx4a65c_add_7a177_47 rfl (lv_at hl 3 rfl) ?_
    refine lv_isub hx hb dJx4a65c_add_7a177_48 ?_
    refine k_topi (y := nI (cap - i)) (by exact pk_sub hi) ?_
    refine k_copyO (q0 := 1) (q1 := 1) C G hl.1 ml_Jx4a65c_112 rfl rfl (by exact nI_pos (by omega)) (by exact nI_pos (by omega)) (by exact nI_pos (by omega)) (by rw [nI_clamp (by omega), nI_clamp (by omega)]; omega) (by rw [nI_clamp (by omega), nI_clamp (by omega)]; omega) (fun j hj y hy => by
    rw [nI_clamp (by omega)] at hj
    rw [nI_clamp (by omega)] at hy
    obtain ⟨fs, h9⟩ := hb0 (i + j) (by omega) y (by rw [← hy, cpy0 (by omega)])
    exact ⟨fs, List.mem_append_right _ h9⟩) (Nat.le_of_ble_eq_true rfl) (Nat.le_of_ble_eq_true rfl) dJx4a65c_add_7a177_49 (fun H locs G => ?_)
    have G : wd Z A s ([(a, .inr (0, [.int (mc + 1), .ref qn, .int (nI cap)])), (qn, aO Z (cap + cap / 2) (va_cpy (va_cpy g (fun _ => none) 0 0 cap) (va_cpy g (fun _ => none) 0 0 cap) (nI i).toNatClampNeg (nI (i + 1)).toNatClampNeg (nI (cap - i)).toNatClampNeg))] ++ T) H locs := G
    refine lv_aload hx hb dJx4a65c_add_7a177_52 (lv_at hl 0 rfl) ?_
    refine lv_iload_n hx hb dJx4a65c_add_7a177_54 rfl (lv_at hl 3 rfl) ?_
    refine lv_aload_n hx hb dJx4a65c_add_7a177_55 rfl (lv_at hl 4 rfl) ?_
    refine k_oastO C G 1 rfl (List.mem_append_right _ hv) (vp_in_nI (by omega) (by omega)) dJx4a65c_add_7a177_56 (fun H locs (G : wd Z A s ([(a, .inr (0, [.int (mc + 1), .ref qn, .int (nI cap)])), (qn, aO Z (cap + cap / 2) (va_up (va_cpy (va_cpy g (fun _ => none) 0 0 cap) (va_cpy g (fun _ => none) 0 0 cap) (nI i).toNatClampNeg (nI (i + 1)).toNatClampNeg (nI (cap - i)).toNatClampNeg) (nI i).toNatClampNeg (some v)))] ++ T) H locs) => ?_)
    refine lv_aload_n hx hb dJx4a65c_add_7a177_57 rfl (lv_at hl 2 rfl) ?_
    refine lv_iload_n hx hb dJx4a65c_add_7a177_58 rfl (lv_at hl 1 rfl) ?_
    refine lv_iconst (v := 1) hx hb dJx4a65c_add_7a177_59 (by decide) ?_
    refine lv_iadd hx hb dJx4a65c_add_7a177_60 ?_
    refine k_topi (y := nI (cap + 1)) (by exact nI_1 _) ?_
    refine k_put (ci := 0) (CC := RJx4a65c) (T := TJx4a65c) (N := 3) (ty := .int) (v := .int (nI (cap + 1))) C G 0 rfl rfl in_0 tyJx4a65c tyJx4a65c_ok nmJx4a65c 2 (by decide) fl_Jx4a65c_48 rfl rfl rfl rfl rfl (Nat.le_of_ble_eq_true rfl) dJx4a65c_add_7a177_61 (fun H locs (G : wd Z A s ([(a, .inr (0, [.int (mc + 1), .ref qn, .int (nI (cap + 1))])), (qn, aO Z (cap + cap / 2) (va_up (va_cpy (va_cpy g (fun _ => none) 0 0 cap) (va_cpy g (fun _ => none) 0 0 cap) (nI i).toNatClampNeg (nI (i + 1)).toNatClampNeg (nI (cap - i)).toNatClampNeg) (nI i).toNatClampNeg (some v)))] ++ T) H locs) => ?_)
    exact kr_v C G ⟨qn, _, by rw [nI_clamp (by omega), nI_clamp (by omega), nI_clamp (by omega)]; exact (insG_trans (insG_cpy hi)).resolve_right (by omega), rfl⟩ (Nat.le_of_ble_eq_true rfl) (by show 0 + 0 + (cap + cap / 2) ≤ cap + cap / 2; omega) dJx4a65c_add_7a177_64
theorem delG_last {g : Nat → Option Nat} {i n : Nat} (hn : i < n) (hi : ¬ i < n - 1) : delG g (va_up g (n - 1) none) i n := by
  refine ⟨fun j hj => ?_, fun j h1 h2 => by omega⟩
  simp only [va_up]
  by_cases e : j = n - 1
  · omega
  · rw [if_neg e]
set_option maxRecDepth 100000 in
set_option maxHeartbeats 4000000 in
theorem c_fastRemove (Z : zT) (l : Launch) (a qe n i cap : Nat) (mc : Int32) (g : Nat → Option Nat) (T : va_W) (hb0 : ∀ j, j < n → ∀ y, g j = some y → ∃ fs, (y, .inr (2, fs)) ∈ T) (hi : i < n) (hn : n ≤ cap) (hcap : cap < 2 ^ 20) : Kv Z l yJx4a65c_fastRemove_b59b0 cJx4a65c_fastRemove_b59b0 4 none ({ frames := 1, cells := 0, slots := 0, locals := 40 }) [.ref a, .ref qe, .int (nI i)] ([liC a mc qe n, (qe, aO Z cap g)] ++ T) (fun u => ∃ g2, delG g g2 i n ∧ u = [liC a (mc + 1) qe (n - 1), (qe, aO Z cap g2)] ++ T) := by
  intro sz
  refine Met.ofK (cc := cJx4a65c_fastRemove_b59b0) (maxL := 4) (ret := none) (by decide) (Nat.le_of_ble_eq_true rfl) ?_
  intro p e s m below meth c ls C G hl
  generalize va_A _ sz = A at G ⊢
  have hx := C.1
  have hb := C.2.1
  have hown := C.2.2.2.2.2.1
  have hts := C.2.2.2.2.2.2.1
  refine lv_aload_n hx hb dJx4a65c_fastRemove_b59b0_0 rfl (lv_at hl 0 rfl) ?_
  refine lv_dup hx hb dJx4a65c_fastRemove_b59b0_1 rfl ?_
  refine k_getMC (v := .int mc) C G 0 rfl fl_Jx4a65c_63 rfl dJx4a65c_fastRemove_b59b0_2 ?_
  refine lv_iconst (v := 1) hx hb dJx4a65c_fastRemove_b59b0_5 (by decide) ?_
  refine lv_iadd hx hb dJx4a65c_fastRemove_b59b0_6 ?_
  refine k_putMC C G 0 rfl fl_Jx4a65c_63 (Nat.le_of_ble_eq_true rfl) dJx4a65c_fastRemove_b59b0_7 (fun H locs (G : wd Z A s ([(a, .inr (0, [.int (mc + 1), .ref qe, .int (nI n)])), (qe, aO Z cap g)] ++ T) H locs) => ?_)
  refine lv_aload_n hx hb dJx4a65c_fastRemove_b59b0_10 rfl (lv_at hl 0 rfl) ?_
  refine k_get (ci := 0) (CC := RJx4a65c) (T := TJx4a65c) (N := 3) (v := .int (nI n)) C G 0 rfl rfl in_0 2 (by decide) fl_Jx4a65c_48 rfl rfl dJx4a65c_fastRemove_b59b0_11 ?_
  refine lv_iconst (v := 1) hx hb dJx4a65c_fastRemove_b59b0_14 (by decide) ?_
  refine lv_isub hx hb dJx4a65c_fastRemove_b59b0_15 ?_
  refine k_topi (y := nI (n - 1)) (by exact pk_sub (b := 1) (by omega)) ?_
  refine lv_dup hx hb dJx4a65c_fastRemove_b59b0_16 rfl ?_
  refine lv_istore_n (lv' := [(3, .int (nI (n - 1))), (0, .ref a), (1, .ref qe), (2, .int (nI i))]) hx hb dJx4a65c_fastRemove_b59b0_17 rfl hl (by decide) rfl (fun ls hl => ?_)
  refine lv_iload_n hx hb dJx4a65c_fastRemove_b59b0_18 rfl (lv_at hl 3 rfl) ?_
  refine lv_icmp_le (tgt := 34) hx hb dJx4a65c_fastRemove_b59b0_19 (by decide) (fun c_19 => ?_) (fun c_19 => ?_)
  · refine lv_aload_n hx hb dJx4a65c_fastRemove_b59b0_34 rfl (lv_at hl 2 rfl) ?_
    refine lv_aload_n hx hb dJx4a65c_fastRemove_b59b0_35 rfl (lv_at hl 1 rfl) ?_
    refine lv_iload_n hx hb dJx4a65c_fastRemove_b59b0_36 rfl (lv_at hl 0 rfl) ?_
    refine lv_dup_x1 hx hb dJx4a65c_fastRemove_b59b0_37 rfl rfl ?_
    refine k_put (ci := 0) (CC := RJx4a65c) (T := TJx4a65c) (N := 3) (ty := .int) (v := .int (nI (n - 1))) C G 0 rfl rfl in_0 tyJx4a65c tyJx4a65c_ok nmJx4a65c 2 (by decide) fl_Jx4a65c_48 rfl rfl rfl rfl rfl (Nat.le_of_ble_eq_true rfl) dJx4a65c_fastRemove_b59b0_38 (fun H locs (G : wd Z A s ([(a, .inr (0, [.int (mc + 1), .ref qe, .int (nI (n - 1))])), (qe, aO Z cap g)] ++ T) H locs) => ?_)
    refine lv_null hx hb dJx4a65c_fastRemove_b59b0_41 ?_
    refine k_oastN C G 1 rfl (vp_in_nI (by omega) (by omega)) dJx4a65c_fastRemove_b59b0_42 (fun H locs (G : wd Z A s ([(a, .inr (0, [.int (mc + 1), .ref qe, .int (nI (n - 1))])), (qe, aO Z cap (va_up g (nI (n - 1)).toNatClampNeg none))] ++ T) H locs) => ?_)
    exact kr_v C G ⟨_, by rw [nI_clamp (by omega)]; exact delG_last hi (Decidable.byContradiction (fun z => absurd c_19 (Int32.not_le.mpr (nI_lt (by omega) (by omega))))), rfl⟩ (Nat.le_of_ble_eq_true rfl) (Nat.le_of_ble_eq_true rfl) dJx4a65c_fastRemove_b59b0_43
  · have hin2 : i < n - 1 := (nI_ltI (by omega) (by omega)).mp (Int32.not_le.mp c_19)
    refine lv_aload_n hx hb dJx4a65c_fastRemove_b59b0_22 rfl (lv_at hl 2 rfl) ?_
    refine lv_iload_n hx hb dJx4a65c_fastRemove_b59b0_23 rfl (lv_at hl 3 rfl) ?_
    refine lv_iconst (v := 1) hx hb dJx4a65c_fastRemove_b59b0_24 (by decide) ?_
    refine lv_iadd hx hb dJx4a65c_fastRemove_b59b0_25 ?_
    refine k_topi (y := nI (i + 1)) (by exact nI_1 _) ?_
    refine lv_aload_n hx hb dJx4a65c_fastRemove_b59b0_26 rfl (lv_at hl 2 rfl) ?_
    refine lv_iload_n hx hb dJx4a65c_fastRemove_b59b0_27 rfl (lv_at hl 3 rfl) ?_
    refine lv_iload_n hx hb dJx4a65c_fastRemove_b59b0_28 rfl (lv_at hl 0 rfl) ?_
    refine lv_iload_n hx hb dJx4a65c_fastRemove_b59b0_29 rfl (lv_at hl 3 rfl) ?_
    refine lv_isub hx hb dJx4a65c_fastRemove_b59b0_30 ?_
    refine k_topi (y := nI (n - 1 - i)) (by exact pk_sub (by omega)) ?_
    refine k_copyO (q0 := 1) (q1 := 1) C G hl.1 ml_Jx4a65c_112 rfl rfl (by exact nI_pos (by omega)) (by exact nI_pos (by omega)) (by exact nI_pos (by omega)) (by rw [nI_clamp (by omega), nI_clamp (by omega)]; omega) (by rw [nI_clamp (by omega), nI_clamp (by omega)]; omega) (fun j hj y hy => by
    rw [nI_clamp (by omega)] at hj
    rw [nI_clamp (by omega)] at hy
    obtain ⟨fs, h9⟩ := hb0 (i + 1 + j) (by omega) y hy
    exact ⟨fs, List.mem_append_right _ h9⟩) (Nat.le_of_ble_eq_true rfl) (Nat.le_of_ble_eq_true rfl) dJx4a65c_fastRemove_b59b0_31 (fun H locs G => ?_)
    have G : wd Z A s ([(a, .inr (0, [.int (mc + 1), .ref qe, .int (nI n)])), (qe, aO Z cap (va_cpy g g (nI (i + 1)).toNatClampNeg (nI i).toNatClampNeg (nI (n - 1 - i)).toNatClampNeg))] ++ T) H locs := G
    refine lv_aload_n hx hb dJx4a65c_fastRemove_b59b0_34 rfl (lv_at hl 2 rfl) ?_
    refine lv_aload_n hx hb dJx4a65c_fastRemove_b59b0_35 rfl (lv_at hl 1 rfl) ?_
    refine lv_iload_n hx hb dJx4a65c_fastRemove_b59b0_36 rfl (lv_at hl 0 rfl) ?_
    refine lv_dup_x1 hx hb dJx4a65c_fastRemove_b59b0_37 rfl rfl ?_
    refine k_put (ci := 0) (CC := RJx4a65c) (T := TJx4a65c) (N := 3) (ty := .int) (v := .int (nI (n - 1))) C G 0 rfl rfl in_0 tyJx4a65c tyJx4a65c_ok nmJx4a65c 2 (by decide) fl_Jx4a65c_48 rfl rfl rfl rfl rfl (Nat.le_of_ble_eq_true rfl) dJx4a65c_fastRemove_b59b0_38 (fun H locs (G : wd Z A s ([(a, .inr (0, [.int (mc + 1), .ref qe, .int (nI (n - 1))])), (qe, aO Z cap (va_cpy g g (nI (i + 1)).toNatClampNeg (nI i).toNatClampNeg (nI (n - 1 - i)).toNatClampNeg))] ++ T) H locs) => ?_)
    refine lv_null hx hb dJx4a65c_fastRemove_b59b0_41 ?_
    refine k_oastN C G 1 rfl (vp_in_nI (by omega) (by omega)) dJx4a65c_fastRemove_b59b0_42 (fun H locs (G : wd Z A s ([(a, .inr (0, [.int (mc + 1), .ref qe, .int (nI (n - 1))])), (qe, aO Z cap (va_up (va_cpy g g (nI (i + 1)).toNatClampNeg (nI i).toNatClampNeg (nI (n - 1 - i)).toNatClampNeg) (nI (n - 1)).toNatClampNeg none))] ++ T) H locs) => ?_)
    exact kr_v C G ⟨_, by rw [nI_clamp (by omega), nI_clamp (by omega), nI_clamp (by omega), nI_clamp (by omega)]; exact delG_cpy hi, rfl⟩ (Nat.le_of_ble_eq_true rfl) (Nat.le_of_ble_eq_true rfl) dJx4a65c_fastRemove_b59b0_43
set_option maxRecDepth 100000 in
set_option maxHeartbeats 4000000 in
theorem c_Jx4a65c_remove (Z : zT) (l : Launch) (a qe n i cap : Nat) (mc : Int32) (g : Nat → Option Nat) (T : va_W) (hb0 : ∀ j, j < n → ∀ y, g j = some y → ∃ fs, (y, .inr (2, fs)) ∈ T) (hi : i < n) (hn : n ≤ cap) (hcap : cap < 2 ^ 20) (y : Nat) (hy : g i = some y) : Kq Z l yJx4a65c_remove_915e3 cJx4a65c_remove_915e3 4 (some (.object "java/lang/Object")) ({ frames := 2, cells := 0, slots := 0, locals := 70 }) [.ref a, .int (nI i)] ([liC a mc qe n, (qe, aO Z cap g)] ++ T) (fun r u => ∃ g2, delG g g2 i n ∧ u = [liC a (mc + 1) qe (n - 1), (qe, aO Z cap g2)] ++ T) := by
  intro sz
  refine Met.ofK (cc := cJx4a65c_remove_915e3) (maxL := 4) (ret := (some (.object "java/lang/Object"))) (by decide) (Nat.le_of_ble_eq_true rfl) ?_
  intro p e s m below meth c ls C G hl
  generalize va_A _ sz = A at G ⊢
  have hx := C.1
  have hb := C.2.1
  have hown := C.2.2.2.2.2.1
  have hts := C.2.2.2.2.2.2.1
  refine lv_iload_n hx hb dJx4a65c_remove_915e3_0 rfl (lv_at hl 1 rfl) ?_
  refine lv_aload_n hx hb dJx4a65c_remove_915e3_1 rfl (lv_at hl 0 rfl) ?_
  refine k_get (ci := 0) (CC := RJx4a65c) (T := TJx4a65c) (N := 3) (v := .int (nI n)) C G 0 rfl rfl in_0 2 (by decide) fl_Jx4a65c_48 rfl rfl dJx4a65c_remove_915e3_2 ?_
  have hX : List.Perm (α := Nat × va_E) ([(a, .inr (0, [.int mc, .ref qe, .int (nI n)])), (qe, aO Z cap g)] ++ T) (([]) ++ ([(a, .inr (0, [.int mc, .ref qe, .int (nI n)])), (qe, aO Z cap g)] ++ T)) := (perm_sg [[(a, .inr (0, [.int mc, .ref qe, .int (nI n)]))], [(qe, aO Z cap g)], T] [] [[(a, .inr (0, [.int mc, .ref qe, .int (nI n)]))], [(qe, aO Z cap g)], T] [0, 1, 2] rfl 3 (by decide) rfl rfl rfl rfl)
  refine kc_i (Wc := []) (Wr := [(a, .inr (0, [.int mc, .ref qe, .int (nI n)])), (qe, aO Z cap g)] ++ T) G hX (krS 2 rfl (As := [.int (nI i), .int (nI n)]) (rest := []) C G hX (c_J15_checkIndex Z l i n hi (by omega) _) (gdS ml_Jx4a65c_118 sm_J15_checkIndex_7cf53 ii_J15 co_J15_checkIndex_7cf53) (by decide +kernel) ⟨Nat.le_of_ble_eq_true rfl, Nat.le_of_ble_eq_true rfl⟩ hl rfl (Nat.le_of_ble_eq_true rfl) ⟨Nat.le_of_ble_eq_true rfl, Nat.le_of_ble_eq_true rfl⟩ dJx4a65c_remove_915e3_5) (fun r_5 u H locs hu G => ?_)
  obtain ⟨r_5_e, rfl⟩ := hu
  subst r_5_e
  have G : wd Z A s ([(a, .inr (0, [.int mc, .ref qe, .int (nI n)])), (qe, aO Z cap g)] ++ T) H locs := G.perm (show List.Perm (α := Nat × va_E) (([]) ++ ([(a, .inr (0, [.int mc, .ref qe, .int (nI n)])), (qe, aO Z cap g)] ++ T)) ([(a, .inr (0, [.int mc, .ref qe, .int (nI n)])), (qe, aO Z cap g)] ++ T) from (perm_sg [[(a, .inr (0, [.int mc, .ref qe, .int (nI n)]))], [(qe, aO Z cap g)], T] [] [[(a, .inr (0, [.int mc, .ref qe, .int (nI n)]))], [(qe, aO Z cap g)], T] [0, 1, 2] rfl 3 (by decide) rfl rfl rfl rfl).symm)
  refine lv_pop hx hb dJx4a65c_remove_915e3_8 rfl ?_
  refine lv_aload_n hx hb dJx4a65c_remove_915e3_9 rfl (lv_at hl 0 rfl) ?_
  refine k_get (ci := 0) (CC := RJx4a65c) (T := TJx4a65c) (N := 3) (v := .ref qe) C G 0 rfl rfl in_0 1 (by decide) fl_Jx4a65c_9 rfl rfl dJx4a65c_remove_915e3_10 ?_
  refine lv_astore_n (lv' := [(2, .ref qe), (0, .ref a), (1, .int (nI i))]) hx hb dJx4a65c_remove_915e3_13 rfl hl (by decide) rfl (fun ls hl => ?_)
  refine lv_aload_n hx hb dJx4a65c_remove_915e3_14 rfl (lv_at hl 0 rfl) ?_
  refine lv_iload_n hx hb dJx4a65c_remove_915e3_15 rfl (lv_at hl 2 rfl) ?_
  have h_16 : vp_in (nI i) cap := by exact vp_in_nI (by omega) (by omega)
  refine k_oald C G 1 rfl h_16 dJx4a65c_remove_915e3_16 ?_
  refine k_topv (y := .ref y) (by rw [nI_clamp (by omega), hy]; rfl) ?_
  refine lv_astore_n (lv' := [(3, .ref y), (2, .ref qe), (0, .ref a), (1, .int (nI i))]) hx hb dJx4a65c_remove_915e3_17 rfl hl (by decide) rfl (fun ls hl => ?_)
  refine lv_aload_n hx hb dJx4a65c_remove_915e3_18 rfl (lv_at hl 2 rfl) ?_
  refine lv_aload_n hx hb dJx4a65c_remove_915e3_19 rfl (lv_at hl 1 rfl) ?_
  refine lv_iload_n hx hb dJx4a65c_remove_915e3_20 rfl (lv_at hl 3 rfl) ?_
  have hX : List.Perm (α := Nat × va_E) ([(a, .inr (0, [.int mc, .ref qe, .int (nI n)])), (qe, aO Z cap g)] ++ T) (([(a, .inr (0, [.int mc, .ref qe, .int (nI n)])), (qe, aO Z cap g)] ++ T) ++ ([])) := (perm_sg [[(a, .inr (0, [.int mc, .ref qe, .int (nI n)]))], [(qe, aO Z cap g)], T] [[(a, .inr (0, [.int mc, .ref qe, .int (nI n)]))], [(qe, aO Z cap g)], T] [] [0, 1, 2] rfl 3 (by decide) rfl rfl rfl rfl)
  refine kc_v (Wc := [(a, .inr (0, [.int mc, .ref qe, .int (nI n)])), (qe, aO Z cap g)] ++ T) (Wr := []) G hX (krV 2 rfl (As := [.ref qe, .int (nI i)]) (rest := []) (ci := 0) (CC := RJx4a65c) (T := TJx4a65c) (N := 3) C G hX (c_fastRemove Z l a qe n i cap mc g T hb0 hi hn hcap _) (gdV ml_Jx4a65c_144 im_Jx4a65c_fastRemove_b59b0 se_Jx4a65c_fastRemove_b59b0 ii_Jx4a65c co_Jx4a65c_fastRemove_b59b0) (by decide +kernel) ⟨Nat.le_of_ble_eq_true rfl, Nat.le_of_ble_eq_true rfl⟩ rfl 0 rfl hl rfl (Nat.le_of_ble_eq_true rfl) ⟨Nat.le_of_ble_eq_true rfl, Nat.le_of_ble_eq_true rfl⟩ dJx4a65c_remove_915e3_21) (fun u H locs hu G => ?_)
  obtain ⟨g2, hg2, rfl⟩ := hu
  have G : wd Z A s ([(a, .inr (0, [.int (mc + 1), .ref qe, .int (nI (n - 1))])), (qe, aO Z cap g2)] ++ T) H locs := G.perm (show List.Perm (α := Nat × va_E) (([(a, .inr (0, [.int (mc + 1), .ref qe, .int (nI (n - 1))])), (qe, aO Z cap g2)] ++ T) ++ ([])) ([(a, .inr (0, [.int (mc + 1), .ref qe, .int (nI (n - 1))])), (qe, aO Z cap g2)] ++ T) from (perm_sg [[(a, .inr (0, [.int (mc + 1), .ref qe, .int (nI (n - 1))]))], [(qe, aO Z cap g2)], T] [[(a, .inr (0, [.int (mc + 1), .ref qe, .int (nI (n - 1))]))], [(qe, aO Z cap g2)], T] [] [0, 1, 2] rfl 3 (by decide) rfl rfl rfl rfl).symm)
  refine lv_aload_n hx hb dJx4a65c_remove_915e3_24 rfl (lv_at hl 0 rfl) ?_
  exact kr_q (r := some y) C G (Or.inl ⟨_, rfl⟩) ⟨g2, hg2, rfl⟩ (Nat.le_of_ble_eq_true rfl) (Nat.le_of_ble_eq_true rfl) dJx4a65c_remove_915e3_25
