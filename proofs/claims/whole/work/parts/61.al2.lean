/-! MODULE ArrayList (JDK), second part: grow. -/
theorem pk_half {n : Nat} (h : n < 2 ^ 31) : nI n >>> ((1 : Int32) &&& 31) = nI (n / 2) := by
  have k := pk_shrN h ((1 : Int32) &&& 31) 1 (by decide)
  rw [Nat.pow_one] at k
  exact k
theorem pk_sub1 (n : Nat) : nI (n + 1) - nI n = nI 1 := by
  have k := pk_sub (a := n + 1) (b := n) (by omega)
  rw [Nat.add_sub_cancel_left] at k
  exact k
set_option maxRecDepth 100000 in
set_option maxHeartbeats 4000000 in
theorem c_J7_copyOfOC (Z : zT) (l : Launch) (qe cap N : Nat) (g : Nat → Option Nat) (T : va_W) (hb0 : ∀ i, i < cap → ∀ y, g i = some y → ∃ fs, (y, .inr (2, fs)) ∈ T) (h : cap ≤ N) (hN : N < 2 ^ 26) : Kq Z l yJ7_copyOf_6403c cJ7_copyOf_6403c 4 (some (.array (.object "java/lang/Object"))) ({ frames := 1, cells := 1, slots := N, locals := 40 }) [.ref qe, .int (nI N), .ref Z.2.2.2.2] ([(qe, aO Z cap g)] ++ T) (fun r u => ∃ qn, r = some qn ∧ u = [(qe, aO Z cap g), (qn, aO Z N (va_cpy g (fun _ => none) 0 0 cap))] ++ T) := by
  intro sz
  refine Met.ofK (cc := cJ7_copyOf_6403c) (maxL := 4) (ret := (some (.array (.object "java/lang/Object")))) (by decide) (Nat.le_of_ble_eq_true rfl) ?_
  intro p e s m below meth c ls C G hl
  generalize va_A _ sz = A at G ⊢
  have hx := C.1
  have hb := C.2.1
  have hown := C.2.2.2.2.2.1
  have hts := C.2.2.2.2.2.2.1
  refine lv_aload_n hx hb dJ7_copyOf_6403c_0 rfl (lv_at hl 2 rfl) ?_
  refine k_ldcO C G cl_J7_110 dJ7_copyOf_6403c_1 ?_
  refine k_acmp_ne (tgt := 13) C dJ7_copyOf_6403c_3 (by decide) rfl ?_
  refine lv_iload_n hx hb dJ7_copyOf_6403c_6 rfl (lv_at hl 1 rfl) ?_
  refine k_newO (N' := N) C G cl_J7_2 (by exact nI_pos (by omega)) (by exact nI_clamp (by omega)) (by omega) (Nat.le_of_ble_eq_true rfl) (Nat.le_of_eq (Nat.zero_add _)) dJ7_copyOf_6403c_7 (fun qn H G => ?_)
  have G : wd Z A s ([(qe, aO Z cap g), (qn, aO Z N (fun _ => none))] ++ T) H _ := G.perm (show List.Perm (α := Nat × va_E) (([(qe, aO Z cap g)] ++ T) ++ ([(qn, aO Z N (fun _ => none))])) ([(qe, aO Z cap g), (qn, aO Z N (fun _ => none))] ++ T) from (perm_sg [[(qe, aO Z cap g)], [(qn, aO Z N (fun _ => none))], T] [[(qe, aO Z cap g)], T] [[(qn, aO Z N (fun _ => none))]] [0, 2, 1] rfl 3 (by decide) rfl rfl rfl rfl).symm)
  refine lv_goto (tgt := 24) hx hb dJ7_copyOf_6403c_10 (by decide) ?_
  refine lv_astore_n (lv' := [(3, .ref qn), (0, .ref qe), (1, .int (nI N)), (2, .ref Z.2.2.2.2)]) hx hb dJ7_copyOf_6403c_24 rfl hl (by decide) rfl (fun ls hl => ?_)
  refine lv_aload_n hx hb dJ7_copyOf_6403c_25 rfl (lv_at hl 1 rfl) ?_
  refine lv_iconst (v := 0) hx hb dJ7_copyOf_6403c_26 (by decide) ?_
  refine lv_aload_n hx hb dJ7_copyOf_6403c_27 rfl (lv_at hl 0 rfl) ?_
  refine lv_iconst (v := 0) hx hb dJ7_copyOf_6403c_28 (by decide) ?_
  refine lv_aload_n hx hb dJ7_copyOf_6403c_29 rfl (lv_at hl 1 rfl) ?_
  refine k_alen (ty := .object "java/lang/Object") C G 0 4 rfl rfl dJ7_copyOf_6403c_30 ?_
  refine lv_iload_n hx hb dJ7_copyOf_6403c_31 rfl (lv_at hl 2 rfl) ?_
  refine k_mmin C hl.1 ml_J7_304 sm_J9_min_7cf53 ii_J9 co_min (Nat.le_of_ble_eq_true rfl) (Nat.le_of_ble_eq_true rfl) (Nat.le_of_ble_eq_true rfl) (Nat.le_of_eq (Nat.zero_add _)) dJ7_copyOf_6403c_32 ?_
  refine k_topi (y := nI cap) (by rw [if_neg (nI_nlt (by omega) (by omega))]) ?_
  refine k_copyO (q0 := 0) (q1 := 1) C G hl.1 ml_J7_150 rfl rfl (by decide) (by decide) (by exact nI_pos (by omega)) (by rw [nI_clamp (by omega)]; show 0 + cap ≤ cap; omega) (by rw [nI_clamp (by omega)]; show 0 + cap ≤ N; omega) (fun i hi y hy => by
    rw [nI_clamp (by omega)] at hi
    obtain ⟨fs, h9⟩ := hb0 i hi y (by rw [← hy]; congr 1; show i = 0 + i; omega)
    exact ⟨fs, List.mem_append_right _ h9⟩) (Nat.le_of_ble_eq_true rfl) (Nat.le_of_ble_eq_true rfl) dJ7_copyOf_6403c_35 (fun H locs G => ?_)
  have G : wd Z A s ([(qe, aO Z cap g), (qn, aO Z N (va_cpy g (fun _ => none) (0 : Int32).toNatClampNeg (0 : Int32).toNatClampNeg (nI cap).toNatClampNeg))] ++ T) H locs := G
  refine lv_aload_n hx hb dJ7_copyOf_6403c_38 rfl (lv_at hl 0 rfl) ?_
  exact kr_q (r := some qn) C G (Or.inr ⟨_, rfl⟩) ⟨qn, rfl, by rw [nI_clamp (by omega)]; rfl⟩ (Nat.le_of_ble_eq_true rfl) (Nat.le_of_eq (Nat.zero_add _)) dJ7_copyOf_6403c_39
set_option maxRecDepth 100000 in
set_option maxHeartbeats 4000000 in
theorem c_J7_copyOfO (Z : zT) (l : Launch) (qe cap N : Nat) (g : Nat → Option Nat) (T : va_W) (hb0 : ∀ i, i < cap → ∀ y, g i = some y → ∃ fs, (y, .inr (2, fs)) ∈ T) (h : cap ≤ N) (hN : N < 2 ^ 26) : Kq Z l yJ7_copyOf_1904c cJ7_copyOf_1904c 2 (some (.array (.object "java/lang/Object"))) ({ frames := 2, cells := 1, slots := N, locals := 70 }) [.ref qe, .int (nI N)] ([(qe, aO Z cap g)] ++ T) (fun r u => ∃ qn, r = some qn ∧ u = [(qe, aO Z cap g), (qn, aO Z N (va_cpy g (fun _ => none) 0 0 cap))] ++ T) := by
  intro sz
  refine Met.ofK (cc := cJ7_copyOf_1904c) (maxL := 2) (ret := (some (.array (.object "java/lang/Object")))) (by decide) (Nat.le_of_ble_eq_true rfl) ?_
  intro p e s m below meth c ls C G hl
  generalize va_A _ sz = A at G ⊢
  have hx := C.1
  have hb := C.2.1
  have hown := C.2.2.2.2.2.1
  have hts := C.2.2.2.2.2.2.1
  refine lv_aload_n hx hb dJ7_copyOf_1904c_0 rfl (lv_at hl 0 rfl) ?_
  refine lv_iload_n hx hb dJ7_copyOf_1904c_1 rfl (lv_at hl 1 rfl) ?_
  refine lv_aload_n hx hb dJ7_copyOf_1904c_2 rfl (lv_at hl 0 rfl) ?_
  refine k_getCO C G hl.1 ml_J7_86 0 rfl (Nat.le_of_ble_eq_true rfl) (Nat.le_of_ble_eq_true rfl) dJ7_copyOf_1904c_3 ?_
  have hX : List.Perm (α := Nat × va_E) ([(qe, aO Z cap g)] ++ T) (([(qe, aO Z cap g)] ++ T) ++ ([])) := (perm_sg [[(qe, aO Z cap g)], T] [[(qe, aO Z cap g)], T] [] [0, 1] rfl 2 (by decide) rfl rfl rfl rfl)
  refine kc_q (Wc := [(qe, aO Z cap g)] ++ T) (Wr := []) G hX (krS 3 rfl (As := [.ref qe, .int (nI N), .ref Z.2.2.2.2]) (rest := []) C G hX (c_J7_copyOfOC Z l qe cap N g T hb0 h hN _) (gdS ml_J7_300 sm_J7_copyOf_6403c ii_J7 co_J7_copyOf_6403c) (by decide +kernel) ⟨Nat.le_of_ble_eq_true rfl, Nat.le_of_ble_eq_true rfl⟩ hl rfl (Nat.le_of_ble_eq_true rfl) ⟨Nat.le_of_ble_eq_true rfl, Nat.le_of_eq (Nat.zero_add _)⟩ dJ7_copyOf_1904c_6) (fun r_6 u H locs hu G => ?_)
  obtain ⟨qn, rfl, rfl⟩ := hu
  have G : wd Z A s ([(qe, aO Z cap g), (qn, aO Z N (va_cpy g (fun _ => none) 0 0 cap))] ++ T) H locs := G.perm (show List.Perm (α := Nat × va_E) (([(qe, aO Z cap g), (qn, aO Z N (va_cpy g (fun _ => none) 0 0 cap))] ++ T) ++ ([])) ([(qe, aO Z cap g), (qn, aO Z N (va_cpy g (fun _ => none) 0 0 cap))] ++ T) from (perm_sg [[(qe, aO Z cap g)], [(qn, aO Z N (va_cpy g (fun _ => none) 0 0 cap))], T] [[(qe, aO Z cap g)], [(qn, aO Z N (va_cpy g (fun _ => none) 0 0 cap))], T] [] [0, 1, 2] rfl 3 (by decide) rfl rfl rfl rfl).symm)
  exact kr_q (r := some qn) C G (Or.inr ⟨_, rfl⟩) ⟨qn, rfl, rfl⟩ (Nat.le_of_ble_eq_true rfl) (Nat.le_of_eq (Nat.zero_add _)) dJ7_copyOf_1904c_9
set_option maxRecDepth 100000 in
set_option maxHeartbeats 4000000 in
theorem c_grow1 (Z : zT) (l : Launch) (a : Nat) (mc : Int32) : Kq Z l yJx4a65c_grow_92f84 cJx4a65c_grow_92f84 4 (some (.array (.object "java/lang/Object"))) ({ frames := 1, cells := 1, slots := 10, locals := 20 }) [.ref a, .int 1] [liC a mc Z.2.2.2.1 0] (fun r u => ∃ qn, r = some qn ∧ u = [liC a mc qn 0, (qn, aO Z 10 (fun _ => none))]) := by
  intro sz
  refine Met.ofK (cc := cJx4a65c_grow_92f84) (maxL := 4) (ret := (some (.array (.object "java/lang/Object")))) (by decide) (Nat.le_of_ble_eq_true rfl) ?_
  intro p e s m below meth c ls C G hl
  generalize va_A _ sz = A at G ⊢
  have hx := C.1
  have hb := C.2.1
  have hown := C.2.2.2.2.2.1
  have hts := C.2.2.2.2.2.2.1
  refine lv_aload_n hx hb dJx4a65c_grow_92f84_0 rfl (lv_at hl 0 rfl) ?_
  refine k_get (ci := 0) (CC := RJx4a65c) (T := TJx4a65c) (N := 3) (v := .ref Z.2.2.2.1) C G 0 rfl rfl in_0 1 (by decide) fl_Jx4a65c_9 rfl rfl dJx4a65c_grow_92f84_1 ?_
  refine k_lenE C G dJx4a65c_grow_92f84_4 ?_
  refine lv_istore_n (lv' := [(2, .int 0), (0, .ref a), (1, .int 1)]) hx hb dJx4a65c_grow_92f84_5 rfl hl (by decide) rfl (fun ls hl => ?_)
  refine lv_iload_n hx hb dJx4a65c_grow_92f84_6 rfl (lv_at hl 0 rfl) ?_
  refine lv_if_gt (tgt := 20) hx hb dJx4a65c_grow_92f84_7 (by decide) (fun c_7 => ?_) (fun c_7 => ?_)
  · exact absurd c_7 (by decide)
  · refine lv_aload_n hx hb dJx4a65c_grow_92f84_10 rfl (lv_at hl 1 rfl) ?_
    refine k_get (ci := 0) (CC := RJx4a65c) (T := TJx4a65c) (N := 3) (v := .ref Z.2.2.2.1) C G 0 rfl rfl in_0 1 (by decide) fl_Jx4a65c_9 rfl rfl dJx4a65c_grow_92f84_11 ?_
    refine k_gsE C G fl_Jx4a65c_39 dJx4a65c_grow_92f84_14 ?_
    refine k_acmp_eq (tgt := 45) C dJx4a65c_grow_92f84_17 (by decide) rfl ?_
    refine lv_aload_n hx hb dJx4a65c_grow_92f84_45 rfl (lv_at hl 1 rfl) ?_
    refine lv_bipush (v := 10) hx hb dJx4a65c_grow_92f84_46 (by decide) ?_
    refine lv_iload_n hx hb dJx4a65c_grow_92f84_48 rfl (lv_at hl 2 rfl) ?_
    refine k_mmax C hl.1 ml_Jx4a65c_79 sm_J9_max_7cf53 ii_J9 co_max (Nat.le_of_ble_eq_true rfl) (Nat.le_of_ble_eq_true rfl) (Nat.zero_le _) (Nat.zero_le _) dJx4a65c_grow_92f84_49 ?_
    refine k_topi (y := 10) (by decide) ?_
    refine k_newO (N' := 10) C G cl_Jx4a65c_7 (by decide) (by decide) (by decide) (Nat.le_of_ble_eq_true rfl) (Nat.le_of_ble_eq_true rfl) dJx4a65c_grow_92f84_52 (fun qn H G => ?_)
    have G : wd Z A s ([(a, .inr (0, [.int mc, .ref Z.2.2.2.1, .int (nI 0)])), (qn, aO Z 10 (fun _ => none))]) H _ := G.perm (show List.Perm (α := Nat × va_E) (([(a, .inr (0, [.int mc, .ref Z.2.2.2.1, .int (nI 0)]))]) ++ ([(qn, aO Z 10 (fun _ => none))])) ([(a, .inr (0, [.int mc, .ref Z.2.2.2.1, .int (nI 0)])), (qn, aO Z 10 (fun _ => none))]) from (perm_sg [[(a, .inr (0, [.int mc, .ref Z.2.2.2.1, .int (nI 0)]))], [(qn, aO Z 10 (fun _ => none))]] [[(a, .inr (0, [.int mc, .ref Z.2.2.2.1, .int (nI 0)]))]] [[(qn, aO Z 10 (fun _ => none))]] [0, 1] rfl 2 (by decide) rfl rfl rfl rfl).symm)
    refine lv_dup_x1 hx hb dJx4a65c_grow_92f84_55 rfl rfl ?_
    refine k_put (ci := 0) (CC := RJx4a65c) (T := TJx4a65c) (N := 3) (ty := .array (.object "java/lang/Object")) (v := .ref qn) C G 0 rfl rfl in_0 tyJx4a65c tyJx4a65c_ok nmJx4a65c 1 (by decide) fl_Jx4a65c_9 rfl rfl rfl rfl rfl (Nat.le_of_ble_eq_true rfl) dJx4a65c_grow_92f84_56 (fun H locs (G : wd Z A s ([(a, .inr (0, [.int mc, .ref qn, .int (nI 0)])), (qn, aO Z 10 (fun _ => none))]) H locs) => ?_)
    exact kr_q (r := some qn) C G (Or.inr ⟨_, rfl⟩) ⟨qn, rfl, rfl⟩ (Nat.le_of_ble_eq_true rfl) (Nat.le_of_ble_eq_true rfl) dJx4a65c_grow_92f84_59
set_option maxRecDepth 100000 in
set_option maxHeartbeats 4000000 in
theorem c_grow2 (Z : zT) (l : Launch) (a qe cap : Nat) (mc : Int32) (g : Nat → Option Nat) (T : va_W) (hb0 : ∀ i, i < cap → ∀ y, g i = some y → ∃ fs, (y, .inr (2, fs)) ∈ T) (h4 : 4 ≤ cap) (hcap : cap < 2 ^ 20) : Kq Z l yJx4a65c_grow_92f84 cJx4a65c_grow_92f84 4 (some (.array (.object "java/lang/Object"))) ({ frames := 3, cells := 1, slots := cap + cap / 2, locals := 100 }) [.ref a, .int (nI (cap + 1))] ([liC a mc qe cap, (qe, aO Z cap g)] ++ T) (fun r u => ∃ qn, r = some qn ∧ u = [liC a mc qn cap, (qn, aO Z (cap + cap / 2) (va_cpy g (fun _ => none) 0 0 cap))] ++ T) := by
  intro sz
  refine Met.ofK (cc := cJx4a65c_grow_92f84) (maxL := 4) (ret := (some (.array (.object "java/lang/Object")))) (by decide) (Nat.le_of_ble_eq_true rfl) ?_
  intro p e s m below meth c ls C G hl
  generalize va_A _ sz = A at G ⊢
  have hx := C.1
  have hb := C.2.1
  have hown := C.2.2.2.2.2.1
  have hts := C.2.2.2.2.2.2.1
  refine lv_aload_n hx hb dJx4a65c_grow_92f84_0 rfl (lv_at hl 0 rfl) ?_
  refine k_get (ci := 0) (CC := RJx4a65c) (T := TJx4a65c) (N := 3) (v := .ref qe) C G 0 rfl rfl in_0 1 (by decide) fl_Jx4a65c_9 rfl rfl dJx4a65c_grow_92f84_1 ?_
  refine k_alen (ty := .object "java/lang/Object") C G 1 4 rfl rfl dJx4a65c_grow_92f84_4 ?_
  refine lv_istore_n (lv' := [(2, .int (nI cap)), (0, .ref a), (1, .int (nI (cap + 1)))]) hx hb dJx4a65c_grow_92f84_5 rfl hl (by decide) rfl (fun ls hl => ?_)
  refine lv_iload_n hx hb dJx4a65c_grow_92f84_6 rfl (lv_at hl 0 rfl) ?_
  refine lv_if_gt (tgt := 20) hx hb dJx4a65c_grow_92f84_7 (by decide) (fun c_7 => ?_) (fun c_7 => ?_)
  · refine lv_iload_n hx hb dJx4a65c_grow_92f84_20 rfl (lv_at hl 0 rfl) ?_
    refine lv_iload_n hx hb dJx4a65c_grow_92f84_21 rfl (lv_at hl 2 rfl) ?_
    refine lv_iload_n hx hb dJx4a65c_grow_92f84_22 rfl (lv_at hl 0 rfl) ?_
    refine lv_isub hx hb dJx4a65c_grow_92f84_23 ?_
    refine k_topi (y := nI 1) (by exact pk_sub1 cap) ?_
    refine lv_iload_n hx hb dJx4a65c_grow_92f84_24 rfl (lv_at hl 0 rfl) ?_
    refine lv_iconst (v := 1) hx hb dJx4a65c_grow_92f84_25 (by decide) ?_
    refine lv_ishr hx hb dJx4a65c_grow_92f84_26 ?_
    refine k_topi (y := nI (cap / 2)) (by exact pk_half (by omega)) ?_
    have hX : List.Perm (α := Nat × va_E) ([(a, .inr (0, [.int mc, .ref qe, .int (nI cap)])), (qe, aO Z cap g)] ++ T) (([]) ++ ([(a, .inr (0, [.int mc, .ref qe, .int (nI cap)])), (qe, aO Z cap g)] ++ T)) := (perm_sg [[(a, .inr (0, [.int mc, .ref qe, .int (nI cap)]))], [(qe, aO Z cap g)], T] [] [[(a, .inr (0, [.int mc, .ref qe, .int (nI cap)]))], [(qe, aO Z cap g)], T] [0, 1, 2] rfl 3 (by decide) rfl rfl rfl rfl)
    refine kc_i (Wc := []) (Wr := [(a, .inr (0, [.int mc, .ref qe, .int (nI cap)])), (qe, aO Z cap g)] ++ T) G hX (krS 3 rfl (As := [.int (nI cap), .int (nI 1), .int (nI (cap / 2))]) (rest := []) C G hX (c_J8_newLength Z l cap h4 (by omega) _) (gdS ml_Jx4a65c_73 sm_J8_newLength_cabcc ii_J8 co_J8_newLength_cabcc) (by decide +kernel) ⟨Nat.le_of_ble_eq_true rfl, Nat.le_of_ble_eq_true rfl⟩ hl rfl (Nat.le_of_ble_eq_true rfl) ⟨Nat.le_of_ble_eq_true rfl, Nat.le_of_ble_eq_true rfl⟩ dJx4a65c_grow_92f84_27) (fun r_27 u H locs hu G => ?_)
    obtain ⟨r_27_e, rfl⟩ := hu
    subst r_27_e
    have G : wd Z A s ([(a, .inr (0, [.int mc, .ref qe, .int (nI cap)])), (qe, aO Z cap g)] ++ T) H locs := G.perm (show List.Perm (α := Nat × va_E) (([]) ++ ([(a, .inr (0, [.int mc, .ref qe, .int (nI cap)])), (qe, aO Z cap g)] ++ T)) ([(a, .inr (0, [.int mc, .ref qe, .int (nI cap)])), (qe, aO Z cap g)] ++ T) from (perm_sg [[(a, .inr (0, [.int mc, .ref qe, .int (nI cap)]))], [(qe, aO Z cap g)], T] [] [[(a, .inr (0, [.int mc, .ref qe, .int (nI cap)]))], [(qe, aO Z cap g)], T] [0, 1, 2] rfl 3 (by decide) rfl rfl rfl rfl).symm)
    refine lv_istore_n (lv' := [(3, .int (nI (cap + cap / 2))), (2, .int (nI cap)), (0, .ref a), (1, .int (nI (cap + 1)))]) hx hb dJx4a65c_grow_92f84_30 rfl hl (by decide) rfl (fun ls hl => ?_)
    refine lv_aload_n hx hb dJx4a65c_grow_92f84_31 rfl (lv_at hl 2 rfl) ?_
    refine lv_aload_n hx hb dJx4a65c_grow_92f84_32 rfl (lv_at hl 2 rfl) ?_
    refine k_get (ci := 0) (CC := RJx4a65c) (T := TJx4a65c) (N := 3) (v := .ref qe) C G 0 rfl rfl in_0 1 (by decide) fl_Jx4a65c_9 rfl rfl dJx4a65c_grow_92f84_33 ?_
    refine lv_iload_n hx hb dJx4a65c_grow_92f84_36 rfl (lv_at hl 0 rfl) ?_
    have hX : List.Perm (α := Nat × va_E) ([(a, .inr (0, [.int mc, .ref qe, .int (nI cap)])), (qe, aO Z cap g)] ++ T) (([(qe, aO Z cap g)] ++ T) ++ ([(a, .inr (0, [.int mc, .ref qe, .int (nI cap)]))])) := (perm_sg [[(a, .inr (0, [.int mc, .ref qe, .int (nI cap)]))], [(qe, aO Z cap g)], T] [[(qe, aO Z cap g)], T] [[(a, .inr (0, [.int mc, .ref qe, .int (nI cap)]))]] [1, 2, 0] rfl 3 (by decide) rfl rfl rfl rfl)
    refine kc_q (Wc := [(qe, aO Z cap g)] ++ T) (Wr := [(a, .inr (0, [.int mc, .ref qe, .int (nI cap)]))]) G hX (krS 2 rfl (As := [.ref qe, .int (nI (cap + cap / 2))]) (rest := [.ref a]) C G hX (c_J7_copyOfO Z l qe cap (cap + cap / 2) g T hb0 (by omega) (by omega) _) (gdS ml_Jx4a65c_66 sm_J7_copyOf_1904c ii_J7 co_J7_copyOf_1904c) (by decide +kernel) ⟨Nat.le_of_ble_eq_true rfl, Nat.le_of_ble_eq_true rfl⟩ hl rfl (Nat.le_of_ble_eq_true rfl) ⟨Nat.le_of_ble_eq_true rfl, by show 0 + 0 + (cap + cap / 2) ≤ cap + cap / 2; omega⟩ dJx4a65c_grow_92f84_37) (fun r_37 u H locs hu G => ?_)
    obtain ⟨qn, rfl, rfl⟩ := hu
    have G : wd Z A s ([(qe, aO Z cap g), (qn, aO Z (cap + cap / 2) (va_cpy g (fun _ => none) 0 0 cap)), (a, .inr (0, [.int mc, .ref qe, .int (nI cap)]))] ++ T) H locs := G.perm (show List.Perm (α := Nat × va_E) (([(qe, aO Z cap g), (qn, aO Z (cap + cap / 2) (va_cpy g (fun _ => none) 0 0 cap))] ++ T) ++ ([(a, .inr (0, [.int mc, .ref qe, .int (nI cap)]))])) ([(qe, aO Z cap g), (qn, aO Z (cap + cap / 2) (va_cpy g (fun _ => none) 0 0 cap)), (a, .inr (0, [.int mc, .ref qe, .int (nI cap)]))] ++ T) from (perm_sg [[(qe, aO Z cap g)], [(qn, aO Z (cap + cap / 2) (va_cpy g (fun _ => none) 0 0 cap))], [(a, .inr (0, [.int mc, .ref qe, .int (nI cap)]))], T] [[(qe, aO Z cap g)], [(qn, aO Z (cap + cap / 2) (va_cpy g (fun _ => none) 0 0 cap))], T] [[(a, .inr (0, [.int mc, .ref qe, .int (nI cap)]))]] [0, 1, 3, 2] rfl 4 (by decide) rfl rfl rfl rfl).symm)
    refine lv_dup_x1 hx hb dJx4a65c_grow_92f84_40 rfl rfl ?_
    refine k_put (ci := 0) (CC := RJx4a65c) (T := TJx4a65c) (N := 3) (ty := .array (.object "java/lang/Object")) (v := .ref qn) C G 2 rfl rfl in_0 tyJx4a65c tyJx4a65c_ok nmJx4a65c 1 (by decide) fl_Jx4a65c_9 rfl rfl rfl rfl rfl (Nat.le_of_ble_eq_true rfl) dJx4a65c_grow_92f84_41 (fun H locs (G : wd Z A s ([(qe, aO Z cap g), (qn, aO Z (cap + cap / 2) (va_cpy g (fun _ => none) 0 0 cap)), (a, .inr (0, [.int mc, .ref qn, .int (nI cap)]))] ++ T) H locs) => ?_)
    have G : wd Z A s (([(a, .inr (0, [.int mc, .ref qn, .int (nI cap)])), (qn, aO Z (cap + cap / 2) (va_cpy g (fun _ => none) 0 0 cap))] ++ T) ++ [(qe, aO Z cap g)]) H locs := G.perm (show List.Perm (α := Nat × va_E) ([(qe, aO Z cap g), (qn, aO Z (cap + cap / 2) (va_cpy g (fun _ => none) 0 0 cap)), (a, .inr (0, [.int mc, .ref qn, .int (nI cap)]))] ++ T) (([(a, .inr (0, [.int mc, .ref qn, .int (nI cap)])), (qn, aO Z (cap + cap / 2) (va_cpy g (fun _ => none) 0 0 cap))] ++ T) ++ [(qe, aO Z cap g)]) from (perm_sg [[(qe, aO Z cap g)], [(qn, aO Z (cap + cap / 2) (va_cpy g (fun _ => none) 0 0 cap))], [(a, .inr (0, [.int mc, .ref qn, .int (nI cap)]))], T] [[(a, .inr (0, [.int mc, .ref qn, .int (nI cap)]))], [(qn, aO Z (cap + cap / 2) (va_cpy g (fun _ => none) 0 0 cap))], T] [[(qe, aO Z cap g)]] [2, 1, 3, 0] rfl 4 (by decide) rfl rfl rfl rfl))
    exact kr_q (r := some qn) C G.sub (Or.inr ⟨_, rfl⟩) ⟨qn, rfl, rfl⟩ (Nat.le_of_ble_eq_true rfl) (by show 0 + 0 + (cap + cap / 2) ≤ cap + cap / 2; omega) dJx4a65c_grow_92f84_44
  · exact absurd (show nI 0 < nI cap from nI_lt (by omega) (by omega)) c_7
set_option maxRecDepth 100000 in
set_option maxHeartbeats 4000000 in
theorem c_growA (Z : zT) (l : Launch) (a : Nat) (mc : Int32) : Kq Z l yJx4a65c_grow_d5877 cJx4a65c_grow_d5877 1 (some (.array (.object "java/lang/Object"))) ({ frames := 2, cells := 1, slots := 10, locals := 50 }) [.ref a] [liC a mc Z.2.2.2.1 0] (fun r u => ∃ qn, r = some qn ∧ u = [liC a mc qn 0, (qn, aO Z 10 (fun _ => none))]) := by
  intro sz
  refine Met.ofK (cc := cJx4a65c_grow_d5877) (maxL := 1) (ret := (some (.array (.object "java/lang/Object")))) (by decide) (Nat.le_of_ble_eq_true rfl) ?_
  intro p e s m below meth c ls C G hl
  generalize va_A _ sz = A at G ⊢
  have hx := C.1
  have hb := C.2.1
  have hown := C.2.2.2.2.2.1
  have hts := C.2.2.2.2.2.2.1
  refine lv_aload_n hx hb dJx4a65c_grow_d5877_0 rfl (lv_at hl 0 rfl) ?_
  refine lv_aload_n hx hb dJx4a65c_grow_d5877_1 rfl (lv_at hl 0 rfl) ?_
  refine k_get (ci := 0) (CC := RJx4a65c) (T := TJx4a65c) (N := 3) (v := .int (nI 0)) C G 0 rfl rfl in_0 2 (by decide) fl_Jx4a65c_48 rfl rfl dJx4a65c_grow_d5877_2 ?_
  refine lv_iconst (v := 1) hx hb dJx4a65c_grow_d5877_5 (by decide) ?_
  refine lv_iadd hx hb dJx4a65c_grow_d5877_6 ?_
  refine k_topi (y := 1) (by decide) ?_
  have hX : List.Perm (α := Nat × va_E) ([(a, .inr (0, [.int mc, .ref Z.2.2.2.1, .int (nI 0)]))]) (([(a, .inr (0, [.int mc, .ref Z.2.2.2.1, .int (nI 0)]))]) ++ ([])) := (perm_sg [[(a, .inr (0, [.int mc, .ref Z.2.2.2.1, .int (nI 0)]))]] [[(a, .inr (0, [.int mc, .ref Z.2.2.2.1, .int (nI 0)]))]] [] [0] rfl 1 (by decide) rfl rfl rfl rfl)
  refine kc_q (Wc := [(a, .inr (0, [.int mc, .ref Z.2.2.2.1, .int (nI 0)]))]) (Wr := []) G hX (krV 1 rfl (As := [.int 1]) (rest := []) (ci := 0) (CC := RJx4a65c) (T := TJx4a65c) (N := 3) C G hX (c_grow1 Z l a mc _) (gdV ml_Jx4a65c_69 im_Jx4a65c_grow_92f84 se_Jx4a65c_grow_92f84 ii_Jx4a65c co_Jx4a65c_grow_92f84) (by decide +kernel) ⟨Nat.le_of_ble_eq_true rfl, Nat.le_of_ble_eq_true rfl⟩ rfl 0 rfl hl rfl (Nat.le_of_ble_eq_true rfl) ⟨Nat.le_of_ble_eq_true rfl, Nat.le_of_ble_eq_true rfl⟩ dJx4a65c_grow_d5877_7) (fun r_7 u H locs hu G => ?_)
  obtain ⟨qn, rfl, rfl⟩ := hu
  have G : wd Z A s ([(a, .inr (0, [.int mc, .ref qn, .int (nI 0)])), (qn, aO Z 10 (fun _ => none))]) H locs := G.perm (show List.Perm (α := Nat × va_E) (([(a, .inr (0, [.int mc, .ref qn, .int (nI 0)])), (qn, aO Z 10 (fun _ => none))]) ++ ([])) ([(a, .inr (0, [.int mc, .ref qn, .int (nI 0)])), (qn, aO Z 10 (fun _ => none))]) from (perm_sg [[(a, .inr (0, [.int mc, .ref qn, .int (nI 0)]))], [(qn, aO Z 10 (fun _ => none))]] [[(a, .inr (0, [.int mc, .ref qn, .int (nI 0)]))], [(qn, aO Z 10 (fun _ => none))]] [] [0, 1] rfl 2 (by decide) rfl rfl rfl rfl).symm)
  exact kr_q (r := some qn) C G (Or.inr ⟨_, rfl⟩) ⟨qn, rfl, rfl⟩ (Nat.le_of_ble_eq_true rfl) (Nat.le_of_ble_eq_true rfl) dJx4a65c_grow_d5877_10
set_option maxRecDepth 100000 in
set_option maxHeartbeats 4000000 in
theorem c_growB (Z : zT) (l : Launch) (a qe cap : Nat) (mc : Int32) (g : Nat → Option Nat) (T : va_W) (hb0 : ∀ i, i < cap → ∀ y, g i = some y → ∃ fs, (y, .inr (2, fs)) ∈ T) (h4 : 4 ≤ cap) (hcap : cap < 2 ^ 20) : Kq Z l yJx4a65c_grow_d5877 cJx4a65c_grow_d5877 1 (some (.array (.object "java/lang/Object"))) ({ frames := 4, cells := 1, slots := cap + cap / 2, locals := 130 }) [.ref a] ([liC a mc qe cap, (qe, aO Z cap g)] ++ T) (fun r u => ∃ qn, r = some qn ∧ u = [liC a mc qn cap, (qn, aO Z (cap + cap / 2) (va_cpy g (fun _ => none) 0 0 cap))] ++ T) := by
  intro sz
  refine Met.ofK (cc := cJx4a65c_grow_d5877) (maxL := 1) (ret := (some (.array (.object "java/lang/Object")))) (by decide) (Nat.le_of_ble_eq_true rfl) ?_
  intro p e s m below meth c ls C G hl
  generalize va_A _ sz = A at G ⊢
  have hx := C.1
  have hb := C.2.1
  have hown := C.2.2.2.2.2.1
  have hts := C.2.2.2.2.2.2.1
  refine lv_aload_n hx hb dJx4a65c_grow_d5877_0 rfl (lv_at hl 0 rfl) ?_
  refine lv_aload_n hx hb dJx4a65c_grow_d5877_1 rfl (lv_at hl 0 rfl) ?_
  refine k_get (ci := 0) (CC := RJx4a65c) (T := TJx4a65c) (N := 3) (v := .int (nI cap)) C G 0 rfl rfl in_0 2 (by decide) fl_Jx4a65c_48 rfl rfl dJx4a65c_grow_d5877_2 ?_
  refine lv_iconst (v := 1) hx hb dJx4a65c_grow_d5877_5 (by decide) ?_
  refine lv_iadd hx hb dJx4a65c_grow_d5877_6 ?_
  refine k_topi (y := nI (cap + 1)) (by exact nI_1 _) ?_
  have hX : List.Perm (α := Nat × va_E) ([(a, .inr (0, [.int mc, .ref qe, .int (nI cap)])), (qe, aO Z cap g)] ++ T) (([(a, .inr (0, [.int mc, .ref qe, .int (nI cap)])), (qe, aO Z cap g)] ++ T) ++ ([])) := (perm_sg [[(a, .inr (0, [.int mc, .ref qe, .int (nI cap)]))], [(qe, aO Z cap g)], T] [[(a, .inr (0, [.int mc, .ref qe, .int (nI cap)]))], [(qe, aO Z cap g)], T] [] [0, 1, 2] rfl 3 (by decide) rfl rfl rfl rfl)
  refine kc_q (Wc := [(a, .inr (0, [.int mc, .ref qe, .int (nI cap)])), (qe, aO Z cap g)] ++ T) (Wr := []) G hX (krV 1 rfl (As := [.int (nI (cap + 1))]) (rest := []) (ci := 0) (CC := RJx4a65c) (T := TJx4a65c) (N := 3) C G hX (c_grow2 Z l a qe cap mc g T hb0 h4 hcap _) (gdV ml_Jx4a65c_69 im_Jx4a65c_grow_92f84 se_Jx4a65c_grow_92f84 ii_Jx4a65c co_Jx4a65c_grow_92f84) (by decide +kernel) ⟨Nat.le_of_ble_eq_true rfl, Nat.le_of_ble_eq_true rfl⟩ rfl 0 rfl hl rfl (Nat.le_of_ble_eq_true rfl) ⟨Nat.le_of_ble_eq_true rfl, Nat.le_of_eq (Nat.zero_add _)⟩ dJx4a65c_grow_d5877_7) (fun r_7 u H locs hu G => ?_)
  obtain ⟨qn, rfl, rfl⟩ := hu
  have G : wd Z A s ([(a, .inr (0, [.int mc, .ref qn, .int (nI cap)])), (qn, aO Z (cap + cap / 2) (va_cpy g (fun _ => none) 0 0 cap))] ++ T) H locs := G.perm (show List.Perm (α := Nat × va_E) (([(a, .inr (0, [.int mc, .ref qn, .int (nI cap)])), (qn, aO Z (cap + cap / 2) (va_cpy g (fun _ => none) 0 0 cap))] ++ T) ++ ([])) ([(a, .inr (0, [.int mc, .ref qn, .int (nI cap)])), (qn, aO Z (cap + cap / 2) (va_cpy g (fun _ => none) 0 0 cap))] ++ T) from (perm_sg [[(a, .inr (0, [.int mc, .ref qn, .int (nI cap)]))], [(qn, aO Z (cap + cap / 2) (va_cpy g (fun _ => none) 0 0 cap))], T] [[(a, .inr (0, [.int mc, .ref qn, .int (nI cap)]))], [(qn, aO Z (cap + cap / 2) (va_cpy g (fun _ => none) 0 0 cap))], T] [] [0, 1, 2] rfl 3 (by decide) rfl rfl rfl rfl).symm)
  exact kr_q (r := some qn) C G (Or.inr ⟨_, rfl⟩) ⟨qn, rfl, rfl⟩ (Nat.le_of_ble_eq_true rfl) (Nat.le_of_eq (Nat.zero_add _)) dJx4a65c_grow_d5877_10
