/-! MODULE ArrayList (JDK), of Blobs. -/
set_option maxRecDepth 100000 in
set_option maxHeartbeats 4000000 in
theorem c_J3_checkIndex (Z : zT) (l : Launch) (i n : Nat) (hi : i < n) (hn : n < 2 ^ 31) : Ki Z l yJ3_checkIndex_8e157 cJ3_checkIndex_8e157 3 (some .int) ({ frames := 0, cells := 0, slots := 0, locals := 0 }) [.int (nI i), .int (nI n), .null] [] (fun r u => r = nI i ∧ u = []) := by
  intro sz
  refine Met.ofK (cc := cJ3_checkIndex_8e157) (maxL := 3) (ret := (some .int)) (by decide) (Nat.le_of_ble_eq_true rfl) ?_
  intro p e s m below meth c ls C G hl
  generalize va_A _ sz = A at G ⊢
  have hx := C.1
  have hb := C.2.1
  have hown := C.2.2.2.2.2.1
  have hts := C.2.2.2.2.2.2.1
  refine lv_iload_n hx hb dJ3_checkIndex_8e157_0 rfl (lv_at hl 0 rfl) ?_
  refine lv_if_lt (tgt := 9) hx hb dJ3_checkIndex_8e157_1 (by decide) (fun c_1 => ?_) (fun c_1 => ?_)
  · exact absurd c_1 (nI_pos (by omega))
  · refine lv_iload_n hx hb dJ3_checkIndex_8e157_4 rfl (lv_at hl 0 rfl) ?_
    refine lv_iload_n hx hb dJ3_checkIndex_8e157_5 rfl (lv_at hl 1 rfl) ?_
    refine lv_icmp_lt (tgt := 16) hx hb dJ3_checkIndex_8e157_6 (by decide) (fun c_6 => ?_) (fun c_6 => ?_)
    · refine lv_iload_n hx hb dJ3_checkIndex_8e157_16 rfl (lv_at hl 0 rfl) ?_
      exact kr_i C G ⟨rfl, rfl⟩ (Nat.le_of_ble_eq_true rfl) (Nat.le_of_ble_eq_true rfl) dJ3_checkIndex_8e157_17
    · exact absurd (nI_lt hi (by omega)) c_6
set_option maxRecDepth 100000 in
set_option maxHeartbeats 4000000 in
theorem c_J15_checkIndex (Z : zT) (l : Launch) (i n : Nat) (hi : i < n) (hn : n < 2 ^ 31) : Ki Z l yJ15_checkIndex_7cf53 cJ15_checkIndex_7cf53 2 (some .int) ({ frames := 1, cells := 0, slots := 0, locals := 30 }) [.int (nI i), .int (nI n)] [] (fun r u => r = nI i ∧ u = []) := by
  intro sz
  refine Met.ofK (cc := cJ15_checkIndex_7cf53) (maxL := 2) (ret := (some .int)) (by decide) (Nat.le_of_ble_eq_true rfl) ?_
  intro p e s m below meth c ls C G hl
  generalize va_A _ sz = A at G ⊢
  have hx := C.1
  have hb := C.2.1
  have hown := C.2.2.2.2.2.1
  have hts := C.2.2.2.2.2.2.1
  refine lv_iload_n hx hb dJ15_checkIndex_7cf53_0 rfl (lv_at hl 0 rfl) ?_
  refine lv_iload_n hx hb dJ15_checkIndex_7cf53_1 rfl (lv_at hl 1 rfl) ?_
  refine lv_null hx hb dJ15_checkIndex_7cf53_2 ?_
  have hX : List.Perm (α := Nat × va_E) ([]) (([]) ++ ([])) := (perm_sg [] [] [] [] rfl 0 (by decide) rfl rfl rfl rfl)
  refine kc_i (Wc := []) (Wr := []) G hX (krS 3 rfl (As := [.int (nI i), .int (nI n), .null]) (rest := []) C G hX (c_J3_checkIndex Z l i n hi hn _) (gdS ml_J15_105 sm_J3_checkIndex_8e157 ii_J3 co_J3_checkIndex_8e157) (by decide +kernel) ⟨Nat.le_of_ble_eq_true rfl, Nat.le_of_ble_eq_true rfl⟩ hl rfl (Nat.le_of_ble_eq_true rfl) ⟨Nat.le_of_ble_eq_true rfl, Nat.le_of_ble_eq_true rfl⟩ dJ15_checkIndex_7cf53_3) (fun r_3 u H locs hu G => ?_)
  obtain ⟨r_3_e, rfl⟩ := hu
  subst r_3_e
  have G : wd Z A s ([]) H locs := G.perm (show List.Perm (α := Nat × va_E) (([]) ++ ([])) ([]) from (perm_sg [] [] [] [] rfl 0 (by decide) rfl rfl rfl rfl).symm)
  exact kr_i C G ⟨rfl, rfl⟩ (Nat.le_of_ble_eq_true rfl) (Nat.le_of_ble_eq_true rfl) dJ15_checkIndex_7cf53_6
set_option maxRecDepth 100000 in
set_option maxHeartbeats 4000000 in
theorem c_Jxa1e45_init (Z : zT) (l : Launch) (a : Nat) : Kv Z l yJxa1e45_init_da8c8 cJxa1e45_init_da8c8 1 none ({ frames := 1, cells := 0, slots := 0, locals := 12 }) [.ref a] [] (fun u => u = []) := by
  intro sz
  refine Met.ofK (cc := cJxa1e45_init_da8c8) (maxL := 1) (ret := none) (by decide) (Nat.le_of_ble_eq_true rfl) ?_
  intro p e s m below meth c ls C G hl
  generalize va_A _ sz = A at G ⊢
  have hx := C.1
  have hb := C.2.1
  have hown := C.2.2.2.2.2.1
  have hts := C.2.2.2.2.2.2.1
  refine lv_aload_n hx hb dJxa1e45_init_da8c8_0 rfl (lv_at hl 0 rfl) ?_
  refine k_objInit C hl.1 ml_Jxa1e45_1 im_Object__init____V co_obj (Nat.le_of_ble_eq_true rfl) (Nat.le_of_ble_eq_true rfl) dJxa1e45_init_da8c8_1 ?_
  exact kr_v C G rfl (Nat.le_of_ble_eq_true rfl) (Nat.le_of_ble_eq_true rfl) dJxa1e45_init_da8c8_4
set_option maxRecDepth 100000 in
set_option maxHeartbeats 4000000 in
theorem c_Jxc12de_init (Z : zT) (l : Launch) (a : Nat) : Kv Z l yJxc12de_init_da8c8 cJxc12de_init_da8c8 1 none ({ frames := 2, cells := 0, slots := 0, locals := 32 }) [.ref a] [(a, .inr (0, [.int 0, .null, .int 0]))] (fun u => u = [(a, .inr (0, [.int 0, .null, .int 0]))]) := by
  intro sz
  refine Met.ofK (cc := cJxc12de_init_da8c8) (maxL := 1) (ret := none) (by decide) (Nat.le_of_ble_eq_true rfl) ?_
  intro p e s m below meth c ls C G hl
  generalize va_A _ sz = A at G ⊢
  have hx := C.1
  have hb := C.2.1
  have hown := C.2.2.2.2.2.1
  have hts := C.2.2.2.2.2.2.1
  refine lv_aload_n hx hb dJxc12de_init_da8c8_0 rfl (lv_at hl 0 rfl) ?_
  have hX : List.Perm (α := Nat × va_E) ([(a, .inr (0, [.int 0, .null, .int 0]))]) (([]) ++ ([(a, .inr (0, [.int 0, .null, .int 0]))])) := (perm_sg [[(a, .inr (0, [.int 0, .null, .int 0]))]] [] [[(a, .inr (0, [.int 0, .null, .int 0]))]] [0] rfl 1 (by decide) rfl rfl rfl rfl)
  refine kc_v (Wc := []) (Wr := [(a, .inr (0, [.int 0, .null, .int 0]))]) G hX (krI 0 rfl (As := []) (rest := []) C G hX (c_Jxa1e45_init Z l a _) (gdP co_Jxa1e45_init_da8c8) ml_Jxc12de_1 im_Jxa1e45_init_da8c8 ii_Jxa1e45 rfl (by decide +kernel) ⟨Nat.le_of_ble_eq_true rfl, Nat.le_of_ble_eq_true rfl⟩ hl rfl (Nat.le_of_ble_eq_true rfl) ⟨Nat.le_of_ble_eq_true rfl, Nat.le_of_ble_eq_true rfl⟩ dJxc12de_init_da8c8_1) (fun u H locs hu G => ?_)
  subst hu
  have G : wd Z A s ([(a, .inr (0, [.int 0, .null, .int 0]))]) H locs := G.perm (show List.Perm (α := Nat × va_E) (([]) ++ ([(a, .inr (0, [.int 0, .null, .int 0]))])) ([(a, .inr (0, [.int 0, .null, .int 0]))]) from (perm_sg [[(a, .inr (0, [.int 0, .null, .int 0]))]] [] [[(a, .inr (0, [.int 0, .null, .int 0]))]] [0] rfl 1 (by decide) rfl rfl rfl rfl).symm)
  refine lv_aload_n hx hb dJxc12de_init_da8c8_4 rfl (lv_at hl 0 rfl) ?_
  refine lv_iconst (v := 0) hx hb dJxc12de_init_da8c8_5 (by decide) ?_
  refine k_put (ci := 0) (CC := RJx4a65c) (T := TJx4a65c) (N := 3) (ty := .int) (v := .int 0) C G 0 rfl rfl in_0 tyJx4a65c tyJx4a65c_ok nmJx4a65c 0 (by decide) fl_Jxc12de_7 rfl rfl rfl rfl rfl (Nat.le_of_ble_eq_true rfl) dJxc12de_init_da8c8_6 (fun H locs (G : wd Z A s ([(a, .inr (0, [.int 0, .null, .int 0]))]) H locs) => ?_)
  exact kr_v C G rfl (Nat.le_of_ble_eq_true rfl) (Nat.le_of_ble_eq_true rfl) dJxc12de_init_da8c8_9
set_option maxRecDepth 100000 in
set_option maxHeartbeats 4000000 in
theorem c_Jx4a65c_init (Z : zT) (l : Launch) (a : Nat) : Kv Z l yJx4a65c_init_da8c8 cJx4a65c_init_da8c8 1 none ({ frames := 3, cells := 0, slots := 0, locals := 60 }) [.ref a] [(a, .inr (0, [.int 0, .null, .int 0]))] (fun u => u = [liC a 0 Z.2.2.2.1 0]) := by
  intro sz
  refine Met.ofK (cc := cJx4a65c_init_da8c8) (maxL := 1) (ret := none) (by decide) (Nat.le_of_ble_eq_true rfl) ?_
  intro p e s m below meth c ls C G hl
  generalize va_A _ sz = A at G ⊢
  have hx := C.1
  have hb := C.2.1
  have hown := C.2.2.2.2.2.1
  have hts := C.2.2.2.2.2.2.1
  refine lv_aload_n hx hb dJx4a65c_init_da8c8_0 rfl (lv_at hl 0 rfl) ?_
  have hX : List.Perm (α := Nat × va_E) ([(a, .inr (0, [.int 0, .null, .int 0]))]) (([(a, .inr (0, [.int 0, .null, .int 0]))]) ++ ([])) := (perm_sg [[(a, .inr (0, [.int 0, .null, .int 0]))]] [[(a, .inr (0, [.int 0, .null, .int 0]))]] [] [0] rfl 1 (by decide) rfl rfl rfl rfl)
  refine kc_v (Wc := [(a, .inr (0, [.int 0, .null, .int 0]))]) (Wr := []) G hX (krI 0 rfl (As := []) (rest := []) C G hX (c_Jxc12de_init Z l a _) (gdP co_Jxc12de_init_da8c8) ml_Jx4a65c_1 im_Jxc12de_init_da8c8 ii_Jxc12de rfl (by decide +kernel) ⟨Nat.le_of_ble_eq_true rfl, Nat.le_of_ble_eq_true rfl⟩ hl rfl (Nat.le_of_ble_eq_true rfl) ⟨Nat.le_of_ble_eq_true rfl, Nat.le_of_ble_eq_true rfl⟩ dJx4a65c_init_da8c8_1) (fun u H locs hu G => ?_)
  subst hu
  have G : wd Z A s ([(a, .inr (0, [.int 0, .null, .int 0]))]) H locs := G.perm (show List.Perm (α := Nat × va_E) (([(a, .inr (0, [.int 0, .null, .int 0]))]) ++ ([])) ([(a, .inr (0, [.int 0, .null, .int 0]))]) from (perm_sg [[(a, .inr (0, [.int 0, .null, .int 0]))]] [[(a, .inr (0, [.int 0, .null, .int 0]))]] [] [0] rfl 1 (by decide) rfl rfl rfl rfl).symm)
  refine lv_aload_n hx hb dJx4a65c_init_da8c8_4 rfl (lv_at hl 0 rfl) ?_
  refine k_gsE C G fl_Jx4a65c_39 dJx4a65c_init_da8c8_5 ?_
  refine k_put (ci := 0) (CC := RJx4a65c) (T := TJx4a65c) (N := 3) (ty := .array (.object "java/lang/Object")) (v := .ref Z.2.2.2.1) C G 0 rfl rfl in_0 tyJx4a65c tyJx4a65c_ok nmJx4a65c 1 (by decide) fl_Jx4a65c_9 rfl rfl rfl rfl rfl (Nat.le_of_ble_eq_true rfl) dJx4a65c_init_da8c8_8 (fun H locs (G : wd Z A s ([(a, .inr (0, [.int 0, .ref Z.2.2.2.1, .int 0]))]) H locs) => ?_)
  exact kr_v C G rfl (Nat.le_of_ble_eq_true rfl) (Nat.le_of_ble_eq_true rfl) dJx4a65c_init_da8c8_11
set_option maxRecDepth 100000 in
set_option maxHeartbeats 4000000 in
theorem c_Jx4a65c_size (Z : zT) (l : Launch) (a qe n : Nat) (mc : Int32) : Ki Z l yJx4a65c_size_8abf5 cJx4a65c_size_8abf5 1 (some .int) ({ frames := 0, cells := 0, slots := 0, locals := 0 }) [.ref a] [liC a mc qe n] (fun r u => r = nI n ∧ u = [liC a mc qe n]) := by
  intro sz
  refine Met.ofK (cc := cJx4a65c_size_8abf5) (maxL := 1) (ret := (some .int)) (by decide) (Nat.le_of_ble_eq_true rfl) ?_
  intro p e s m below meth c ls C G hl
  generalize va_A _ sz = A at G ⊢
  have hx := C.1
  have hb := C.2.1
  have hown := C.2.2.2.2.2.1
  have hts := C.2.2.2.2.2.2.1
  refine lv_aload_n hx hb dJx4a65c_size_8abf5_0 rfl (lv_at hl 0 rfl) ?_
  refine k_get (ci := 0) (CC := RJx4a65c) (T := TJx4a65c) (N := 3) (v := .int (nI n)) C G 0 rfl rfl in_0 2 (by decide) fl_Jx4a65c_48 rfl rfl dJx4a65c_size_8abf5_1 ?_
  exact kr_i C G ⟨rfl, rfl⟩ (Nat.le_of_ble_eq_true rfl) (Nat.le_of_ble_eq_true rfl) dJx4a65c_size_8abf5_4
set_option maxRecDepth 100000 in
set_option maxHeartbeats 4000000 in
theorem c_Jx4a65c_elementData (Z : zT) (l : Launch) (a qe n i cap : Nat) (mc : Int32) (g : Nat → Option Nat) (T : va_W) (hE : (qe, aO Z cap g) ∈ T) (hcap : cap < 2 ^ 30) (hi : i < cap) : Kq Z l yJx4a65c_elementData_915e3 cJx4a65c_elementData_915e3 2 (some (.object "java/lang/Object")) ({ frames := 0, cells := 0, slots := 0, locals := 0 }) [.ref a, .int (nI i)] ([liC a mc qe n] ++ T) (fun r u => r = g i ∧ u = [liC a mc qe n] ++ T) := by
  intro sz
  refine Met.ofK (cc := cJx4a65c_elementData_915e3) (maxL := 2) (ret := (some (.object "java/lang/Object"))) (by decide) (Nat.le_of_ble_eq_true rfl) ?_
  intro p e s m below meth c ls C G hl
  generalize va_A _ sz = A at G ⊢
  have hx := C.1
  have hb := C.2.1
  have hown := C.2.2.2.2.2.1
  have hts := C.2.2.2.2.2.2.1
  refine lv_aload_n hx hb dJx4a65c_elementData_915e3_0 rfl (lv_at hl 0 rfl) ?_
  refine k_get (ci := 0) (CC := RJx4a65c) (T := TJx4a65c) (N := 3) (v := .ref qe) C G 0 rfl rfl in_0 1 (by decide) fl_Jx4a65c_9 rfl rfl dJx4a65c_elementData_915e3_1 ?_
  refine lv_iload_n hx hb dJx4a65c_elementData_915e3_4 rfl (lv_at hl 1 rfl) ?_
  refine k_oaldM C G (List.mem_append_right _ hE) (vp_in_nI hi (by omega)) dJx4a65c_elementData_915e3_5 ?_
  exact kr_q C G (Or.inl ⟨_, rfl⟩) ⟨by rw [nI_clamp (by omega)], rfl⟩ (Nat.le_refl _) (Nat.le_refl _) dJx4a65c_elementData_915e3_6
set_option maxRecDepth 100000 in
set_option maxHeartbeats 4000000 in
theorem c_Jx4a65c_get (Z : zT) (l : Launch) (a qe n i cap : Nat) (mc : Int32) (g : Nat → Option Nat) (T : va_W) (hE : (qe, aO Z cap g) ∈ T) (hcap : cap < 2 ^ 30) (hnc : n ≤ cap) (hi : i < n) : Kq Z l yJx4a65c_get_915e3 cJx4a65c_get_915e3 2 (some (.object "java/lang/Object")) ({ frames := 2, cells := 0, slots := 0, locals := 60 }) [.ref a, .int (nI i)] ([liC a mc qe n] ++ T) (fun r u => r = g i ∧ u = [liC a mc qe n] ++ T) := by
  intro sz
  refine Met.ofK (cc := cJx4a65c_get_915e3) (maxL := 2) (ret := (some (.object "java/lang/Object"))) (by decide) (Nat.le_of_ble_eq_true rfl) ?_
  intro p e s m below meth c ls C G hl
  generalize va_A _ sz = A at G ⊢
  have hx := C.1
  have hb := C.2.1
  have hown := C.2.2.2.2.2.1
  have hts := C.2.2.2.2.2.2.1
  refine lv_iload_n hx hb dJx4a65c_get_915e3_0 rfl (lv_at hl 1 rfl) ?_
  refine lv_aload_n hx hb dJx4a65c_get_915e3_1 rfl (lv_at hl 0 rfl) ?_
  refine k_get (ci := 0) (CC := RJx4a65c) (T := TJx4a65c) (N := 3) (v := .int (nI n)) C G 0 rfl rfl in_0 2 (by decide) fl_Jx4a65c_48 rfl rfl dJx4a65c_get_915e3_2 ?_
  have hX : List.Perm (α := Nat × va_E) ([(a, .inr (0, [.int mc, .ref qe, .int (nI n)]))] ++ T) (([]) ++ ([(a, .inr (0, [.int mc, .ref qe, .int (nI n)]))] ++ T)) := (perm_sg [[(a, .inr (0, [.int mc, .ref qe, .int (nI n)]))], T] [] [[(a, .inr (0, [.int mc, .ref qe, .int (nI n)]))], T] [0, 1] rfl 2 (by decide) rfl rfl rfl rfl)
  refine kc_i (Wc := []) (Wr := [(a, .inr (0, [.int mc, .ref qe, .int (nI n)]))] ++ T) G hX (krS 2 rfl (As := [.int (nI i), .int (nI n)]) (rest := []) C G hX (c_J15_checkIndex Z l i n hi (by omega) _) (gdS ml_Jx4a65c_118 sm_J15_checkIndex_7cf53 ii_J15 co_J15_checkIndex_7cf53) (by decide +kernel) ⟨Nat.le_of_ble_eq_true rfl, Nat.le_of_ble_eq_true rfl⟩ hl rfl (Nat.le_of_ble_eq_true rfl) ⟨Nat.le_of_ble_eq_true rfl, Nat.le_of_ble_eq_true rfl⟩ dJx4a65c_get_915e3_5) (fun r_5 u H locs hu G => ?_)
  obtain ⟨r_5_e, rfl⟩ := hu
  subst r_5_e
  have G : wd Z A s ([(a, .inr (0, [.int mc, .ref qe, .int (nI n)]))] ++ T) H locs := G.perm (show List.Perm (α := Nat × va_E) (([]) ++ ([(a, .inr (0, [.int mc, .ref qe, .int (nI n)]))] ++ T)) ([(a, .inr (0, [.int mc, .ref qe, .int (nI n)]))] ++ T) from (perm_sg [[(a, .inr (0, [.int mc, .ref qe, .int (nI n)]))], T] [] [[(a, .inr (0, [.int mc, .ref qe, .int (nI n)]))], T] [0, 1] rfl 2 (by decide) rfl rfl rfl rfl).symm)
  refine lv_pop hx hb dJx4a65c_get_915e3_8 rfl ?_
  refine lv_aload_n hx hb dJx4a65c_get_915e3_9 rfl (lv_at hl 0 rfl) ?_
  refine lv_iload_n hx hb dJx4a65c_get_915e3_10 rfl (lv_at hl 1 rfl) ?_
  have hX : List.Perm (α := Nat × va_E) ([(a, .inr (0, [.int mc, .ref qe, .int (nI n)]))] ++ T) (([(a, .inr (0, [.int mc, .ref qe, .int (nI n)]))] ++ T) ++ ([])) := (perm_sg [[(a, .inr (0, [.int mc, .ref qe, .int (nI n)]))], T] [[(a, .inr (0, [.int mc, .ref qe, .int (nI n)]))], T] [] [0, 1] rfl 2 (by decide) rfl rfl rfl rfl)
  refine kc_q (Wc := [(a, .inr (0, [.int mc, .ref qe, .int (nI n)]))] ++ T) (Wr := []) G hX (krV 1 rfl (As := [.int (nI i)]) (rest := []) (ci := 0) (CC := RJx4a65c) (T := TJx4a65c) (N := 3) C G hX (c_Jx4a65c_elementData Z l a qe n i cap mc g T hE hcap (by omega) _) (gdV ml_Jx4a65c_123 im_Jx4a65c_elementData_915e3 se_Jx4a65c_elementData_915e3 ii_Jx4a65c co_Jx4a65c_elementData_915e3) (by decide +kernel) ⟨Nat.le_of_ble_eq_true rfl, Nat.le_of_ble_eq_true rfl⟩ rfl 0 rfl hl rfl (Nat.le_of_ble_eq_true rfl) ⟨Nat.le_of_ble_eq_true rfl, Nat.le_of_ble_eq_true rfl⟩ dJx4a65c_get_915e3_11) (fun r_11 u H locs hu G => ?_)
  obtain ⟨r_11_e, rfl⟩ := hu
  subst r_11_e
  have G : wd Z A s ([(a, .inr (0, [.int mc, .ref qe, .int (nI n)]))] ++ T) H locs := G.perm (show List.Perm (α := Nat × va_E) (([(a, .inr (0, [.int mc, .ref qe, .int (nI n)]))] ++ T) ++ ([])) ([(a, .inr (0, [.int mc, .ref qe, .int (nI n)]))] ++ T) from (perm_sg [[(a, .inr (0, [.int mc, .ref qe, .int (nI n)]))], T] [[(a, .inr (0, [.int mc, .ref qe, .int (nI n)]))], T] [] [0, 1] rfl 2 (by decide) rfl rfl rfl rfl).symm)
  exact kr_q C G (Or.inl ⟨_, rfl⟩) ⟨rfl, rfl⟩ (Nat.le_refl _) (Nat.le_refl _) dJx4a65c_get_915e3_14
set_option maxRecDepth 100000 in
set_option maxHeartbeats 4000000 in
theorem c_Jx4a65c_rangeCheckForAdd (Z : zT) (l : Launch) (a qe n i : Nat) (mc : Int32) (hi : i ≤ n) (hn : n < 2 ^ 30) : Kv Z l yJx4a65c_rangeCheckForAdd_d00df cJx4a65c_rangeCheckForAdd_d00df 2 none ({ frames := 0, cells := 0, slots := 0, locals := 0 }) [.ref a, .int (nI i)] [liC a mc qe n] (fun u => u = [liC a mc qe n]) := by
  intro sz
  refine Met.ofK (cc := cJx4a65c_rangeCheckForAdd_d00df) (maxL := 2) (ret := none) (by decide) (Nat.le_of_ble_eq_true rfl) ?_
  intro p e s m below meth c ls C G hl
  generalize va_A _ sz = A at G ⊢
  have hx := C.1
  have hb := C.2.1
  have hown := C.2.2.2.2.2.1
  have hts := C.2.2.2.2.2.2.1
  refine lv_iload_n hx hb dJx4a65c_rangeCheckForAdd_d00df_0 rfl (lv_at hl 1 rfl) ?_
  refine lv_aload_n hx hb dJx4a65c_rangeCheckForAdd_d00df_1 rfl (lv_at hl 0 rfl) ?_
  refine k_get (ci := 0) (CC := RJx4a65c) (T := TJx4a65c) (N := 3) (v := .int (nI n)) C G 0 rfl rfl in_0 2 (by decide) fl_Jx4a65c_48 rfl rfl dJx4a65c_rangeCheckForAdd_d00df_2 ?_
  refine lv_icmp_gt (tgt := 12) hx hb dJx4a65c_rangeCheckForAdd_d00df_5 (by decide) (fun c_5 => ?_) (fun c_5 => ?_)
  · exact absurd c_5 (nI_nlt hi (by omega))
  · refine lv_iload_n hx hb dJx4a65c_rangeCheckForAdd_d00df_8 rfl (lv_at hl 1 rfl) ?_
    refine lv_if_ge (tgt := 25) hx hb dJx4a65c_rangeCheckForAdd_d00df_9 (by decide) (fun c_9 => ?_) (fun c_9 => ?_)
    · exact kr_v C G rfl (Nat.le_of_ble_eq_true rfl) (Nat.le_of_ble_eq_true rfl) dJx4a65c_rangeCheckForAdd_d00df_25
    · exact absurd (nI_pos' (by omega)) c_9
set_option maxRecDepth 100000 in
set_option maxHeartbeats 4000000 in
theorem c_J8_newLength (Z : zT) (l : Launch) (cap : Nat) (h4 : 4 ≤ cap) (hcap : cap < 2 ^ 29) : Ki Z l yJ8_newLength_cabcc cJ8_newLength_cabcc 4 (some .int) ({ frames := 1, cells := 0, slots := 0, locals := 20 }) [.int (nI cap), .int (nI 1), .int (nI (cap / 2))] [] (fun r u => r = nI (cap + cap / 2) ∧ u = []) := by
  intro sz
  refine Met.ofK (cc := cJ8_newLength_cabcc) (maxL := 4) (ret := (some .int)) (by decide) (Nat.le_of_ble_eq_true rfl) ?_
  intro p e s m below meth c ls C G hl
  generalize va_A _ sz = A at G ⊢
  have hx := C.1
  have hb := C.2.1
  have hown := C.2.2.2.2.2.1
  have hts := C.2.2.2.2.2.2.1
  refine lv_iload_n hx hb dJ8_newLength_cabcc_0 rfl (lv_at hl 0 rfl) ?_
  refine lv_iload_n hx hb dJ8_newLength_cabcc_1 rfl (lv_at hl 1 rfl) ?_
  refine lv_iload_n hx hb dJ8_newLength_cabcc_2 rfl (lv_at hl 2 rfl) ?_
  refine k_mmax C hl.1 ml_J8_194 sm_J9_max_7cf53 ii_J9 co_max (Nat.le_of_ble_eq_true rfl) (Nat.le_of_ble_eq_true rfl) (Nat.zero_le _) (Nat.zero_le _) dJ8_newLength_cabcc_3 ?_
  refine k_topi (y := nI (cap / 2)) (by rw [if_pos (nI_lt (by omega) (by omega))]) ?_
  refine lv_iadd hx hb dJ8_newLength_cabcc_6 ?_
  refine k_topi (y := nI (cap + cap / 2)) (by exact nI_add _ _) ?_
  refine lv_istore_n (lv' := [(3, .int (nI (cap + cap / 2))), (0, .int (nI cap)), (1, .int (nI 1)), (2, .int (nI (cap / 2)))]) hx hb dJ8_newLength_cabcc_7 rfl hl (by decide) rfl (fun ls hl => ?_)
  refine lv_iconst (v := 0) hx hb dJ8_newLength_cabcc_8 (by decide) ?_
  refine lv_iload_n hx hb dJ8_newLength_cabcc_9 rfl (lv_at hl 0 rfl) ?_
  refine lv_icmp_ge (tgt := 21) hx hb dJ8_newLength_cabcc_10 (by decide) (fun c_10 => ?_) (fun c_10 => ?_)
  · exact absurd c_10 (Int32.not_le.mpr (show nI 0 < _ from nI_lt (by omega) (by omega)))
  · refine lv_iload_n hx hb dJ8_newLength_cabcc_13 rfl (lv_at hl 0 rfl) ?_
    refine lv_ldc (v := (2147483639)) hx hb hown (hts _ kn_J8_200) dJ8_newLength_cabcc_14 ?_
    refine lv_icmp_gt (tgt := 21) hx hb dJ8_newLength_cabcc_16 (by decide) (fun c_16 => ?_) (fun c_16 => ?_)
    · exact absurd c_16 (show ¬ nI 2147483639 < _ from nI_nlt (by omega) (by omega))
    · refine lv_iload_n hx hb dJ8_newLength_cabcc_19 rfl (lv_at hl 0 rfl) ?_
      exact kr_i C G ⟨rfl, rfl⟩ (Nat.le_of_ble_eq_true rfl) (Nat.le_of_ble_eq_true rfl) dJ8_newLength_cabcc_20
