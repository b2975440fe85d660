/-! MODULE Shelf (X5), second part: writes. -/
def wnF (k : Nat) (bl : List blT) : List blT := (bl.take k).map (bl_w 0) ++ bl.drop k
theorem wnF_len (k : Nat) (bl : List blT) : (wnF k bl).length = bl.length := by
  simp only [wnF, List.length_append, List.length_map, List.length_take, List.length_drop]; omega
theorem wnF_get {k : Nat} {bl : List blT} {y : blT} (h : bl[k]? = some y) : (wnF k bl)[k]? = some y := by
  have hk := (List.getElem?_eq_some_iff.mp h).1
  have hl : ((bl.take k).map (bl_w 0)).length = k := by rw [List.length_map, List.length_take]; omega
  unfold wnF
  rw [List.getElem?_append_right (by omega), hl, Nat.sub_self, List.getElem?_drop, Nat.add_zero, h]
theorem wnF_set {k : Nat} {bl : List blT} {y : blT} (h : bl[k]? = some y) : (wnF k bl).set k (bl_w 0 y) = wnF (k + 1) bl := by
  have hk := (List.getElem?_eq_some_iff.mp h).1
  have hl : ((bl.take k).map (bl_w 0)).length = k := by rw [List.length_map, List.length_take]; omega
  unfold wnF
  rw [List.set_append_right _ _ (by omega), hl, Nat.sub_self, List.take_add_one, h]
  have e : bl.drop k = y :: bl.drop (k + 1) := by
    rw [List.drop_eq_getElem_cons hk]
    congr 1
    exact (List.getElem?_eq_some_iff.mp h).2
  rw [e]
  simp
theorem wnF_ad (k : Nat) (bl : List blT) : (wnF k bl).map bl_ad = bl.map bl_ad := by
  have e : (wnF k bl).map bl_ad = (bl.take k).map bl_ad ++ (bl.drop k).map bl_ad := by
    unfold wnF; rw [List.map_append, List.map_map]; rfl
  rw [e, ← List.map_append, List.take_append_drop]
theorem wnF_bA (Z : zT) (k : Nat) (bl : List blT) : (wnF k bl).map (bA Z) = bl.map (bA Z) := by
  have e : (wnF k bl).map (bA Z) = (bl.take k).map (bA Z) ++ (bl.drop k).map (bA Z) := by
    unfold wnF; rw [List.map_append, List.map_map]; rfl
  rw [e, ← List.map_append, List.take_append_drop]
theorem wnF_all (bl : List blT) : wnF bl.length bl = bl.map (bl_w 0) := by unfold wnF; rw [List.take_length, List.drop_length, List.append_nil]
/-- the OBJECT of a number is wanted -/
def bWa (bl : List blT) (x : Int32) : List blT := match bFd bl x with
  | none => bl
  | some y => bl.set (bPl bl x) (bl_w 1 y)
theorem set_ad {bl : List blT} {j : Nat} {y y2 : blT} (h : bl[j]? = some y) (he : bl_ad y2 = bl_ad y) : (bl.set j y2).map bl_ad = bl.map bl_ad := by
  rw [List.map_set, he]
  apply List.ext_getElem?
  intro i
  by_cases hi : i = j
  · subst hi
    have hk := (List.getElem?_eq_some_iff.mp h).1
    rw [List.getElem?_set_self (by simpa using hk), List.getElem?_map, h]; rfl
  · rw [List.getElem?_set_ne (by omega)]
theorem set_bA {Z : zT} {bl : List blT} {j : Nat} {y y2 : blT} (h : bl[j]? = some y) (he : bA Z y2 = bA Z y) : (bl.set j y2).map (bA Z) = bl.map (bA Z) := by
  rw [List.map_set, he]
  apply List.ext_getElem?
  intro i
  by_cases hi : i = j
  · subst hi
    have hk := (List.getElem?_eq_some_iff.mp h).1
    rw [List.getElem?_set_self (by simpa using hk), List.getElem?_map, h]; rfl
  · rw [List.getElem?_set_ne (by omega)]
set_option maxRecDepth 100000 in
set_option maxHeartbeats 4000000 in
theorem lp_X5_wantNone {p : Program} {l : Launch} {e : Env} {s : State} {m : MethodId} {args : Array Value} {below : List Frame} {meth : Method} {c : Code} {Z : zT} {A : Nat → Prop} {h a qe : Nat} {mc : Int32} {ar : arT} {bl : List blT} {post : va_W → Prop} (C : cx p s m args meth c cX5_wantNone 2 none RX5 "wantNone") (hok : shOk Z qe ar bl) (hp : post (shW Z h a mc qe ar (bl.map (bl_w 0)))) : ∀ (n k : Nat), k + n = bl.length → ∀ (H : Heap) (locs : List Loc) (ls : Array Slot), wd Z A s (shW Z h a mc qe ar (wnF k bl)) H locs → lv_has ls 2 [(1, .int (nI k)), (0, .ref h)] → W p l e ({ frames := 3, cells := 0, slots := 0, locals := 90 }) s m args below meth c H locs 0 0 (MQ below (va_Qv post (mB Z A) A) args s 0 0 A) (F0 m 2 ls []) := by
  have hx := C.1
  have hb := C.2.1
  have hown := C.2.2.2.2.2.1
  have hts := C.2.2.2.2.2.2.1
  have hlb := hok.le
  intro n
  induction n with
  | zero =>
    intro k hk H locs ls G hl
    have hok2 : shOk Z qe ar (wnF k bl) := hok.set (wnF_ad k bl)
    have hR := shR.of hok2
    have hlk := wnF_len k bl
    refine lv_iload_n hx hb dX5_wantNone_2 rfl (lv_at hl 0 rfl) ?_
    refine lv_aload_n hx hb dX5_wantNone_3 rfl (lv_at hl 1 rfl) ?_
    refine k_get (ci := 6) (CC := RX5) (T := TX5) (N := 1) (v := .ref a) C G 0 rfl rfl in_6 0 (by decide) fl_X5_10 rfl rfl dX5_wantNone_4 ?_
    have hX : List.Perm (α := Nat × va_E) ([(h, .inr (6, [.ref a])), (a, .inr (0, [.int mc, .ref qe, .int (nI ((wnF k bl).length))]))] ++ (List.map bO (wnF k bl) ++ (List.map (bA Z) (wnF k bl) ++ arE Z qe ar))) (([(a, .inr (0, [.int mc, .ref qe, .int (nI ((wnF k bl).length))]))]) ++ ([(h, .inr (6, [.ref a]))] ++ (List.map bO (wnF k bl) ++ (List.map (bA Z) (wnF k bl) ++ arE Z qe ar)))) := (perm_sg [[(h, .inr (6, [.ref a]))], [(a, .inr (0, [.int mc, .ref qe, .int (nI ((wnF k bl).length))]))], List.map bO (wnF k bl), List.map (bA Z) (wnF k bl), arE Z qe ar] [[(a, .inr (0, [.int mc, .ref qe, .int (nI ((wnF k bl).length))]))]] [[(h, .inr (6, [.ref a]))], List.map bO (wnF k bl), List.map (bA Z) (wnF k bl), arE Z qe ar] [1, 0, 2, 3, 4] rfl 5 (by decide) rfl rfl rfl rfl)
    refine kc_i (Wc := [(a, .inr (0, [.int mc, .ref qe, .int (nI ((wnF k bl).length))]))]) (Wr := [(h, .inr (6, [.ref a]))] ++ (List.map bO (wnF k bl) ++ (List.map (bA Z) (wnF k bl) ++ arE Z qe ar))) G hX (krV 0 rfl (As := []) (rest := [.int (nI k)]) (ci := 0) (CC := RJx4a65c) (T := TJx4a65c) (N := 3) C G hX (c_Jx4a65c_size Z l a qe ((wnF k bl).length) mc _) (gdV ml_X5_16 im_Jx4a65c_size_8abf5 se_Jx4a65c_size_8abf5 ii_Jx4a65c co_Jx4a65c_size_8abf5) (by decide +kernel) ⟨Nat.le_of_ble_eq_true rfl, Nat.le_of_ble_eq_true rfl⟩ rfl 0 rfl hl rfl (Nat.le_of_ble_eq_true rfl) ⟨Nat.le_of_ble_eq_true rfl, Nat.le_of_ble_eq_true rfl⟩ dX5_wantNone_7) (fun r_7 u H locs hu G => ?_)
    obtain ⟨r_7_e, rfl⟩ := hu
    subst r_7_e
    have G : wd Z A s ([(a, .inr (0, [.int mc, .ref qe, .int (nI ((wnF k bl).length))])), (h, .inr (6, [.ref a]))] ++ (List.map bO (wnF k bl) ++ (List.map (bA Z) (wnF k bl) ++ arE Z qe ar))) H locs := G.perm (show List.Perm (α := Nat × va_E) (([(a, .inr (0, [.int mc, .ref qe, .int (nI ((wnF k bl).length))]))]) ++ ([(h, .inr (6, [.ref a]))] ++ (List.map bO (wnF k bl) ++ (List.map (bA Z) (wnF k bl) ++ arE Z qe ar)))) ([(a, .inr (0, [.int mc, .ref qe, .int (nI ((wnF k bl).length))])), (h, .inr (6, [.ref a]))] ++ (List.map bO (wnF k bl) ++ (List.map (bA Z) (wnF k bl) ++ arE Z qe ar))) from (perm_sg [[(a, .inr (0, [.int mc, .ref qe, .int (nI ((wnF k bl).length))]))], [(h, .inr (6, [.ref a]))], List.map bO (wnF k bl), List.map (bA Z) (wnF k bl), arE Z qe ar] [[(a, .inr (0, [.int mc, .ref qe, .int (nI ((wnF k bl).length))]))]] [[(h, .inr (6, [.ref a]))], List.map bO (wnF k bl), List.map (bA Z) (wnF k bl), arE Z qe ar] [0, 1, 2, 3, 4] rfl 5 (by decide) rfl rfl rfl rfl).symm)
    refine lv_icmp_ge (tgt := 34) hx hb dX5_wantNone_10 (by decide) (fun c_10 => ?_) (fun c_10 => ?_)
    · have G : wd Z A s ([(h, .inr (6, [.ref a])), (a, .inr (0, [.int mc, .ref qe, .int (nI ((wnF k bl).length))]))] ++ (List.map bO (wnF k bl) ++ (List.map (bA Z) (wnF k bl) ++ arE Z qe ar))) H locs := G.perm (show List.Perm (α := Nat × va_E) ([(a, .inr (0, [.int mc, .ref qe, .int (nI ((wnF k bl).length))])), (h, .inr (6, [.ref a]))] ++ (List.map bO (wnF k bl) ++ (List.map (bA Z) (wnF k bl) ++ arE Z qe ar))) ([(h, .inr (6, [.ref a])), (a, .inr (0, [.int mc, .ref qe, .int (nI ((wnF k bl).length))]))] ++ (List.map bO (wnF k bl) ++ (List.map (bA Z) (wnF k bl) ++ arE Z qe ar))) from List.Perm.swap _ _ _)
      have ek : wnF k bl = bl.map (bl_w 0) := by rw [show k = bl.length by omega]; exact wnF_all bl
      rw [ek] at G
      exact kr_v C G hp (Nat.le_of_ble_eq_true rfl) (Nat.le_of_ble_eq_true rfl) dX5_wantNone_34
    · exact absurd (nI_le (by rw [wnF_len]; omega) (by omega)) c_10
  | succ n ih =>
    intro k hk H locs ls G hl
    have hok2 : shOk Z qe ar (wnF k bl) := hok.set (wnF_ad k bl)
    have hR := shR.of hok2
    have hlk := wnF_len k bl
    refine lv_iload_n hx hb dX5_wantNone_2 rfl (lv_at hl 0 rfl) ?_
    refine lv_aload_n hx hb dX5_wantNone_3 rfl (lv_at hl 1 rfl) ?_
    refine k_get (ci := 6) (CC := RX5) (T := TX5) (N := 1) (v := .ref a) C G 0 rfl rfl in_6 0 (by decide) fl_X5_10 rfl rfl dX5_wantNone_4 ?_
    have hX : List.Perm (α := Nat × va_E) ([(h, .inr (6, [.ref a])), (a, .inr (0, [.int mc, .ref qe, .int (nI ((wnF k bl).length))]))] ++ (List.map bO (wnF k bl) ++ (List.map (bA Z) (wnF k bl) ++ arE Z qe ar))) (([(a, .inr (0, [.int mc, .ref qe, .int (nI ((wnF k bl).length))]))]) ++ ([(h, .inr (6, [.ref a]))] ++ (List.map bO (wnF k bl) ++ (List.map (bA Z) (wnF k bl) ++ arE Z qe ar)))) := (perm_sg [[(h, .inr (6, [.ref a]))], [(a, .inr (0, [.int mc, .ref qe, .int (nI ((wnF k bl).length))]))], List.map bO (wnF k bl), List.map (bA Z) (wnF k bl), arE Z qe ar] [[(a, .inr (0, [.int mc, .ref qe, .int (nI ((wnF k bl).length))]))]] [[(h, .inr (6, [.ref a]))], List.map bO (wnF k bl), List.map (bA Z) (wnF k bl), arE Z qe ar] [1, 0, 2, 3, 4] rfl 5 (by decide) rfl rfl rfl rfl)
    refine kc_i (Wc := [(a, .inr (0, [.int mc, .ref qe, .int (nI ((wnF k bl).length))]))]) (Wr := [(h, .inr (6, [.ref a]))] ++ (List.map bO (wnF k bl) ++ (List.map (bA Z) (wnF k bl) ++ arE Z qe ar))) G hX (krV 0 rfl (As := []) (rest := [.int (nI k)]) (ci := 0) (CC := RJx4a65c) (T := TJx4a65c) (N := 3) C G hX (c_Jx4a65c_size Z l a qe ((wnF k bl).length) mc _) (gdV ml_X5_16 im_Jx4a65c_size_8abf5 se_Jx4a65c_size_8abf5 ii_Jx4a65c co_Jx4a65c_size_8abf5) (by decide +kernel) ⟨Nat.le_of_ble_eq_true rfl, Nat.le_of_ble_eq_true rfl⟩ rfl 0 rfl hl rfl (Nat.le_of_ble_eq_true rfl) ⟨Nat.le_of_ble_eq_true rfl, Nat.le_of_ble_eq_true rfl⟩ dX5_wantNone_7) (fun r_7 u H locs hu G => ?_)
    obtain ⟨r_7_e, rfl⟩ := hu
    subst r_7_e
    have G : wd Z A s ([(a, .inr (0, [.int mc, .ref qe, .int (nI ((wnF k bl).length))])), (h, .inr (6, [.ref a]))] ++ (List.map bO (wnF k bl) ++ (List.map (bA Z) (wnF k bl) ++ arE Z qe ar))) H locs := G.perm (show List.Perm (α := Nat × va_E) (([(a, .inr (0, [.int mc, .ref qe, .int (nI ((wnF k bl).length))]))]) ++ ([(h, .inr (6, [.ref a]))] ++ (List.map bO (wnF k bl) ++ (List.map (bA Z) (wnF k bl) ++ arE Z qe ar)))) ([(a, .inr (0, [.int mc, .ref qe, .int (nI ((wnF k bl).length))])), (h, .inr (6, [.ref a]))] ++ (List.map bO (wnF k bl) ++ (List.map (bA Z) (wnF k bl) ++ arE Z qe ar))) from (perm_sg [[(a, .inr (0, [.int mc, .ref qe, .int (nI ((wnF k bl).length))]))], [(h, .inr (6, [.ref a]))], List.map bO (wnF k bl), List.map (bA Z) (wnF k bl), arE Z qe ar] [[(a, .inr (0, [.int mc, .ref qe, .int (nI ((wnF k bl).length))]))]] [[(h, .inr (6, [.ref a]))], List.map bO (wnF k bl), List.map (bA Z) (wnF k bl), arE Z qe ar] [0, 1, 2, 3, 4] rfl 5 (by decide) rfl rfl rfl rfl).symm)
    refine lv_icmp_ge (tgt := 34) hx hb dX5_wantNone_10 (by decide) (fun c_10 => ?_) (fun c_10 => ?_)
    · exact absurd c_10 (nI_ge (by rw [wnF_len]; omega) (by rw [wnF_len]; omega))
    · obtain ⟨y, hy⟩ : ∃ y, bl[k]? = some y := ⟨_, List.getElem?_eq_getElem (by omega)⟩
      have hy2 := wnF_get hy
      obtain ⟨⟨cap, g, hE, hnc, hcap, hgj⟩, hmO, hmA⟩ := hR.2 (k) y hy2
      refine lv_aload_n hx hb dX5_wantNone_13 rfl (lv_at hl 1 rfl) ?_
      refine k_get (ci := 6) (CC := RX5) (T := TX5) (N := 1) (v := .ref a) C G 1 rfl rfl in_6 0 (by decide) fl_X5_10 rfl rfl dX5_wantNone_14 ?_
      refine lv_iload_n hx hb dX5_wantNone_17 rfl (lv_at hl 0 rfl) ?_
      have hX : List.Perm (α := Nat × va_E) ([(a, .inr (0, [.int mc, .ref qe, .int (nI ((wnF k bl).length))])), (h, .inr (6, [.ref a]))] ++ (List.map bO (wnF k bl) ++ (List.map (bA Z) (wnF k bl) ++ arE Z qe ar))) (([(a, .inr (0, [.int mc, .ref qe, .int (nI ((wnF k bl).length))]))] ++ (List.map bO (wnF k bl) ++ (List.map (bA Z) (wnF k bl) ++ arE Z qe ar))) ++ ([(h, .inr (6, [.ref a]))])) := (perm_sg [[(a, .inr (0, [.int mc, .ref qe, .int (nI ((wnF k bl).length))]))], [(h, .inr (6, [.ref a]))], List.map bO (wnF k bl), List.map (bA Z) (wnF k bl), arE Z qe ar] [[(a, .inr (0, [.int mc, .ref qe, .int (nI ((wnF k bl).length))]))], List.map bO (wnF k bl), List.map (bA Z) (wnF k bl), arE Z qe ar] [[(h, .inr (6, [.ref a]))]] [0, 2, 3, 4, 1] rfl 5 (by decide) rfl rfl rfl rfl)
      refine kc_q (Wc := [(a, .inr (0, [.int mc, .ref qe, .int (nI ((wnF k bl).length))]))] ++ (List.map bO (wnF k bl) ++ (List.map (bA Z) (wnF k bl) ++ arE Z qe ar))) (Wr := [(h, .inr (6, [.ref a]))]) G hX (krV 1 rfl (As := [.int (nI k)]) (rest := []) (ci := 0) (CC := RJx4a65c) (T := TJx4a65c) (N := 3) C G hX (c_Jx4a65c_get Z l a qe ((wnF k bl).length) (k) cap mc g (List.map bO (wnF k bl) ++ (List.map (bA Z) (wnF k bl) ++ arE Z qe ar)) hE (by omega) hnc (by omega) _) (gdV ml_X5_20 im_Jx4a65c_get_915e3 se_Jx4a65c_get_915e3 ii_Jx4a65c co_Jx4a65c_get_915e3) (by decide +kernel) ⟨Nat.le_of_ble_eq_true rfl, Nat.le_of_ble_eq_true rfl⟩ rfl 0 rfl hl rfl (Nat.le_of_ble_eq_true rfl) ⟨Nat.le_of_ble_eq_true rfl, Nat.le_of_ble_eq_true rfl⟩ dX5_wantNone_18) (fun r_18 u H locs hu G => ?_)
      obtain ⟨r_18_e, rfl⟩ := hu
      rw [hgj] at r_18_e
      subst r_18_e
      have G : wd Z A s ([(a, .inr (0, [.int mc, .ref qe, .int (nI ((wnF k bl).length))])), (h, .inr (6, [.ref a]))] ++ (List.map bO (wnF k bl) ++ (List.map (bA Z) (wnF k bl) ++ arE Z qe ar))) H locs := G.perm (show List.Perm (α := Nat × va_E) (([(a, .inr (0, [.int mc, .ref qe, .int (nI ((wnF k bl).length))]))] ++ (List.map bO (wnF k bl) ++ (List.map (bA Z) (wnF k bl) ++ arE Z qe ar))) ++ ([(h, .inr (6, [.ref a]))])) ([(a, .inr (0, [.int mc, .ref qe, .int (nI ((wnF k bl).length))])), (h, .inr (6, [.ref a]))] ++ (List.map bO (wnF k bl) ++ (List.map (bA Z) (wnF k bl) ++ arE Z qe ar))) from (perm_sg [[(a, .inr (0, [.int mc, .ref qe, .int (nI ((wnF k bl).length))]))], [(h, .inr (6, [.ref a]))], List.map bO (wnF k bl), List.map (bA Z) (wnF k bl), arE Z qe ar] [[(a, .inr (0, [.int mc, .ref qe, .int (nI ((wnF k bl).length))]))], List.map bO (wnF k bl), List.map (bA Z) (wnF k bl), arE Z qe ar] [[(h, .inr (6, [.ref a]))]] [0, 2, 3, 4, 1] rfl 5 (by decide) rfl rfl rfl rfl).symm)
      refine k_topv (y := .ref (bl_ad y)) rfl ?_
      refine k_castBl C G cl_X5_24 (List.mem_append_right _ hmO) dX5_wantNone_21 ?_
      refine lv_iconst (v := 0) hx hb dX5_wantNone_24 (by decide) ?_
      have G : wd Z A s ([(h, .inr (6, [.ref a])), (a, .inr (0, [.int mc, .ref qe, .int (nI ((wnF k bl).length))]))] ++ (List.map bO (wnF k bl) ++ (List.map (bA Z) (wnF k bl) ++ arE Z qe ar))) H locs := G.perm (show List.Perm (α := Nat × va_E) ([(a, .inr (0, [.int mc, .ref qe, .int (nI ((wnF k bl).length))])), (h, .inr (6, [.ref a]))] ++ (List.map bO (wnF k bl) ++ (List.map (bA Z) (wnF k bl) ++ arE Z qe ar))) ([(h, .inr (6, [.ref a])), (a, .inr (0, [.int mc, .ref qe, .int (nI ((wnF k bl).length))]))] ++ (List.map bO (wnF k bl) ++ (List.map (bA Z) (wnF k bl) ++ arE Z qe ar))) from List.Perm.swap _ _ _)
      refine k_putT (X := [(h, .inr (6, [.ref a])), (a, .inr (0, [.int mc, .ref qe, .int (nI ((wnF k bl).length))]))]) (Y := (List.map (bA Z) (wnF k bl) ++ arE Z qe ar)) (ci := 2) (CC := RX1) (T := TX1) (N := 6) (ty := .boolean) (v := .int 0) bO (wnF k bl) (k) y (bl_w 0 y) C G hy2 rfl rfl in_2 tyX1 tyX1_ok nmX1 5 rfl (by decide) fl_X5_46 rfl rfl rfl rfl rfl (Nat.le_of_ble_eq_true rfl) dX5_wantNone_25 (fun H locs G => ?_)
      have G : wd Z A s ([(h, .inr (6, [.ref a])), (a, .inr (0, [.int mc, .ref qe, .int (nI ((wnF (k + 1) bl).length))]))] ++ (List.map bO (wnF (k + 1) bl) ++ (List.map (bA Z) (wnF (k + 1) bl) ++ arE Z qe ar))) H locs := by rw [wnF_set hy, wnF_bA, ← wnF_bA Z (k + 1) bl, wnF_len, ← wnF_len (k + 1) bl] at G; exact G
      refine lv_iinc (v := nI (k + 1)) (lv' := [(1, .int (nI (k + 1))), (0, .ref h)]) hx hb dX5_wantNone_28 hl (k := 0) rfl (nI_1 _) (by decide) rfl (fun ls hl => ?_)
      refine lv_goto (tgt := 2) hx hb dX5_wantNone_31 (by decide) ?_
      exact ih (k + 1) (by omega) _ _ _ G (lv_sub hl [0, 1] rfl)
set_option maxRecDepth 100000 in
set_option maxHeartbeats 4000000 in
theorem c_X5_wantNone (Z : zT) (l : Launch) (h a qe : Nat) (mc : Int32) (ar : arT) (bl : List blT) (hok : shOk Z qe ar bl) : Kv Z l yX5_wantNone cX5_wantNone 2 none ({ frames := 3, cells := 0, slots := 0, locals := 90 }) [.ref h] (shW Z h a mc qe ar bl) (fun u => u = shW Z h a mc qe ar (bl.map (bl_w 0))) := by
  intro sz
  refine Met.ofK (cc := cX5_wantNone) (maxL := 2) (ret := none) (by decide) (Nat.le_of_ble_eq_true rfl) ?_
  intro p e s m below meth c ls C G hl
  generalize va_A _ sz = A at G ⊢
  have hx := C.1
  have hb := C.2.1
  have hown := C.2.2.2.2.2.1
  have hts := C.2.2.2.2.2.2.1
  refine lv_iconst (v := 0) hx hb dX5_wantNone_0 (by decide) ?_
  refine k_topi (y := nI 0) (by rfl) ?_
  refine lv_istore_n (lv' := [(1, .int (nI 0)), (0, .ref h)]) hx hb dX5_wantNone_1 rfl hl (by decide) rfl (fun ls hl => ?_)
  exact lp_X5_wantNone (post := fun u => u = shW Z h a mc qe ar (bl.map (bl_w 0))) C hok rfl bl.length 0 (by omega) _ _ _ G (lv_sub hl [0, 1] rfl)
set_option maxRecDepth 100000 in
set_option maxHeartbeats 4000000 in
theorem c_X5_want (Z : zT) (l : Launch) (h a qe : Nat) (mc : Int32) (ar : arT) (bl : List blT) (hok : shOk Z qe ar bl) (hso : bSo bl) (x : Int32) : Kv Z l yX5_want cX5_want 3 none ({ frames := 5, cells := 0, slots := 0, locals := 150 }) [.ref h, .int x] (shW Z h a mc qe ar bl) (fun u => u = shW Z h a mc qe ar (bWa bl x)) := by
  intro sz
  refine Met.ofK (cc := cX5_want) (maxL := 3) (ret := none) (by decide) (Nat.le_of_ble_eq_true rfl) ?_
  intro p e s m below meth c ls C G hl
  generalize va_A _ sz = A at G ⊢
  have hx := C.1
  have hb := C.2.1
  have hown := C.2.2.2.2.2.1
  have hts := C.2.2.2.2.2.2.1
  refine lv_aload_n hx hb dX5_want_0 rfl (lv_at hl 0 rfl) ?_
  refine lv_iload_n hx hb dX5_want_1 rfl (lv_at hl 1 rfl) ?_
  have hX : List.Perm (α := Nat × va_E) ([(h, .inr (6, [.ref a])), (a, .inr (0, [.int mc, .ref qe, .int (nI bl.length)]))] ++ (List.map bO bl ++ (List.map (bA Z) bl ++ arE Z qe ar))) (([(h, .inr (6, [.ref a])), (a, .inr (0, [.int mc, .ref qe, .int (nI bl.length)]))] ++ (List.map bO bl ++ (List.map (bA Z) bl ++ arE Z qe ar))) ++ ([])) := (perm_sg [[(h, .inr (6, [.ref a]))], [(a, .inr (0, [.int mc, .ref qe, .int (nI bl.length)]))], List.map bO bl, List.map (bA Z) bl, arE Z qe ar] [[(h, .inr (6, [.ref a]))], [(a, .inr (0, [.int mc, .ref qe, .int (nI bl.length)]))], List.map bO bl, List.map (bA Z) bl, arE Z qe ar] [] [0, 1, 2, 3, 4] rfl 5 (by decide) rfl rfl rfl rfl)
  refine kc_q (Wc := [(h, .inr (6, [.ref a])), (a, .inr (0, [.int mc, .ref qe, .int (nI bl.length)]))] ++ (List.map bO bl ++ (List.map (bA Z) bl ++ arE Z qe ar))) (Wr := []) G hX (krV 1 rfl (As := [.int x]) (rest := []) (ci := 6) (CC := RX5) (T := TX5) (N := 1) C G hX (c_X5_blobOf Z l h a qe mc bl (List.map bO bl ++ (List.map (bA Z) bl ++ arE Z qe ar)) (shR.of hok) hso x _) (gdV ml_X5_50 im_X5_blobOf se_X5_blobOf ii_X5 co_X5_blobOf) (by decide +kernel) ⟨Nat.le_of_ble_eq_true rfl, Nat.le_of_ble_eq_true rfl⟩ rfl 0 rfl hl rfl (Nat.le_of_ble_eq_true rfl) ⟨Nat.le_of_ble_eq_true rfl, Nat.le_of_ble_eq_true rfl⟩ dX5_want_2) (fun r_2 u H locs hu G => ?_)
  obtain ⟨r_2_e, rfl⟩ := hu
  have G : wd Z A s ([(h, .inr (6, [.ref a])), (a, .inr (0, [.int mc, .ref qe, .int (nI bl.length)]))] ++ (List.map bO bl ++ (List.map (bA Z) bl ++ arE Z qe ar))) H locs := G.perm (show List.Perm (α := Nat × va_E) (([(h, .inr (6, [.ref a])), (a, .inr (0, [.int mc, .ref qe, .int (nI bl.length)]))] ++ (List.map bO bl ++ (List.map (bA Z) bl ++ arE Z qe ar))) ++ ([])) ([(h, .inr (6, [.ref a])), (a, .inr (0, [.int mc, .ref qe, .int (nI bl.length)]))] ++ (List.map bO bl ++ (List.map (bA Z) bl ++ arE Z qe ar))) from (perm_sg [[(h, .inr (6, [.ref a]))], [(a, .inr (0, [.int mc, .ref qe, .int (nI bl.length)]))], List.map bO bl, List.map (bA Z) bl, arE Z qe ar] [[(h, .inr (6, [.ref a]))], [(a, .inr (0, [.int mc, .ref qe, .int (nI bl.length)]))], List.map bO bl, List.map (bA Z) bl, arE Z qe ar] [] [0, 1, 2, 3, 4] rfl 5 (by decide) rfl rfl rfl rfl).symm)
  cases hy : bFd bl x with
  | none =>
    rw [hy] at r_2_e
    subst r_2_e
    refine k_topv (y := .null) rfl ?_
    refine lv_astore_nN (lv' := [(2, .null), (0, .ref h), (1, .int x)]) hx hb dX5_want_5 rfl hl (by decide) rfl (fun ls hl => ?_)
    refine lv_aload_nN hx hb dX5_want_6 rfl (lv_at hl 0 rfl) ?_
    refine lv_ifnullN (tgt := 15) hx hb dX5_want_7 (by decide) ?_
    exact kr_v C G (by rw [bWa, hy]) (Nat.le_of_ble_eq_true rfl) (Nat.le_of_ble_eq_true rfl) dX5_want_15
  | some y =>
    rw [hy] at r_2_e
    subst r_2_e
    refine k_topv (y := .ref (bl_ad y)) rfl ?_
    have hgy := (bFd_get hy).1
    refine lv_astore_n (lv' := [(2, .ref (bl_ad y)), (0, .ref h), (1, .int x)]) hx hb dX5_want_5 rfl hl (by decide) rfl (fun ls hl => ?_)
    refine lv_aload_n hx hb dX5_want_6 rfl (lv_at hl 0 rfl) ?_
    refine lv_ifnull hx hb dX5_want_7 ?_
    refine lv_aload_n hx hb dX5_want_10 rfl (lv_at hl 0 rfl) ?_
    refine lv_iconst (v := 1) hx hb dX5_want_11 (by decide) ?_
    refine k_putT (X := [(h, .inr (6, [.ref a])), (a, .inr (0, [.int mc, .ref qe, .int (nI bl.length)]))]) (Y := (List.map (bA Z) bl ++ arE Z qe ar)) (ci := 2) (CC := RX1) (T := TX1) (N := 6) (ty := .boolean) (v := .int 1) bO (bl) (bPl bl x) y (bl_w 1 y) C G hgy rfl rfl in_2 tyX1 tyX1_ok nmX1 5 rfl (by decide) fl_X5_46 rfl rfl rfl rfl rfl (Nat.le_of_ble_eq_true rfl) dX5_want_12 (fun H locs G => ?_)
    have G : wd Z A s ([(h, .inr (6, [.ref a])), (a, .inr (0, [.int mc, .ref qe, .int (nI ((bl.set (bPl bl x) (bl_w 1 y)).length))]))] ++ (List.map bO (bl.set (bPl bl x) (bl_w 1 y)) ++ (List.map (bA Z) (bl.set (bPl bl x) (bl_w 1 y)) ++ arE Z qe ar))) H locs := by rw [← set_bA (Z := Z) (y2 := bl_w 1 y) hgy rfl, ← List.length_set (i := bPl bl x) (a := bl_w 1 y) (as := bl)] at G; exact G
    exact kr_v C G (by rw [bWa, hy]) (Nat.le_of_ble_eq_true rfl) (Nat.le_of_ble_eq_true rfl) dX5_want_15
theorem perm_sg1 {X Y : va_W} (S S2 : List va_W) (is : List Nat) (h : is.map (fun i => S[i]?) = S2.map some) (n : Nat) (hn : is.isPerm (List.range n) = true) (hl : S.length = n) (hX : X = sg S) (h1 : Y = sg S2) : X.Perm Y := by
  have h2 := perm_sg (X := X) (Y1 := Y) (Y2 := []) S S2 [] is (by rw [List.append_nil]; exact h) n hn hl hX h1 rfl
  rw [List.append_nil] at h2
  exact h2
theorem ins_perm {Z : zT} {bl : List blT} {x : blT} {E : va_W} : ([bO x, bA Z x] ++ (bl.map bO ++ (bl.map (bA Z) ++ E))).Perm ((bIns bl x).map bO ++ ((bIns bl x).map (bA Z) ++ E)) := (blW_perm (bIns_perm bl x)).symm
set_option maxRecDepth 100000 in
set_option maxHeartbeats 4000000 in
theorem c_X5_insert (Z : zT) (l : Launch) (h a qe : Nat) (mc : Int32) (ar : arT) (bl : List blT) (x : blT) (hok : shOk Z qe ar bl) (hso : bSo bl) (hn : bl.length < 100) : Kv Z l yX5_insert cX5_insert 3 none ({ frames := 6, cells := 1, slots := 150, locals := 190 }) [.ref h, .ref (bl_ad x)] ([shC h a, liC a mc qe bl.length, bO x, bA Z x] ++ (bl.map bO ++ (bl.map (bA Z) ++ arE Z qe ar))) (fun u => ∃ qe2 ar2, shOk Z qe2 ar2 (bIns bl x) ∧ u = shW Z h a (mc + 1) qe2 ar2 (bIns bl x)) := by
  intro sz
  refine Met.ofK (cc := cX5_insert) (maxL := 3) (ret := none) (by decide) (Nat.le_of_ble_eq_true rfl) ?_
  intro p e s m below meth c ls C G hl
  generalize va_A _ sz = A at G ⊢
  have hx := C.1
  have hb := C.2.1
  have hown := C.2.2.2.2.2.1
  have hts := C.2.2.2.2.2.2.1
  refine lv_aload_n hx hb dX5_insert_0 rfl (lv_at hl 0 rfl) ?_
  refine lv_aload_n hx hb dX5_insert_1 rfl (lv_at hl 1 rfl) ?_
  refine k_get (ci := 2) (CC := RX1) (T := TX1) (N := 6) (v := .int (bl_nu x)) C G 2 rfl rfl in_2 0 (by decide) fl_X5_26 rfl rfl dX5_insert_2 ?_
  have hX : List.Perm (α := Nat × va_E) ([(h, .inr (6, [.ref a])), (a, .inr (0, [.int mc, .ref qe, .int (nI bl.length)])), ((bl_ad x), .inr (2, [.int (bl_nu x), .ref (bl_qa x), .int (bl_ex x), .int (bl_so x), va_rf (bl_ba x), .int (bl_wt x)])), ((bl_qa x), aB Z (bl_le x) (bl_fn x))] ++ (List.map bO bl ++ (List.map (bA Z) bl ++ arE Z qe ar))) (([(h, .inr (6, [.ref a])), (a, .inr (0, [.int mc, .ref qe, .int (nI bl.length)]))] ++ (List.map bO bl ++ (List.map (bA Z) bl ++ arE Z qe ar))) ++ ([((bl_ad x), .inr (2, [.int (bl_nu x), .ref (bl_qa x), .int (bl_ex x), .int (bl_so x), va_rf (bl_ba x), .int (bl_wt x)])), ((bl_qa x), aB Z (bl_le x) (bl_fn x))])) := (perm_sg [[(h, .inr (6, [.ref a]))], [(a, .inr (0, [.int mc, .ref qe, .int (nI bl.length)]))], [((bl_ad x), .inr (2, [.int (bl_nu x), .ref (bl_qa x), .int (bl_ex x), .int (bl_so x), va_rf (bl_ba x), .int (bl_wt x)]))], [((bl_qa x), aB Z (bl_le x) (bl_fn x))], List.map bO bl, List.map (bA Z) bl, arE Z qe ar] [[(h, .inr (6, [.ref a]))], [(a, .inr (0, [.int mc, .ref qe, .int (nI bl.length)]))], List.map bO bl, List.map (bA Z) bl, arE Z qe ar] [[((bl_ad x), .inr (2, [.int (bl_nu x), .ref (bl_qa x), .int (bl_ex x), .int (bl_so x), va_rf (bl_ba x), .int (bl_wt x)]))], [((bl_qa x), aB Z (bl_le x) (bl_fn x))]] [0, 1, 4, 5, 6, 2, 3] rfl 7 (by decide) rfl rfl rfl rfl)
  refine kc_i (Wc := [(h, .inr (6, [.ref a])), (a, .inr (0, [.int mc, .ref qe, .int (nI bl.length)]))] ++ (List.map bO bl ++ (List.map (bA Z) bl ++ arE Z qe ar))) (Wr := [((bl_ad x), .inr (2, [.int (bl_nu x), .ref (bl_qa x), .int (bl_ex x), .int (bl_so x), va_rf (bl_ba x), .int (bl_wt x)])), ((bl_qa x), aB Z (bl_le x) (bl_fn x))]) G hX (krV 1 rfl (As := [.int (bl_nu x)]) (rest := []) (ci := 6) (CC := RX5) (T := TX5) (N := 1) C G hX (c_X5_placeOf Z l h a qe mc bl (List.map bO bl ++ (List.map (bA Z) bl ++ arE Z qe ar)) (shR.of hok) hso (bl_nu x) _) (gdV ml_X5_30 im_X5_placeOf se_X5_placeOf ii_X5 co_X5_placeOf) (by decide +kernel) ⟨Nat.le_of_ble_eq_true rfl, Nat.le_of_ble_eq_true rfl⟩ rfl 0 rfl hl rfl (Nat.le_of_ble_eq_true rfl) ⟨Nat.le_of_ble_eq_true rfl, Nat.le_of_ble_eq_true rfl⟩ dX5_insert_5) (fun r_5 u H locs hu G => ?_)
  obtain ⟨r_5_e, rfl⟩ := hu
  subst r_5_e
  have G : wd Z A s ([(h, .inr (6, [.ref a])), (a, .inr (0, [.int mc, .ref qe, .int (nI bl.length)])), ((bl_ad x), .inr (2, [.int (bl_nu x), .ref (bl_qa x), .int (bl_ex x), .int (bl_so x), va_rf (bl_ba x), .int (bl_wt x)])), ((bl_qa x), aB Z (bl_le x) (bl_fn x))] ++ (List.map bO bl ++ (List.map (bA Z) bl ++ arE Z qe ar))) H locs := G.perm (show List.Perm (α := Nat × va_E) (([(h, .inr (6, [.ref a])), (a, .inr (0, [.int mc, .ref qe, .int (nI bl.length)]))] ++ (List.map bO bl ++ (List.map (bA Z) bl ++ arE Z qe ar))) ++ ([((bl_ad x), .inr (2, [.int (bl_nu x), .ref (bl_qa x), .int (bl_ex x), .int (bl_so x), va_rf (bl_ba x), .int (bl_wt x)])), ((bl_qa x), aB Z (bl_le x) (bl_fn x))])) ([(h, .inr (6, [.ref a])), (a, .inr (0, [.int mc, .ref qe, .int (nI bl.length)])), ((bl_ad x), .inr (2, [.int (bl_nu x), .ref (bl_qa x), .int (bl_ex x), .int (bl_so x), va_rf (bl_ba x), .int (bl_wt x)])), ((bl_qa x), aB Z (bl_le x) (bl_fn x))] ++ (List.map bO bl ++ (List.map (bA Z) bl ++ arE Z qe ar))) from (perm_sg [[(h, .inr (6, [.ref a]))], [(a, .inr (0, [.int mc, .ref qe, .int (nI bl.length)]))], [((bl_ad x), .inr (2, [.int (bl_nu x), .ref (bl_qa x), .int (bl_ex x), .int (bl_so x), va_rf (bl_ba x), .int (bl_wt x)]))], [((bl_qa x), aB Z (bl_le x) (bl_fn x))], List.map bO bl, List.map (bA Z) bl, arE Z qe ar] [[(h, .inr (6, [.ref a]))], [(a, .inr (0, [.int mc, .ref qe, .int (nI bl.length)]))], List.map bO bl, List.map (bA Z) bl, arE Z qe ar] [[((bl_ad x), .inr (2, [.int (bl_nu x), .ref (bl_qa x), .int (bl_ex x), .int (bl_so x), va_rf (bl_ba x), .int (bl_wt x)]))], [((bl_qa x), aB Z (bl_le x) (bl_fn x))]] [0, 1, 4, 5, 6, 2, 3] rfl 7 (by decide) rfl rfl rfl rfl).symm)
  refine lv_istore_n (lv' := [(2, .int (nI (bPl bl (bl_nu x)))), (0, .ref h), (1, .ref (bl_ad x))]) hx hb dX5_insert_8 rfl hl (by decide) rfl (fun ls hl => ?_)
  refine lv_iload_n hx hb dX5_insert_9 rfl (lv_at hl 0 rfl) ?_
  refine lv_aload_n hx hb dX5_insert_10 rfl (lv_at hl 1 rfl) ?_
  refine k_get (ci := 6) (CC := RX5) (T := TX5) (N := 1) (v := .ref a) C G 0 rfl rfl in_6 0 (by decide) fl_X5_10 rfl rfl dX5_insert_11 ?_
  have hX : List.Perm (α := Nat × va_E) ([(h, .inr (6, [.ref a])), (a, .inr (0, [.int mc, .ref qe, .int (nI bl.length)])), ((bl_ad x), .inr (2, [.int (bl_nu x), .ref (bl_qa x), .int (bl_ex x), .int (bl_so x), va_rf (bl_ba x), .int (bl_wt x)])), ((bl_qa x), aB Z (bl_le x) (bl_fn x))] ++ (List.map bO bl ++ (List.map (bA Z) bl ++ arE Z qe ar))) (([(a, .inr (0, [.int mc, .ref qe, .int (nI bl.length)]))]) ++ ([(h, .inr (6, [.ref a])), ((bl_ad x), .inr (2, [.int (bl_nu x), .ref (bl_qa x), .int (bl_ex x), .int (bl_so x), va_rf (bl_ba x), .int (bl_wt x)])), ((bl_qa x), aB Z (bl_le x) (bl_fn x))] ++ (List.map bO bl ++ (List.map (bA Z) bl ++ arE Z qe ar)))) := (perm_sg [[(h, .inr (6, [.ref a]))], [(a, .inr (0, [.int mc, .ref qe, .int (nI bl.length)]))], [((bl_ad x), .inr (2, [.int (bl_nu x), .ref (bl_qa x), .int (bl_ex x), .int (bl_so x), va_rf (bl_ba x), .int (bl_wt x)]))], [((bl_qa x), aB Z (bl_le x) (bl_fn x))], List.map bO bl, List.map (bA Z) bl, arE Z qe ar] [[(a, .inr (0, [.int mc, .ref qe, .int (nI bl.length)]))]] [[(h, .inr (6, [.ref a]))], [((bl_ad x), .inr (2, [.int (bl_nu x), .ref (bl_qa x), .int (bl_ex x), .int (bl_so x), va_rf (bl_ba x), .int (bl_wt x)]))], [((bl_qa x), aB Z (bl_le x) (bl_fn x))], List.map bO bl, List.map (bA Z) bl, arE Z qe ar] [1, 0, 2, 3, 4, 5, 6] rfl 7 (by decide) rfl rfl rfl rfl)
  refine kc_i (Wc := [(a, .inr (0, [.int mc, .ref qe, .int (nI bl.length)]))]) (Wr := [(h, .inr (6, [.ref a])), ((bl_ad x), .inr (2, [.int (bl_nu x), .ref (bl_qa x), .int (bl_ex x), .int (bl_so x), va_rf (bl_ba x), .int (bl_wt x)])), ((bl_qa x), aB Z (bl_le x) (bl_fn x))] ++ (List.map bO bl ++ (List.map (bA Z) bl ++ arE Z qe ar))) G hX (krV 0 rfl (As := []) (rest := [.int (nI (bPl bl (bl_nu x)))]) (ci := 0) (CC := RJx4a65c) (T := TJx4a65c) (N := 3) C G hX (c_Jx4a65c_size Z l a qe bl.length mc _) (gdV ml_X5_16 im_Jx4a65c_size_8abf5 se_Jx4a65c_size_8abf5 ii_Jx4a65c co_Jx4a65c_size_8abf5) (by decide +kernel) ⟨Nat.le_of_ble_eq_true rfl, Nat.le_of_ble_eq_true rfl⟩ rfl 0 rfl hl rfl (Nat.le_of_ble_eq_true rfl) ⟨Nat.le_of_ble_eq_true rfl, Nat.le_of_ble_eq_true rfl⟩ dX5_insert_14) (fun r_14 u H locs hu G => ?_)
  obtain ⟨r_14_e, rfl⟩ := hu
  subst r_14_e
  have G : wd Z A s ([(a, .inr (0, [.int mc, .ref qe, .int (nI bl.length)])), (h, .inr (6, [.ref a])), ((bl_ad x), .inr (2, [.int (bl_nu x), .ref (bl_qa x), .int (bl_ex x), .int (bl_so x), va_rf (bl_ba x), .int (bl_wt x)])), ((bl_qa x), aB Z (bl_le x) (bl_fn x))] ++ (List.map bO bl ++ (List.map (bA Z) bl ++ arE Z qe ar))) H locs := G.perm (show List.Perm (α := Nat × va_E) (([(a, .inr (0, [.int mc, .ref qe, .int (nI bl.length)]))]) ++ ([(h, .inr (6, [.ref a])), ((bl_ad x), .inr (2, [.int (bl_nu x), .ref (bl_qa x), .int (bl_ex x), .int (bl_so x), va_rf (bl_ba x), .int (bl_wt x)])), ((bl_qa x), aB Z (bl_le x) (bl_fn x))] ++ (List.map bO bl ++ (List.map (bA Z) bl ++ arE Z qe ar)))) ([(a, .inr (0, [.int mc, .ref qe, .int (nI bl.length)])), (h, .inr (6, [.ref a])), ((bl_ad x), .inr (2, [.int (bl_nu x), .ref (bl_qa x), .int (bl_ex x), .int (bl_so x), va_rf (bl_ba x), .int (bl_wt x)])), ((bl_qa x), aB Z (bl_le x) (bl_fn x))] ++ (List.map bO bl ++ (List.map (bA Z) bl ++ arE Z qe ar))) from (perm_sg [[(a, .inr (0, [.int mc, .ref qe, .int (nI bl.length)]))], [(h, .inr (6, [.ref a]))], [((bl_ad x), .inr (2, [.int (bl_nu x), .ref (bl_qa x), .int (bl_ex x), .int (bl_so x), va_rf (bl_ba x), .int (bl_wt x)]))], [((bl_qa x), aB Z (bl_le x) (bl_fn x))], List.map bO bl, List.map (bA Z) bl, arE Z qe ar] [[(a, .inr (0, [.int mc, .ref qe, .int (nI bl.length)]))]] [[(h, .inr (6, [.ref a]))], [((bl_ad x), .inr (2, [.int (bl_nu x), .ref (bl_qa x), .int (bl_ex x), .int (bl_so x), va_rf (bl_ba x), .int (bl_wt x)]))], [((bl_qa x), aB Z (bl_le x) (bl_fn x))], List.map bO bl, List.map (bA Z) bl, arE Z qe ar] [0, 1, 2, 3, 4, 5, 6] rfl 7 (by decide) rfl rfl rfl rfl).symm)
  refine lv_icmp_gt (tgt := 29) hx hb dX5_insert_17 (by decide) (fun c_17 => ?_) (fun c_17 => ?_)
  · exact absurd c_17 (nI_nlt (bPl_le _ _) (by omega))
  · refine lv_aload_n hx hb dX5_insert_20 rfl (lv_at hl 1 rfl) ?_
    refine k_get (ci := 6) (CC := RX5) (T := TX5) (N := 1) (v := .ref a) C G 1 rfl rfl in_6 0 (by decide) fl_X5_10 rfl rfl dX5_insert_21 ?_
    refine lv_iload_n hx hb dX5_insert_24 rfl (lv_at hl 0 rfl) ?_
    refine lv_aload_n hx hb dX5_insert_25 rfl (lv_at hl 2 rfl) ?_
    have G : wd Z A s ([(h, .inr (6, [.ref a])), (a, .inr (0, [.int mc, .ref qe, .int (nI bl.length)])), ((bl_qa x), aB Z (bl_le x) (bl_fn x))] ++ ([bO x] ++ (List.map bO bl ++ (List.map (bA Z) bl ++ arE Z qe ar)))) H locs := G.perm (show List.Perm (α := Nat × va_E) ([(a, .inr (0, [.int mc, .ref qe, .int (nI bl.length)])), (h, .inr (6, [.ref a])), ((bl_ad x), .inr (2, [.int (bl_nu x), .ref (bl_qa x), .int (bl_ex x), .int (bl_so x), va_rf (bl_ba x), .int (bl_wt x)])), ((bl_qa x), aB Z (bl_le x) (bl_fn x))] ++ (List.map bO bl ++ (List.map (bA Z) bl ++ arE Z qe ar))) ([(h, .inr (6, [.ref a])), (a, .inr (0, [.int mc, .ref qe, .int (nI bl.length)])), ((bl_qa x), aB Z (bl_le x) (bl_fn x))] ++ ([bO x] ++ (List.map bO bl ++ (List.map (bA Z) bl ++ arE Z qe ar)))) from (perm_sg1 [[(a, .inr (0, [.int mc, .ref qe, .int (nI bl.length)]))], [(h, .inr (6, [.ref a]))], [((bl_ad x), .inr (2, [.int (bl_nu x), .ref (bl_qa x), .int (bl_ex x), .int (bl_so x), va_rf (bl_ba x), .int (bl_wt x)]))], [((bl_qa x), aB Z (bl_le x) (bl_fn x))], List.map bO bl, List.map (bA Z) bl, arE Z qe ar] [[(h, .inr (6, [.ref a]))], [(a, .inr (0, [.int mc, .ref qe, .int (nI bl.length)]))], [((bl_qa x), aB Z (bl_le x) (bl_fn x))], [bO x], List.map bO bl, List.map (bA Z) bl, arE Z qe ar] [1, 0, 3, 2, 4, 5, 6] rfl 7 (by decide) rfl rfl rfl))
    have hX : List.Perm (α := Nat × va_E) ([(h, .inr (6, [.ref a])), (a, .inr (0, [.int mc, .ref qe, .int (nI bl.length)])), ((bl_qa x), aB Z (bl_le x) (bl_fn x))] ++ ([bO x] ++ (List.map bO bl ++ (List.map (bA Z) bl ++ arE Z qe ar)))) (([(a, .inr (0, [.int mc, .ref qe, .int (nI bl.length)]))] ++ (arE Z qe ar ++ ([bO x] ++ List.map bO bl))) ++ ([(h, .inr (6, [.ref a])), ((bl_qa x), aB Z (bl_le x) (bl_fn x))] ++ List.map (bA Z) bl)) := (perm_sg [[(h, .inr (6, [.ref a]))], [(a, .inr (0, [.int mc, .ref qe, .int (nI bl.length)]))], [((bl_qa x), aB Z (bl_le x) (bl_fn x))], [bO x], List.map bO bl, List.map (bA Z) bl, arE Z qe ar] [[(a, .inr (0, [.int mc, .ref qe, .int (nI bl.length)]))], arE Z qe ar, [bO x], List.map bO bl] [[(h, .inr (6, [.ref a]))], [((bl_qa x), aB Z (bl_le x) (bl_fn x))], List.map (bA Z) bl] [1, 6, 3, 4, 0, 2, 5] rfl 7 (by decide) rfl rfl rfl rfl)
    refine kc_v (Wc := [(a, .inr (0, [.int mc, .ref qe, .int (nI bl.length)]))] ++ (arE Z qe ar ++ ([bO x] ++ List.map bO bl))) (Wr := [(h, .inr (6, [.ref a])), ((bl_qa x), aB Z (bl_le x) (bl_fn x))] ++ List.map (bA Z) bl) G hX (krV 2 rfl (As := [.int (nI (bPl bl (bl_nu x))), .ref (bl_ad x)]) (rest := []) (ci := 0) (CC := RJx4a65c) (T := TJx4a65c) (N := 3) C G hX (c_addS Z l a qe (bPl bl (bl_nu x)) mc ar bl ([bO x] ++ List.map bO bl) x (List.mem_append_left _ (List.mem_singleton.mpr rfl)) (fun y hy => List.mem_append_right _ (List.mem_map.mpr ⟨y, hy, rfl⟩)) hok (bPl_le bl (bl_nu x)) hn _) (gdV ml_X5_38 im_Jx4a65c_add_7a177 se_Jx4a65c_add_7a177 ii_Jx4a65c co_Jx4a65c_add_7a177) (by decide +kernel) ⟨Nat.le_of_ble_eq_true rfl, Nat.le_of_ble_eq_true rfl⟩ rfl 0 rfl hl rfl (Nat.le_of_ble_eq_true rfl) ⟨Nat.le_of_ble_eq_true rfl, Nat.le_of_ble_eq_true rfl⟩ dX5_insert_26) (fun u H locs hu G => ?_)
    obtain ⟨qe2, ar2, hok2, rfl⟩ := hu
    have G : wd Z A s ([(a, .inr (0, [.int (mc + 1), .ref qe2, .int (nI (bl.length + 1))])), (h, .inr (6, [.ref a])), ((bl_qa x), aB Z (bl_le x) (bl_fn x))] ++ (arE Z qe2 ar2 ++ ([bO x] ++ (List.map bO bl ++ List.map (bA Z) bl)))) H locs := G.perm (show List.Perm (α := Nat × va_E) (([(a, .inr (0, [.int (mc + 1), .ref qe2, .int (nI (bl.length + 1))]))] ++ (arE Z qe2 ar2 ++ ([bO x] ++ List.map bO bl))) ++ ([(h, .inr (6, [.ref a])), ((bl_qa x), aB Z (bl_le x) (bl_fn x))] ++ List.map (bA Z) bl)) ([(a, .inr (0, [.int (mc + 1), .ref qe2, .int (nI (bl.length + 1))])), (h, .inr (6, [.ref a])), ((bl_qa x), aB Z (bl_le x) (bl_fn x))] ++ (arE Z qe2 ar2 ++ ([bO x] ++ (List.map bO bl ++ List.map (bA Z) bl)))) from (perm_sg [[(a, .inr (0, [.int (mc + 1), .ref qe2, .int (nI (bl.length + 1))]))], [(h, .inr (6, [.ref a]))], [((bl_qa x), aB Z (bl_le x) (bl_fn x))], arE Z qe2 ar2, [bO x], List.map bO bl, List.map (bA Z) bl] [[(a, .inr (0, [.int (mc + 1), .ref qe2, .int (nI (bl.length + 1))]))], arE Z qe2 ar2, [bO x], List.map bO bl] [[(h, .inr (6, [.ref a]))], [((bl_qa x), aB Z (bl_le x) (bl_fn x))], List.map (bA Z) bl] [0, 3, 4, 5, 1, 2, 6] rfl 7 (by decide) rfl rfl rfl rfl).symm)
    have G : wd Z A s ([shC h a, liC a (mc + 1) qe2 (bl.length + 1)] ++ ([bO x, bA Z x] ++ (bl.map bO ++ (bl.map (bA Z) ++ arE Z qe2 ar2)))) H locs := G.perm (perm_sg1 [[(a, .inr (0, [.int (mc + 1), .ref qe2, .int (nI (bl.length + 1))]))], [(h, .inr (6, [.ref a]))], [bA Z x], arE Z qe2 ar2, [bO x], List.map bO bl, List.map (bA Z) bl] [[(h, .inr (6, [.ref a]))], [(a, .inr (0, [.int (mc + 1), .ref qe2, .int (nI (bl.length + 1))]))], [bO x], [bA Z x], List.map bO bl, List.map (bA Z) bl, arE Z qe2 ar2] [1, 0, 4, 2, 5, 6, 3] rfl 7 (by decide) rfl rfl rfl)
    have G := G.perm (List.Perm.append_left _ ins_perm)
    rw [← bIns_len bl x] at G
    exact kr_v C G ⟨qe2, ar2, hok2, rfl⟩ (Nat.le_of_ble_eq_true rfl) (Nat.le_of_ble_eq_true rfl) dX5_insert_29
