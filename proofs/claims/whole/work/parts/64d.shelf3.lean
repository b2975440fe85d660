/-! MODULE Shelf (X5), third part: what is taken away. -/
theorem k_popq {p : Program} {l : Launch} {e : Env} {R : Room} {s : State} {m : MethodId} {args : Array Value} {below : List Frame} {meth : Method} {c : Code} {H : Heap} {locs : List Loc} {cells slots : Nat} {Q : State → Prop} {cc : ByteArray} {pc : Nat} {ls : Array Slot} {rest : List Value} {r : Option Nat} (hx : p.tables.exec = Jvm.exec) (hb : c.code = cc) (hdg : decode cc pc = .ok (.pop, 1)) (k : W p l e R s m args below meth c H locs cells slots Q (F0 m (pc + 1) ls rest)) : W p l e R s m args below meth c H locs cells slots Q (F0 m pc ls (va_rf r :: rest)) := by
  cases r with
  | none => exact lv_pop hx hb hdg rfl k
  | some a => exact lv_pop hx hb hdg rfl k
def iM (k : Nat) : Int32 := nI k - 1
theorem iM_s (k : Nat) : iM (k + 1) = nI k := by
  have h := pk_sub (a := k + 1) (b := 1) (by omega)
  exact h
theorem iM_i (k : Nat) : iM (k + 1) + (-1) = iM k := by rw [iM_s, iM, ← Int32.sub_eq_add_neg]
theorem iM_0 : iM 0 < 0 := by decide
def kpt (y : blT) : Bool := !decide (bl_wt y = 0)
def tuF (k : Nat) (bl : List blT) : List blT := bl.take k ++ (bl.drop k).filter kpt
theorem drop_c {bl : List blT} {k : Nat} {y : blT} (h : bl[k]? = some y) : bl.drop k = y :: bl.drop (k + 1) := by
  have hk := (List.getElem?_eq_some_iff.mp h).1
  rw [List.drop_eq_getElem_cons hk]
  congr 1
  exact (List.getElem?_eq_some_iff.mp h).2
theorem tk_get {bl D : List blT} {k : Nat} {y : blT} (h : bl[k]? = some y) : (bl.take (k + 1) ++ D)[k]? = some y := by
  have hk := (List.getElem?_eq_some_iff.mp h).1
  rw [List.getElem?_append_left (by rw [List.length_take]; omega), List.getElem?_take_of_lt (by omega), h]
theorem tk_er {bl D : List blT} {k : Nat} {y : blT} (h : bl[k]? = some y) : (bl.take (k + 1) ++ D).eraseIdx k = bl.take k ++ D := by
  have hk := (List.getElem?_eq_some_iff.mp h).1
  have hl : (bl.take k).length = k := by rw [List.length_take]; omega
  have e : bl.take (k + 1) = bl.take k ++ [y] := by rw [List.take_add_one, h]; rfl
  rw [e, List.append_assoc, List.eraseIdx_append_of_length_le (by omega), hl, Nat.sub_self]
  rfl
theorem tuF_keep {bl : List blT} {k : Nat} {y : blT} (h : bl[k]? = some y) (hw : ¬ bl_wt y = 0) : tuF (k + 1) bl = tuF k bl := by
  have e : bl.take (k + 1) = bl.take k ++ [y] := by rw [List.take_add_one, h]; rfl
  unfold tuF
  rw [e, drop_c h, List.filter_cons, if_pos (by simp [kpt, hw]), List.append_assoc]
  rfl
theorem tuF_drop {bl : List blT} {k : Nat} {y : blT} (h : bl[k]? = some y) (hw : bl_wt y = 0) : (tuF (k + 1) bl).eraseIdx k = tuF k bl := by
  unfold tuF
  rw [tk_er h, drop_c h, List.filter_cons, if_neg (by simp [kpt, hw])]
theorem tuF_all (bl : List blT) : tuF bl.length bl = bl := by unfold tuF; rw [List.take_length, List.drop_length]; simp
theorem tuF_0 (bl : List blT) : tuF 0 bl = bl.filter kpt := by unfold tuF; simp
theorem wd.mid {Z : zT} {A : Nat → Prop} {s : State} {X Y R : va_W} {H : Heap} {locs : List Loc} (h : wd Z A s (X ++ (Y ++ R)) H locs) : wd Z A s (X ++ R) H locs := by
  have h1 : (X ++ (Y ++ R)).Perm ((X ++ R) ++ Y) := by
    rw [List.append_assoc]
    exact List.Perm.append_left X List.perm_append_comm
  exact (h.perm h1).sub
def tbF (t k : Nat) (bl : List blT) : List blT := bl.take k ++ bl.drop t
theorem tb_len {bl : List blT} {t k : Nat} (hk : k ≤ t) (ht : t ≤ bl.length) : (tbF t k bl).length = k + (bl.length - t) := by
  simp only [tbF, List.length_append, List.length_take, List.length_drop]; omega
set_option maxRecDepth 100000 in
set_option maxHeartbeats 4000000 in
theorem lp_X5_takeUnwanted {p : Program} {l : Launch} {e : Env} {s : State} {m : MethodId} {args : Array Value} {below : List Frame} {meth : Method} {c : Code} {Z : zT} {A : Nat → Prop} {h a qe : Nat} {bl : List blT} {post : Int32 → va_W → Prop} (C : cx p s m args meth c cX5_takeUnwanted 3 (some .int) RX5 "takeUnwanted") (hlb : bl.length ≤ 150) (hp : ∀ (r mc : Int32) (ar : arT), r = nI (bl.length - (bl.filter kpt).length) → shOk Z qe ar (bl.filter kpt) → post r (shW Z h a mc qe ar (bl.filter kpt))) : ∀ (k : Nat) (mc : Int32) (ar : arT), k ≤ bl.length → shOk Z qe ar (tuF k bl) → ∀ (H : Heap) (locs : List Loc) (ls : Array Slot), wd Z A s (shW Z h a mc qe ar (tuF k bl)) H locs → lv_has ls 3 [(2, .int (iM k)), (1, .int (nI bl.length)), (0, .ref h)] → W p l e ({ frames := 3, cells := 0, slots := 0, locals := 100 }) s m args below meth c H locs 0 0 (MQ below (va_Qi post (mB Z A) A) args s 0 0 A) (F0 m 12 ls []) := by
  have hx := C.1
  have hb := C.2.1
  have hown := C.2.2.2.2.2.1
  have hts := C.2.2.2.2.2.2.1
  intro k
  induction k with
  | zero =>
    intro mc ar hk hok2 H locs ls G hl
    have hR := shR.of hok2
    refine lv_iload_n hx hb dX5_takeUnwanted_12 rfl (lv_at hl 0 rfl) ?_
    refine lv_if_lt (tgt := 59) hx hb dX5_takeUnwanted_13 (by decide) (fun c_13 => ?_) (fun c_13 => ?_)
    · refine lv_iload_n hx hb dX5_takeUnwanted_59 rfl (lv_at hl 1 rfl) ?_
      refine lv_aload_n hx hb dX5_takeUnwanted_60 rfl (lv_at hl 2 rfl) ?_
      refine k_get (ci := 6) (CC := RX5) (T := TX5) (N := 1) (v := .ref a) C G 0 rfl rfl in_6 0 (by decide) fl_X5_10 rfl rfl dX5_takeUnwanted_61 ?_
      have hX : List.Perm (α := Nat × va_E) ([(h, .inr (6, [.ref a])), (a, .inr (0, [.int mc, .ref qe, .int (nI ((tuF 0 bl).length))]))] ++ (List.map bO (tuF 0 bl) ++ (List.map (bA Z) (tuF 0 bl) ++ arE Z qe ar))) (([(a, .inr (0, [.int mc, .ref qe, .int (nI ((tuF 0 bl).length))]))]) ++ ([(h, .inr (6, [.ref a]))] ++ (List.map bO (tuF 0 bl) ++ (List.map (bA Z) (tuF 0 bl) ++ arE Z qe ar)))) := (perm_sg [[(h, .inr (6, [.ref a]))], [(a, .inr (0, [.int mc, .ref qe, .int (nI ((tuF 0 bl).length))]))], List.map bO (tuF 0 bl), List.map (bA Z) (tuF 0 bl), arE Z qe ar] [[(a, .inr (0, [.int mc, .ref qe, .int (nI ((tuF 0 bl).length))]))]] [[(h, .inr (6, [.ref a]))], List.map bO (tuF 0 bl), List.map (bA Z) (tuF 0 bl), arE Z qe ar] [1, 0, 2, 3, 4] rfl 5 (by decide) rfl rfl rfl rfl)
      refine kc_i (Wc := [(a, .inr (0, [.int mc, .ref qe, .int (nI ((tuF 0 bl).length))]))]) (Wr := [(h, .inr (6, [.ref a]))] ++ (List.map bO (tuF 0 bl) ++ (List.map (bA Z) (tuF 0 bl) ++ arE Z qe ar))) G hX (krV 0 rfl (As := []) (rest := [.int (nI bl.length)]) (ci := 0) (CC := RJx4a65c) (T := TJx4a65c) (N := 3) C G hX (c_Jx4a65c_size Z l a qe ((tuF 0 bl).length) mc _) (gdV ml_X5_16 im_Jx4a65c_size_8abf5 se_Jx4a65c_size_8abf5 ii_Jx4a65c co_Jx4a65c_size_8abf5) (by decide +kernel) ⟨Nat.le_of_ble_eq_true rfl, Nat.le_of_ble_eq_true rfl⟩ rfl 0 rfl hl rfl (Nat.le_of_ble_eq_true rfl) ⟨Nat.le_of_ble_eq_true rfl, Nat.le_of_ble_eq_true rfl⟩ dX5_takeUnwanted_64) (fun r_64 u H locs hu G => ?_)
      obtain ⟨r_64_e, rfl⟩ := hu
      subst r_64_e
      have G : wd Z A s ([(a, .inr (0, [.int mc, .ref qe, .int (nI ((tuF 0 bl).length))])), (h, .inr (6, [.ref a]))] ++ (List.map bO (tuF 0 bl) ++ (List.map (bA Z) (tuF 0 bl) ++ arE Z qe ar))) H locs := G.perm (show List.Perm (α := Nat × va_E) (([(a, .inr (0, [.int mc, .ref qe, .int (nI ((tuF 0 bl).length))]))]) ++ ([(h, .inr (6, [.ref a]))] ++ (List.map bO (tuF 0 bl) ++ (List.map (bA Z) (tuF 0 bl) ++ arE Z qe ar)))) ([(a, .inr (0, [.int mc, .ref qe, .int (nI ((tuF 0 bl).length))])), (h, .inr (6, [.ref a]))] ++ (List.map bO (tuF 0 bl) ++ (List.map (bA Z) (tuF 0 bl) ++ arE Z qe ar))) from (perm_sg [[(a, .inr (0, [.int mc, .ref qe, .int (nI ((tuF 0 bl).length))]))], [(h, .inr (6, [.ref a]))], List.map bO (tuF 0 bl), List.map (bA Z) (tuF 0 bl), arE Z qe ar] [[(a, .inr (0, [.int mc, .ref qe, .int (nI ((tuF 0 bl).length))]))]] [[(h, .inr (6, [.ref a]))], List.map bO (tuF 0 bl), List.map (bA Z) (tuF 0 bl), arE Z qe ar] [0, 1, 2, 3, 4] rfl 5 (by decide) rfl rfl rfl rfl).symm)
      refine lv_isub hx hb dX5_takeUnwanted_67 ?_
      have G : wd Z A s ([(h, .inr (6, [.ref a])), (a, .inr (0, [.int mc, .ref qe, .int (nI ((tuF 0 bl).length))]))] ++ (List.map bO (tuF 0 bl) ++ (List.map (bA Z) (tuF 0 bl) ++ arE Z qe ar))) H locs := G.perm (show List.Perm (α := Nat × va_E) ([(a, .inr (0, [.int mc, .ref qe, .int (nI ((tuF 0 bl).length))])), (h, .inr (6, [.ref a]))] ++ (List.map bO (tuF 0 bl) ++ (List.map (bA Z) (tuF 0 bl) ++ arE Z qe ar))) ([(h, .inr (6, [.ref a])), (a, .inr (0, [.int mc, .ref qe, .int (nI ((tuF 0 bl).length))]))] ++ (List.map bO (tuF 0 bl) ++ (List.map (bA Z) (tuF 0 bl) ++ arE Z qe ar))) from List.Perm.swap _ _ _)
      rw [tuF_0] at G hok2
      exact kr_i C G (hp _ _ _ (by rw [tuF_0, pk_sub (List.length_filter_le _ _)]) hok2) (Nat.le_of_ble_eq_true rfl) (Nat.le_of_ble_eq_true rfl) dX5_takeUnwanted_68
    · exact absurd iM_0 c_13
  | succ k ih =>
    intro mc ar hk hok2 H locs ls G hl
    have hR := shR.of hok2
    refine lv_iload_n hx hb dX5_takeUnwanted_12 rfl (lv_at hl 0 rfl) ?_
    refine k_topi (y := nI k) (by exact iM_s k) ?_
    refine lv_if_lt (tgt := 59) hx hb dX5_takeUnwanted_13 (by decide) (fun c_13 => ?_) (fun c_13 => ?_)
    · exact absurd c_13 (nI_pos (by omega))
    · obtain ⟨y, hy⟩ : ∃ y, bl[k]? = some y := ⟨_, List.getElem?_eq_getElem (by omega)⟩
      have hy2 : (tuF (k + 1) bl)[k]? = some y := tk_get hy
      have hk2 := (List.getElem?_eq_some_iff.mp hy2).1
      have hk3 := hok2.le
      refine lv_iload_n hx hb dX5_takeUnwanted_16 rfl (lv_at hl 0 rfl) ?_
      refine k_topi (y := nI k) (by exact iM_s k) ?_
      refine lv_aload_n hx hb dX5_takeUnwanted_17 rfl (lv_at hl 2 rfl) ?_
      refine k_get (ci := 6) (CC := RX5) (T := TX5) (N := 1) (v := .ref a) C G 0 rfl rfl in_6 0 (by decide) fl_X5_10 rfl rfl dX5_takeUnwanted_18 ?_
      have hX : List.Perm (α := Nat × va_E) ([(h, .inr (6, [.ref a])), (a, .inr (0, [.int mc, .ref qe, .int (nI ((tuF (k + 1) bl).length))]))] ++ (List.map bO (tuF (k + 1) bl) ++ (List.map (bA Z) (tuF (k + 1) bl) ++ arE Z qe ar))) (([(a, .inr (0, [.int mc, .ref qe, .int (nI ((tuF (k + 1) bl).length))]))]) ++ ([(h, .inr (6, [.ref a]))] ++ (List.map bO (tuF (k + 1) bl) ++ (List.map (bA Z) (tuF (k + 1) bl) ++ arE Z qe ar)))) := (perm_sg [[(h, .inr (6, [.ref a]))], [(a, .inr (0, [.int mc, .ref qe, .int (nI ((tuF (k + 1) bl).length))]))], List.map bO (tuF (k + 1) bl), List.map (bA Z) (tuF (k + 1) bl), arE Z qe ar] [[(a, .inr (0, [.int mc, .ref qe, .int (nI ((tuF (k + 1) bl).length))]))]] [[(h, .inr (6, [.ref a]))], List.map bO (tuF (k + 1) bl), List.map (bA Z) (tuF (k + 1) bl), arE Z qe ar] [1, 0, 2, 3, 4] rfl 5 (by decide) rfl rfl rfl rfl)
      refine kc_i (Wc := [(a, .inr (0, [.int mc, .ref qe, .int (nI ((tuF (k + 1) bl).length))]))]) (Wr := [(h, .inr (6, [.ref a]))] ++ (List.map bO (tuF (k + 1) bl) ++ (List.map (bA Z) (tuF (k + 1) bl) ++ arE Z qe ar))) G hX (krV 0 rfl (As := []) (rest := [.int (nI k)]) (ci := 0) (CC := RJx4a65c) (T := TJx4a65c) (N := 3) C G hX (c_Jx4a65c_size Z l a qe ((tuF (k + 1) bl).length) mc _) (gdV ml_X5_16 im_Jx4a65c_size_8abf5 se_Jx4a65c_size_8abf5 ii_Jx4a65c co_Jx4a65c_size_8abf5) (by decide +kernel) ⟨Nat.le_of_ble_eq_true rfl, Nat.le_of_ble_eq_true rfl⟩ rfl 0 rfl hl rfl (Nat.le_of_ble_eq_true rfl) ⟨Nat.le_of_ble_eq_true rfl, Nat.le_of_ble_eq_true rfl⟩ dX5_takeUnwanted_21) (fun r_21 u H locs hu G => ?_)
      obtain ⟨r_21_e, rfl⟩ := hu
      subst r_21_e
      have G : wd Z A s ([(a, .inr (0, [.int mc, .ref qe, .int (nI ((tuF (k + 1) bl).length))])), (h, .inr (6, [.ref a]))] ++ (List.map bO (tuF (k + 1) bl) ++ (List.map (bA Z) (tuF (k + 1) bl) ++ arE Z qe ar))) H locs := G.perm (show List.Perm (α := Nat × va_E) (([(a, .inr (0, [.int mc, .ref qe, .int (nI ((tuF (k + 1) bl).length))]))]) ++ ([(h, .inr (6, [.ref a]))] ++ (List.map bO (tuF (k + 1) bl) ++ (List.map (bA Z) (tuF (k + 1) bl) ++ arE Z qe ar)))) ([(a, .inr (0, [.int mc, .ref qe, .int (nI ((tuF (k + 1) bl).length))])), (h, .inr (6, [.ref a]))] ++ (List.map bO (tuF (k + 1) bl) ++ (List.map (bA Z) (tuF (k + 1) bl) ++ arE Z qe ar))) from (perm_sg [[(a, .inr (0, [.int mc, .ref qe, .int (nI ((tuF (k + 1) bl).length))]))], [(h, .inr (6, [.ref a]))], List.map bO (tuF (k + 1) bl), List.map (bA Z) (tuF (k + 1) bl), arE Z qe ar] [[(a, .inr (0, [.int mc, .ref qe, .int (nI ((tuF (k + 1) bl).length))]))]] [[(h, .inr (6, [.ref a]))], List.map bO (tuF (k + 1) bl), List.map (bA Z) (tuF (k + 1) bl), arE Z qe ar] [0, 1, 2, 3, 4] rfl 5 (by decide) rfl rfl rfl rfl).symm)
      refine lv_icmp_ge (tgt := 53) hx hb dX5_takeUnwanted_24 (by decide) (fun c_24 => ?_) (fun c_24 => ?_)
      · exact absurd c_24 (nI_ge hk2 (by omega))
      · obtain ⟨⟨cap, g, hE, hnc, hcap, hgj⟩, hmO, hmA⟩ := hR.2 (k) y hy2
        refine lv_aload_n hx hb dX5_takeUnwanted_27 rfl (lv_at hl 2 rfl) ?_
        refine k_get (ci := 6) (CC := RX5) (T := TX5) (N := 1) (v := .ref a) C G 1 rfl rfl in_6 0 (by decide) fl_X5_10 rfl rfl dX5_takeUnwanted_28 ?_
        refine lv_iload_n hx hb dX5_takeUnwanted_31 rfl (lv_at hl 0 rfl) ?_
        refine k_topi (y := nI k) (by exact iM_s k) ?_
        have hX : List.Perm (α := Nat × va_E) ([(a, .inr (0, [.int mc, .ref qe, .int (nI ((tuF (k + 1) bl).length))])), (h, .inr (6, [.ref a]))] ++ (List.map bO (tuF (k + 1) bl) ++ (List.map (bA Z) (tuF (k + 1) bl) ++ arE Z qe ar))) (([(a, .inr (0, [.int mc, .ref qe, .int (nI ((tuF (k + 1) bl).length))]))] ++ (List.map bO (tuF (k + 1) bl) ++ (List.map (bA Z) (tuF (k + 1) bl) ++ arE Z qe ar))) ++ ([(h, .inr (6, [.ref a]))])) := (perm_sg [[(a, .inr (0, [.int mc, .ref qe, .int (nI ((tuF (k + 1) bl).length))]))], [(h, .inr (6, [.ref a]))], List.map bO (tuF (k + 1) bl), List.map (bA Z) (tuF (k + 1) bl), arE Z qe ar] [[(a, .inr (0, [.int mc, .ref qe, .int (nI ((tuF (k + 1) bl).length))]))], List.map bO (tuF (k + 1) bl), List.map (bA Z) (tuF (k + 1) bl), arE Z qe ar] [[(h, .inr (6, [.ref a]))]] [0, 2, 3, 4, 1] rfl 5 (by decide) rfl rfl rfl rfl)
        refine kc_q (Wc := [(a, .inr (0, [.int mc, .ref qe, .int (nI ((tuF (k + 1) bl).length))]))] ++ (List.map bO (tuF (k + 1) bl) ++ (List.map (bA Z) (tuF (k + 1) bl) ++ arE Z qe ar))) (Wr := [(h, .inr (6, [.ref a]))]) G hX (krV 1 rfl (As := [.int (nI k)]) (rest := []) (ci := 0) (CC := RJx4a65c) (T := TJx4a65c) (N := 3) C G hX (c_Jx4a65c_get Z l a qe ((tuF (k + 1) bl).length) (k) cap mc g (List.map bO (tuF (k + 1) bl) ++ (List.map (bA Z) (tuF (k + 1) bl) ++ arE Z qe ar)) hE (by omega) hnc (by omega) _) (gdV ml_X5_20 im_Jx4a65c_get_915e3 se_Jx4a65c_get_915e3 ii_Jx4a65c co_Jx4a65c_get_915e3) (by decide +kernel) ⟨Nat.le_of_ble_eq_true rfl, Nat.le_of_ble_eq_true rfl⟩ rfl 0 rfl hl rfl (Nat.le_of_ble_eq_true rfl) ⟨Nat.le_of_ble_eq_true rfl, Nat.le_of_ble_eq_true rfl⟩ dX5_takeUnwanted_32) (fun r_32 u H locs hu G => ?_)
        obtain ⟨r_32_e, rfl⟩ := hu
        rw [hgj] at r_32_e
        subst r_32_e
        have G : wd Z A s ([(a, .inr (0, [.int mc, .ref qe, .int (nI ((tuF (k + 1) bl).length))])), (h, .inr (6, [.ref a]))] ++ (List.map bO (tuF (k + 1) bl) ++ (List.map (bA Z) (tuF (k + 1) bl) ++ arE Z qe ar))) H locs := G.perm (show List.Perm (α := Nat × va_E) (([(a, .inr (0, [.int mc, .ref qe, .int (nI ((tuF (k + 1) bl).length))]))] ++ (List.map bO (tuF (k + 1) bl) ++ (List.map (bA Z) (tuF (k + 1) bl) ++ arE Z qe ar))) ++ ([(h, .inr (6, [.ref a]))])) ([(a, .inr (0, [.int mc, .ref qe, .int (nI ((tuF (k + 1) bl).length))])), (h, .inr (6, [.ref a]))] ++ (List.map bO (tuF (k + 1) bl) ++ (List.map (bA Z) (tuF (k + 1) bl) ++ arE Z qe ar))) from (perm_sg [[(a, .inr (0, [.int mc, .ref qe, .int (nI ((tuF (k + 1) bl).length))]))], [(h, .inr (6, [.ref a]))], List.map bO (tuF (k + 1) bl), List.map (bA Z) (tuF (k + 1) bl), arE Z qe ar] [[(a, .inr (0, [.int mc, .ref qe, .int (nI ((tuF (k + 1) bl).length))]))], List.map bO (tuF (k + 1) bl), List.map (bA Z) (tuF (k + 1) bl), arE Z qe ar] [[(h, .inr (6, [.ref a]))]] [0, 2, 3, 4, 1] rfl 5 (by decide) rfl rfl rfl rfl).symm)
        refine k_topv (y := .ref (bl_ad y)) rfl ?_
        refine k_castBl C G cl_X5_24 (List.mem_append_right _ hmO) dX5_takeUnwanted_35 ?_
        refine k_getM (ci := 2) (CC := RX1) (T := TX1) (N := 6) (v := .int (bl_wt y)) C G (List.mem_append_right _ hmO) rfl in_2 5 (by decide) fl_X5_46 rfl rfl dX5_takeUnwanted_38 ?_
        refine lv_if_ne (tgt := 53) hx hb dX5_takeUnwanted_41 (by decide) (fun c_41 => ?_) (fun c_41 => ?_)
        · refine lv_iinc (v := iM k) (lv' := [(2, .int (iM k)), (1, .int (nI bl.length)), (0, .ref h)]) hx hb dX5_takeUnwanted_53 hl (k := 0) rfl (iM_i k) (by decide) rfl (fun ls hl => ?_)
          refine lv_goto (tgt := 12) hx hb dX5_takeUnwanted_56 (by decide) ?_
          have G : wd Z A s ([(h, .inr (6, [.ref a])), (a, .inr (0, [.int mc, .ref qe, .int (nI ((tuF (k + 1) bl).length))]))] ++ (List.map bO (tuF (k + 1) bl) ++ (List.map (bA Z) (tuF (k + 1) bl) ++ arE Z qe ar))) H locs := G.perm (show List.Perm (α := Nat × va_E) ([(a, .inr (0, [.int mc, .ref qe, .int (nI ((tuF (k + 1) bl).length))])), (h, .inr (6, [.ref a]))] ++ (List.map bO (tuF (k + 1) bl) ++ (List.map (bA Z) (tuF (k + 1) bl) ++ arE Z qe ar))) ([(h, .inr (6, [.ref a])), (a, .inr (0, [.int mc, .ref qe, .int (nI ((tuF (k + 1) bl).length))]))] ++ (List.map bO (tuF (k + 1) bl) ++ (List.map (bA Z) (tuF (k + 1) bl) ++ arE Z qe ar))) from List.Perm.swap _ _ _)
          rw [tuF_keep hy c_41] at G hok2
          exact ih _ _ (by omega) hok2 _ _ _ G (lv_sub hl [0, 1, 2] rfl)
        · refine lv_aload_n hx hb dX5_takeUnwanted_44 rfl (lv_at hl 2 rfl) ?_
          refine k_get (ci := 6) (CC := RX5) (T := TX5) (N := 1) (v := .ref a) C G 1 rfl rfl in_6 0 (by decide) fl_X5_10 rfl rfl dX5_takeUnwanted_45 ?_
          refine lv_iload_n hx hb dX5_takeUnwanted_48 rfl (lv_at hl 0 rfl) ?_
          refine k_topi (y := nI k) (by exact iM_s k) ?_
          have hX : List.Perm (α := Nat × va_E) ([(a, .inr (0, [.int mc, .ref qe, .int (nI ((tuF (k + 1) bl).length))])), (h, .inr (6, [.ref a]))] ++ (List.map bO (tuF (k + 1) bl) ++ (List.map (bA Z) (tuF (k + 1) bl) ++ arE Z qe ar))) (([(a, .inr (0, [.int mc, .ref qe, .int (nI ((tuF (k + 1) bl).length))]))] ++ (arE Z qe ar ++ List.map bO (tuF (k + 1) bl))) ++ ([(h, .inr (6, [.ref a]))] ++ List.map (bA Z) (tuF (k + 1) bl))) := (perm_sg [[(a, .inr (0, [.int mc, .ref qe, .int (nI ((tuF (k + 1) bl).length))]))], [(h, .inr (6, [.ref a]))], List.map bO (tuF (k + 1) bl), List.map (bA Z) (tuF (k + 1) bl), arE Z qe ar] [[(a, .inr (0, [.int mc, .ref qe, .int (nI ((tuF (k + 1) bl).length))]))], arE Z qe ar, List.map bO (tuF (k + 1) bl)] [[(h, .inr (6, [.ref a]))], List.map (bA Z) (tuF (k + 1) bl)] [0, 4, 2, 1, 3] rfl 5 (by decide) rfl rfl rfl rfl)
          refine kc_q (Wc := [(a, .inr (0, [.int mc, .ref qe, .int (nI ((tuF (k + 1) bl).length))]))] ++ (arE Z qe ar ++ List.map bO (tuF (k + 1) bl))) (Wr := [(h, .inr (6, [.ref a]))] ++ List.map (bA Z) (tuF (k + 1) bl)) G hX (krV 1 rfl (As := [.int (nI k)]) (rest := []) (ci := 0) (CC := RJx4a65c) (T := TJx4a65c) (N := 3) C G hX (c_remS Z l a qe (k) mc ar (tuF (k + 1) bl) (List.map bO (tuF (k + 1) bl)) y hy2 (fun y hy => List.mem_map.mpr ⟨y, hy, rfl⟩) hok2 _) (gdV ml_X5_53 im_Jx4a65c_remove_915e3 se_Jx4a65c_remove_915e3 ii_Jx4a65c co_Jx4a65c_remove_915e3) (by decide +kernel) ⟨Nat.le_of_ble_eq_true rfl, Nat.le_of_ble_eq_true rfl⟩ rfl 0 rfl hl rfl (Nat.le_of_ble_eq_true rfl) ⟨Nat.le_of_ble_eq_true rfl, Nat.le_of_ble_eq_true rfl⟩ dX5_takeUnwanted_49) (fun r_49 u H locs hu G => ?_)
          obtain ⟨ar2, hok3, rfl⟩ := hu
          have G : wd Z A s ([(h, .inr (6, [.ref a])), (a, .inr (0, [.int (mc + 1), .ref qe, .int (nI ((tuF (k + 1) bl).length - 1))]))] ++ (List.map bO (tuF (k + 1) bl) ++ (List.map (bA Z) (tuF (k + 1) bl) ++ arE Z qe ar2))) H locs := G.perm (show List.Perm (α := Nat × va_E) (([(a, .inr (0, [.int (mc + 1), .ref qe, .int (nI ((tuF (k + 1) bl).length - 1))]))] ++ (arE Z qe ar2 ++ List.map bO (tuF (k + 1) bl))) ++ ([(h, .inr (6, [.ref a]))] ++ List.map (bA Z) (tuF (k + 1) bl))) ([(h, .inr (6, [.ref a])), (a, .inr (0, [.int (mc + 1), .ref qe, .int (nI ((tuF (k + 1) bl).length - 1))]))] ++ (List.map bO (tuF (k + 1) bl) ++ (List.map (bA Z) (tuF (k + 1) bl) ++ arE Z qe ar2))) from (perm_sg [[(h, .inr (6, [.ref a]))], [(a, .inr (0, [.int (mc + 1), .ref qe, .int (nI ((tuF (k + 1) bl).length - 1))]))], List.map bO (tuF (k + 1) bl), List.map (bA Z) (tuF (k + 1) bl), arE Z qe ar2] [[(a, .inr (0, [.int (mc + 1), .ref qe, .int (nI ((tuF (k + 1) bl).length - 1))]))], arE Z qe ar2, List.map bO (tuF (k + 1) bl)] [[(h, .inr (6, [.ref a]))], List.map (bA Z) (tuF (k + 1) bl)] [1, 4, 2, 0, 3] rfl 5 (by decide) rfl rfl rfl rfl).symm)
          have G := (G.perm (List.Perm.append_left _ (blW_perm (perm_er hy2)))).mid
          rw [← List.length_eraseIdx_of_lt (List.getElem?_eq_some_iff.mp hy2).1, tuF_drop hy c_41] at G
          rw [tuF_drop hy c_41] at hok3
          refine k_popq hx hb dX5_takeUnwanted_52 ?_
          refine lv_iinc (v := iM k) (lv' := [(2, .int (iM k)), (1, .int (nI bl.length)), (0, .ref h)]) hx hb dX5_takeUnwanted_53 hl (k := 0) rfl (iM_i k) (by decide) rfl (fun ls hl => ?_)
          refine lv_goto (tgt := 12) hx hb dX5_takeUnwanted_56 (by decide) ?_
          exact ih _ _ (by omega) hok3 _ _ _ G (lv_sub hl [0, 1, 2] rfl)
set_option maxRecDepth 100000 in
set_option maxHeartbeats 4000000 in
theorem c_X5_takeUnwanted (Z : zT) (l : Launch) (h a qe : Nat) (mc : Int32) (ar : arT) (bl : List blT) (hok : shOk Z qe ar bl) : Ki Z l yX5_takeUnwanted cX5_takeUnwanted 3 (some .int) ({ frames := 3, cells := 0, slots := 0, locals := 100 }) [.ref h] (shW Z h a mc qe ar bl) (fun r u => r = nI (bl.length - (bl.filter kpt).length) ∧ ∃ mc2 ar2, shOk Z qe ar2 (bl.filter kpt) ∧ u = shW Z h a mc2 qe ar2 (bl.filter kpt)) := by
  intro sz
  refine Met.ofK (cc := cX5_takeUnwanted) (maxL := 3) (ret := (some .int)) (by decide) (Nat.le_of_ble_eq_true rfl) ?_
  intro p e s m below meth c ls C G hl
  generalize va_A _ sz = A at G ⊢
  have hx := C.1
  have hb := C.2.1
  have hown := C.2.2.2.2.2.1
  have hts := C.2.2.2.2.2.2.1
  refine lv_aload_n hx hb dX5_takeUnwanted_0 rfl (lv_at hl 0 rfl) ?_
  refine k_get (ci := 6) (CC := RX5) (T := TX5) (N := 1) (v := .ref a) C G 0 rfl rfl in_6 0 (by decide) fl_X5_10 rfl rfl dX5_takeUnwanted_1 ?_
  have hX : List.Perm (α := Nat × va_E) ([(h, .inr (6, [.ref a])), (a, .inr (0, [.int mc, .ref qe, .int (nI bl.length)]))] ++ (List.map bO bl ++ (List.map (bA Z) bl ++ arE Z qe ar))) (([(a, .inr (0, [.int mc, .ref qe, .int (nI bl.length)]))]) ++ ([(h, .inr (6, [.ref a]))] ++ (List.map bO bl ++ (List.map (bA Z) bl ++ arE Z qe ar)))) := (perm_sg [[(h, .inr (6, [.ref a]))], [(a, .inr (0, [.int mc, .ref qe, .int (nI bl.length)]))], List.map bO bl, List.map (bA Z) bl, arE Z qe ar] [[(a, .inr (0, [.int mc, .ref qe, .int (nI bl.length)]))]] [[(h, .inr (6, [.ref a]))], List.map bO bl, List.map (bA Z) bl, arE Z qe ar] [1, 0, 2, 3, 4] rfl 5 (by decide) rfl rfl rfl rfl)
  refine kc_i (Wc := [(a, .inr (0, [.int mc, .ref qe, .int (nI bl.length)]))]) (Wr := [(h, .inr (6, [.ref a]))] ++ (List.map bO bl ++ (List.map (bA Z) bl ++ arE Z qe ar))) G hX (krV 0 rfl (As := []) (rest := []) (ci := 0) (CC := RJx4a65c) (T := TJx4a65c) (N := 3) C G hX (c_Jx4a65c_size Z l a qe bl.length mc _) (gdV ml_X5_16 im_Jx4a65c_size_8abf5 se_Jx4a65c_size_8abf5 ii_Jx4a65c co_Jx4a65c_size_8abf5) (by decide +kernel) ⟨Nat.le_of_ble_eq_true rfl, Nat.le_of_ble_eq_true rfl⟩ rfl 0 rfl hl rfl (Nat.le_of_ble_eq_true rfl) ⟨Nat.le_of_ble_eq_true rfl, Nat.le_of_ble_eq_true rfl⟩ dX5_takeUnwanted_4) (fun r_4 u H locs hu G => ?_)
  obtain ⟨r_4_e, rfl⟩ := hu
  subst r_4_e
  have G : wd Z A s ([(a, .inr (0, [.int mc, .ref qe, .int (nI bl.length)])), (h, .inr (6, [.ref a]))] ++ (List.map bO bl ++ (List.map (bA Z) bl ++ arE Z qe ar))) H locs := G.perm (show List.Perm (α := Nat × va_E) (([(a, .inr (0, [.int mc, .ref qe, .int (nI bl.length)]))]) ++ ([(h, .inr (6, [.ref a]))] ++ (List.map bO bl ++ (List.map (bA Z) bl ++ arE Z qe ar)))) ([(a, .inr (0, [.int mc, .ref qe, .int (nI bl.length)])), (h, .inr (6, [.ref a]))] ++ (List.map bO bl ++ (List.map (bA Z) bl ++ arE Z qe ar))) from (perm_sg [[(a, .inr (0, [.int mc, .ref qe, .int (nI bl.length)]))], [(h, .inr (6, [.ref a]))], List.map bO bl, List.map (bA Z) bl, arE Z qe ar] [[(a, .inr (0, [.int mc, .ref qe, .int (nI bl.length)]))]] [[(h, .inr (6, [.ref a]))], List.map bO bl, List.map (bA Z) bl, arE Z qe ar] [0, 1, 2, 3, 4] rfl 5 (by decide) rfl rfl rfl rfl).symm)
  refine lv_istore_n (lv' := [(1, .int (nI bl.length)), (0, .ref h)]) hx hb dX5_takeUnwanted_7 rfl hl (by decide) rfl (fun ls hl => ?_)
  refine lv_iload_n hx hb dX5_takeUnwanted_8 rfl (lv_at hl 0 rfl) ?_
  refine lv_iconst (v := 1) hx hb dX5_takeUnwanted_9 (by decide) ?_
  refine lv_isub hx hb dX5_takeUnwanted_10 ?_
  refine k_topi (y := iM bl.length) (by rfl) ?_
  refine lv_istore_n (lv' := [(2, .int (iM bl.length)), (1, .int (nI bl.length)), (0, .ref h)]) hx hb dX5_takeUnwanted_11 rfl hl (by decide) rfl (fun ls hl => ?_)
  have G : wd Z A s ([(h, .inr (6, [.ref a])), (a, .inr (0, [.int mc, .ref qe, .int (nI bl.length)]))] ++ (List.map bO bl ++ (List.map (bA Z) bl ++ arE Z qe ar))) H locs := G.perm (show List.Perm (α := Nat × va_E) ([(a, .inr (0, [.int mc, .ref qe, .int (nI bl.length)])), (h, .inr (6, [.ref a]))] ++ (List.map bO bl ++ (List.map (bA Z) bl ++ arE Z qe ar))) ([(h, .inr (6, [.ref a])), (a, .inr (0, [.int mc, .ref qe, .int (nI bl.length)]))] ++ (List.map bO bl ++ (List.map (bA Z) bl ++ arE Z qe ar))) from List.Perm.swap _ _ _)
  have G : wd Z A s (shW Z h a mc qe ar (tuF bl.length bl)) H locs := by rw [tuF_all]; exact G
  exact lp_X5_takeUnwanted C hok.le (fun r mc2 ar2 hr h9 => ⟨hr, mc2, ar2, h9, rfl⟩) bl.length mc ar (Nat.le_refl _) (by rw [tuF_all]; exact hok) _ _ _ G (lv_sub hl [0, 1, 2] rfl)
set_option maxRecDepth 100000 in
set_option maxHeartbeats 4000000 in
theorem lp_X5_takeBelow {p : Program} {l : Launch} {e : Env} {s : State} {m : MethodId} {args : Array Value} {below : List Frame} {meth : Method} {c : Code} {Z : zT} {A : Nat → Prop} {h a qe t : Nat} {x : Int32} {bl : List blT} {post : Int32 → va_W → Prop} (C : cx p s m args meth c cX5_takeBelow 4 (some .int) RX5 "takeBelow") (hlb : bl.length ≤ 150) (ht : t ≤ bl.length) (hp : ∀ (mc : Int32) (ar : arT), shOk Z qe ar (tbF t 0 bl) → post (nI t) (shW Z h a mc qe ar (tbF t 0 bl))) : ∀ (k : Nat) (mc : Int32) (ar : arT), k ≤ t → shOk Z qe ar (tbF t k bl) → ∀ (H : Heap) (locs : List Loc) (ls : Array Slot), wd Z A s (shW Z h a mc qe ar (tbF t k bl)) H locs → lv_has ls 4 [(3, .int (iM k)), (2, .int (nI t)), (0, .ref h), (1, .int x)] → W p l e ({ frames := 4, cells := 0, slots := 0, locals := 120 }) s m args below meth c H locs 0 0 (MQ below (va_Qi post (mB Z A) A) args s 0 0 A) (F0 m 10 ls []) := by
  have hx := C.1
  have hb := C.2.1
  have hown := C.2.2.2.2.2.1
  have hts := C.2.2.2.2.2.2.1
  intro k
  induction k with
  | zero =>
    intro mc ar hk hok2 H locs ls G hl
    have hR := shR.of hok2
    refine lv_iload_n hx hb dX5_takeBelow_10 rfl (lv_at hl 0 rfl) ?_
    refine lv_if_lt (tgt := 40) hx hb dX5_takeBelow_11 (by decide) (fun c_11 => ?_) (fun c_11 => ?_)
    · refine lv_iload_n hx hb dX5_takeBelow_40 rfl (lv_at hl 1 rfl) ?_
      exact kr_i C G (hp mc ar hok2) (Nat.le_of_ble_eq_true rfl) (Nat.le_of_ble_eq_true rfl) dX5_takeBelow_41
    · exact absurd iM_0 c_11
  | succ k ih =>
    intro mc ar hk hok2 H locs ls G hl
    have hR := shR.of hok2
    refine lv_iload_n hx hb dX5_takeBelow_10 rfl (lv_at hl 0 rfl) ?_
    refine k_topi (y := nI k) (by exact iM_s k) ?_
    refine lv_if_lt (tgt := 40) hx hb dX5_takeBelow_11 (by decide) (fun c_11 => ?_) (fun c_11 => ?_)
    · exact absurd c_11 (nI_pos (by omega))
    · obtain ⟨y, hy⟩ : ∃ y, bl[k]? = some y := ⟨_, List.getElem?_eq_getElem (by omega)⟩
      have hy2 : (tbF t (k + 1) bl)[k]? = some y := tk_get hy
      have hk2 := (List.getElem?_eq_some_iff.mp hy2).1
      have hk3 := tb_len (bl := bl) (t := t) (k := k + 1) hk (by omega)
      refine lv_iload_n hx hb dX5_takeBelow_14 rfl (lv_at hl 0 rfl) ?_
      refine k_topi (y := nI k) (by exact iM_s k) ?_
      refine lv_aload_n hx hb dX5_takeBelow_15 rfl (lv_at hl 2 rfl) ?_
      refine k_get (ci := 6) (CC := RX5) (T := TX5) (N := 1) (v := .ref a) C G 0 rfl rfl in_6 0 (by decide) fl_X5_10 rfl rfl dX5_takeBelow_16 ?_
      have hX : List.Perm (α := Nat × va_E) ([(h, .inr (6, [.ref a])), (a, .inr (0, [.int mc, .ref qe, .int (nI ((tbF t (k + 1) bl).length))]))] ++ (List.map bO (tbF t (k + 1) bl) ++ (List.map (bA Z) (tbF t (k + 1) bl) ++ arE Z qe ar))) (([(a, .inr (0, [.int mc, .ref qe, .int (nI ((tbF t (k + 1) bl).length))]))]) ++ ([(h, .inr (6, [.ref a]))] ++ (List.map bO (tbF t (k + 1) bl) ++ (List.map (bA Z) (tbF t (k + 1) bl) ++ arE Z qe ar)))) := (perm_sg [[(h, .inr (6, [.ref a]))], [(a, .inr (0, [.int mc, .ref qe, .int (nI ((tbF t (k + 1) bl).length))]))], List.map bO (tbF t (k + 1) bl), List.map (bA Z) (tbF t (k + 1) bl), arE Z qe ar] [[(a, .inr (0, [.int mc, .ref qe, .int (nI ((tbF t (k + 1) bl).length))]))]] [[(h, .inr (6, [.ref a]))], List.map bO (tbF t (k + 1) bl), List.map (bA Z) (tbF t (k + 1) bl), arE Z qe ar] [1, 0, 2, 3, 4] rfl 5 (by decide) rfl rfl rfl rfl)
      refine kc_i (Wc := [(a, .inr (0, [.int mc, .ref qe, .int (nI ((tbF t (k + 1) bl).length))]))]) (Wr := [(h, .inr (6, [.ref a]))] ++ (List.map bO (tbF t (k + 1) bl) ++ (List.map (bA Z) (tbF t (k + 1) bl) ++ arE Z qe ar))) G hX (krV 0 rfl (As := []) (rest := [.int (nI k)]) (ci := 0) (CC := RJx4a65c) (T := TJx4a65c) (N := 3) C G hX (c_Jx4a65c_size Z l a qe ((tbF t (k + 1) bl).length) mc _) (gdV ml_X5_16 im_Jx4a65c_size_8abf5 se_Jx4a65c_size_8abf5 ii_Jx4a65c co_Jx4a65c_size_8abf5) (by decide +kernel) ⟨Nat.le_of_ble_eq_true rfl, Nat.le_of_ble_eq_true rfl⟩ rfl 0 rfl hl rfl (Nat.le_of_ble_eq_true rfl) ⟨Nat.le_of_ble_eq_true rfl, Nat.le_of_ble_eq_true rfl⟩ dX5_takeBelow_19) (fun r_19 u H locs hu G => ?_)
      obtain ⟨r_19_e, rfl⟩ := hu
      subst r_19_e
      have G : wd Z A s ([(a, .inr (0, [.int mc, .ref qe, .int (nI ((tbF t (k + 1) bl).length))])), (h, .inr (6, [.ref a]))] ++ (List.map bO (tbF t (k + 1) bl) ++ (List.map (bA Z) (tbF t (k + 1) bl) ++ arE Z qe ar))) H locs := G.perm (show List.Perm (α := Nat × va_E) (([(a, .inr (0, [.int mc, .ref qe, .int (nI ((tbF t (k + 1) bl).length))]))]) ++ ([(h, .inr (6, [.ref a]))] ++ (List.map bO (tbF t (k + 1) bl) ++ (List.map (bA Z) (tbF t (k + 1) bl) ++ arE Z qe ar)))) ([(a, .inr (0, [.int mc, .ref qe, .int (nI ((tbF t (k + 1) bl).length))])), (h, .inr (6, [.ref a]))] ++ (List.map bO (tbF t (k + 1) bl) ++ (List.map (bA Z) (tbF t (k + 1) bl) ++ arE Z qe ar))) from (perm_sg [[(a, .inr (0, [.int mc, .ref qe, .int (nI ((tbF t (k + 1) bl).length))]))], [(h, .inr (6, [.ref a]))], List.map bO (tbF t (k + 1) bl), List.map (bA Z) (tbF t (k + 1) bl), arE Z qe ar] [[(a, .inr (0, [.int mc, .ref qe, .int (nI ((tbF t (k + 1) bl).length))]))]] [[(h, .inr (6, [.ref a]))], List.map bO (tbF t (k + 1) bl), List.map (bA Z) (tbF t (k + 1) bl), arE Z qe ar] [0, 1, 2, 3, 4] rfl 5 (by decide) rfl rfl rfl rfl).symm)
      refine lv_icmp_ge (tgt := 34) hx hb dX5_takeBelow_22 (by decide) (fun c_22 => ?_) (fun c_22 => ?_)
      · exact absurd c_22 (nI_ge hk2 (by omega))
      · refine lv_aload_n hx hb dX5_takeBelow_25 rfl (lv_at hl 2 rfl) ?_
        refine k_get (ci := 6) (CC := RX5) (T := TX5) (N := 1) (v := .ref a) C G 1 rfl rfl in_6 0 (by decide) fl_X5_10 rfl rfl dX5_takeBelow_26 ?_
        refine lv_iload_n hx hb dX5_takeBelow_29 rfl (lv_at hl 0 rfl) ?_
        refine k_topi (y := nI k) (by exact iM_s k) ?_
        have hX : List.Perm (α := Nat × va_E) ([(a, .inr (0, [.int mc, .ref qe, .int (nI ((tbF t (k + 1) bl).length))])), (h, .inr (6, [.ref a]))] ++ (List.map bO (tbF t (k + 1) bl) ++ (List.map (bA Z) (tbF t (k + 1) bl) ++ arE Z qe ar))) (([(a, .inr (0, [.int mc, .ref qe, .int (nI ((tbF t (k + 1) bl).length))]))] ++ (arE Z qe ar ++ List.map bO (tbF t (k + 1) bl))) ++ ([(h, .inr (6, [.ref a]))] ++ List.map (bA Z) (tbF t (k + 1) bl))) := (perm_sg [[(a, .inr (0, [.int mc, .ref qe, .int (nI ((tbF t (k + 1) bl).length))]))], [(h, .inr (6, [.ref a]))], List.map bO (tbF t (k + 1) bl), List.map (bA Z) (tbF t (k + 1) bl), arE Z qe ar] [[(a, .inr (0, [.int mc, .ref qe, .int (nI ((tbF t (k + 1) bl).length))]))], arE Z qe ar, List.map bO (tbF t (k + 1) bl)] [[(h, .inr (6, [.ref a]))], List.map (bA Z) (tbF t (k + 1) bl)] [0, 4, 2, 1, 3] rfl 5 (by decide) rfl rfl rfl rfl)
        refine kc_q (Wc := [(a, .inr (0, [.int mc, .ref qe, .int (nI ((tbF t (k + 1) bl).length))]))] ++ (arE Z qe ar ++ List.map bO (tbF t (k + 1) bl))) (Wr := [(h, .inr (6, [.ref a]))] ++ List.map (bA Z) (tbF t (k + 1) bl)) G hX (krV 1 rfl (As := [.int (nI k)]) (rest := []) (ci := 0) (CC := RJx4a65c) (T := TJx4a65c) (N := 3) C G hX (c_remS Z l a qe (k) mc ar (tbF t (k + 1) bl) (List.map bO (tbF t (k + 1) bl)) y hy2 (fun y hy => List.mem_map.mpr ⟨y, hy, rfl⟩) hok2 _) (gdV ml_X5_53 im_Jx4a65c_remove_915e3 se_Jx4a65c_remove_915e3 ii_Jx4a65c co_Jx4a65c_remove_915e3) (by decide +kernel) ⟨Nat.le_of_ble_eq_true rfl, Nat.le_of_ble_eq_true rfl⟩ rfl 0 rfl hl rfl (Nat.le_of_ble_eq_true rfl) ⟨Nat.le_of_ble_eq_true rfl, Nat.le_of_ble_eq_true rfl⟩ dX5_takeBelow_30) (fun r_30 u H locs hu G => ?_)
        obtain ⟨ar2, hok3, rfl⟩ := hu
        have G : wd Z A s ([(h, .inr (6, [.ref a])), (a, .inr (0, [.int (mc + 1), .ref qe, .int (nI ((tbF t (k + 1) bl).length - 1))]))] ++ (List.map bO (tbF t (k + 1) bl) ++ (List.map (bA Z) (tbF t (k + 1) bl) ++ arE Z qe ar2))) H locs := G.perm (show List.Perm (α := Nat × va_E) (([(a, .inr (0, [.int (mc + 1), .ref qe, .int (nI ((tbF t (k + 1) bl).length - 1))]))] ++ (arE Z qe ar2 ++ List.map bO (tbF t (k + 1) bl))) ++ ([(h, .inr (6, [.ref a]))] ++ List.map (bA Z) (tbF t (k + 1) bl))) ([(h, .inr (6, [.ref a])), (a, .inr (0, [.int (mc + 1), .ref qe, .int (nI ((tbF t (k + 1) bl).length - 1))]))] ++ (List.map bO (tbF t (k + 1) bl) ++ (List.map (bA Z) (tbF t (k + 1) bl) ++ arE Z qe ar2))) from (perm_sg [[(h, .inr (6, [.ref a]))], [(a, .inr (0, [.int (mc + 1), .ref qe, .int (nI ((tbF t (k + 1) bl).length - 1))]))], List.map bO (tbF t (k + 1) bl), List.map (bA Z) (tbF t (k + 1) bl), arE Z qe ar2] [[(a, .inr (0, [.int (mc + 1), .ref qe, .int (nI ((tbF t (k + 1) bl).length - 1))]))], arE Z qe ar2, List.map bO (tbF t (k + 1) bl)] [[(h, .inr (6, [.ref a]))], List.map (bA Z) (tbF t (k + 1) bl)] [1, 4, 2, 0, 3] rfl 5 (by decide) rfl rfl rfl rfl).symm)
        have G := (G.perm (List.Perm.append_left _ (blW_perm (perm_er hy2)))).mid
        rw [← List.length_eraseIdx_of_lt (List.getElem?_eq_some_iff.mp hy2).1, show (tbF t (k + 1) bl).eraseIdx k = tbF t k bl from tk_er hy] at G
        rw [show (tbF t (k + 1) bl).eraseIdx k = tbF t k bl from tk_er hy] at hok3
        refine k_popq hx hb dX5_takeBelow_33 ?_
        refine lv_iinc (v := iM k) (lv' := [(3, .int (iM k)), (2, .int (nI t)), (0, .ref h), (1, .int x)]) hx hb dX5_takeBelow_34 hl (k := 0) rfl (iM_i k) (by decide) rfl (fun ls hl => ?_)
        refine lv_goto (tgt := 10) hx hb dX5_takeBelow_37 (by decide) ?_
        exact ih _ _ (by omega) hok3 _ _ _ G (lv_sub hl [0, 1, 2, 3] rfl)
set_option maxRecDepth 100000 in
set_option maxHeartbeats 4000000 in
theorem c_X5_takeBelow (Z : zT) (l : Launch) (h a qe : Nat) (mc : Int32) (ar : arT) (bl : List blT) (hok : shOk Z qe ar bl) (hso : bSo bl) (x : Int32) : Ki Z l yX5_takeBelow cX5_takeBelow 4 (some .int) ({ frames := 4, cells := 0, slots := 0, locals := 120 }) [.ref h, .int x] (shW Z h a mc qe ar bl) (fun r u => r = nI (bPl bl x) ∧ ∃ mc2 ar2, shOk Z qe ar2 (bl.drop (bPl bl x)) ∧ u = shW Z h a mc2 qe ar2 (bl.drop (bPl bl x))) := by
  intro sz
  refine Met.ofK (cc := cX5_takeBelow) (maxL := 4) (ret := (some .int)) (by decide) (Nat.le_of_ble_eq_true rfl) ?_
  intro p e s m below meth c ls C G hl
  generalize va_A _ sz = A at G ⊢
  have hx := C.1
  have hb := C.2.1
  have hown := C.2.2.2.2.2.1
  have hts := C.2.2.2.2.2.2.1
  refine lv_aload_n hx hb dX5_takeBelow_0 rfl (lv_at hl 0 rfl) ?_
  refine lv_iload_n hx hb dX5_takeBelow_1 rfl (lv_at hl 1 rfl) ?_
  have hX : List.Perm (α := Nat × va_E) ([(h, .inr (6, [.ref a])), (a, .inr (0, [.int mc, .ref qe, .int (nI bl.length)]))] ++ (List.map bO bl ++ (List.map (bA Z) bl ++ arE Z qe ar))) (([(h, .inr (6, [.ref a])), (a, .inr (0, [.int mc, .ref qe, .int (nI bl.length)]))] ++ (List.map bO bl ++ (List.map (bA Z) bl ++ arE Z qe ar))) ++ ([])) := (perm_sg [[(h, .inr (6, [.ref a]))], [(a, .inr (0, [.int mc, .ref qe, .int (nI bl.length)]))], List.map bO bl, List.map (bA Z) bl, arE Z qe ar] [[(h, .inr (6, [.ref a]))], [(a, .inr (0, [.int mc, .ref qe, .int (nI bl.length)]))], List.map bO bl, List.map (bA Z) bl, arE Z qe ar] [] [0, 1, 2, 3, 4] rfl 5 (by decide) rfl rfl rfl rfl)
  refine kc_i (Wc := [(h, .inr (6, [.ref a])), (a, .inr (0, [.int mc, .ref qe, .int (nI bl.length)]))] ++ (List.map bO bl ++ (List.map (bA Z) bl ++ arE Z qe ar))) (Wr := []) G hX (krV 1 rfl (As := [.int x]) (rest := []) (ci := 6) (CC := RX5) (T := TX5) (N := 1) C G hX (c_X5_placeOf Z l h a qe mc bl (List.map bO bl ++ (List.map (bA Z) bl ++ arE Z qe ar)) (shR.of hok) hso x _) (gdV ml_X5_30 im_X5_placeOf se_X5_placeOf ii_X5 co_X5_placeOf) (by decide +kernel) ⟨Nat.le_of_ble_eq_true rfl, Nat.le_of_ble_eq_true rfl⟩ rfl 0 rfl hl rfl (Nat.le_of_ble_eq_true rfl) ⟨Nat.le_of_ble_eq_true rfl, Nat.le_of_ble_eq_true rfl⟩ dX5_takeBelow_2) (fun r_2 u H locs hu G => ?_)
  obtain ⟨r_2_e, rfl⟩ := hu
  subst r_2_e
  have G : wd Z A s ([(h, .inr (6, [.ref a])), (a, .inr (0, [.int mc, .ref qe, .int (nI bl.length)]))] ++ (List.map bO bl ++ (List.map (bA Z) bl ++ arE Z qe ar))) H locs := G.perm (show List.Perm (α := Nat × va_E) (([(h, .inr (6, [.ref a])), (a, .inr (0, [.int mc, .ref qe, .int (nI bl.length)]))] ++ (List.map bO bl ++ (List.map (bA Z) bl ++ arE Z qe ar))) ++ ([])) ([(h, .inr (6, [.ref a])), (a, .inr (0, [.int mc, .ref qe, .int (nI bl.length)]))] ++ (List.map bO bl ++ (List.map (bA Z) bl ++ arE Z qe ar))) from (perm_sg [[(h, .inr (6, [.ref a]))], [(a, .inr (0, [.int mc, .ref qe, .int (nI bl.length)]))], List.map bO bl, List.map (bA Z) bl, arE Z qe ar] [[(h, .inr (6, [.ref a]))], [(a, .inr (0, [.int mc, .ref qe, .int (nI bl.length)]))], List.map bO bl, List.map (bA Z) bl, arE Z qe ar] [] [0, 1, 2, 3, 4] rfl 5 (by decide) rfl rfl rfl rfl).symm)
  refine lv_istore_n (lv' := [(2, .int (nI (bPl bl x))), (0, .ref h), (1, .int x)]) hx hb dX5_takeBelow_5 rfl hl (by decide) rfl (fun ls hl => ?_)
  refine lv_iload_n hx hb dX5_takeBelow_6 rfl (lv_at hl 0 rfl) ?_
  refine lv_iconst (v := 1) hx hb dX5_takeBelow_7 (by decide) ?_
  refine lv_isub hx hb dX5_takeBelow_8 ?_
  refine k_topi (y := iM (bPl bl x)) (by rfl) ?_
  refine lv_istore_n (lv' := [(3, .int (iM (bPl bl x))), (2, .int (nI (bPl bl x))), (0, .ref h), (1, .int x)]) hx hb dX5_takeBelow_9 rfl hl (by decide) rfl (fun ls hl => ?_)
  have e0 : tbF (bPl bl x) (bPl bl x) bl = bl := List.take_append_drop _ _
  have G : wd Z A s (shW Z h a mc qe ar (tbF (bPl bl x) (bPl bl x) bl)) H locs := by rw [e0]; exact G
  exact lp_X5_takeBelow (t := bPl bl x) C hok.le (bPl_le _ _) (fun mc2 ar2 h9 => ⟨rfl, mc2, ar2, h9, rfl⟩) (bPl bl x) mc ar (Nat.le_refl _) (by rw [e0]; exact hok) _ _ _ G (lv_sub hl [0, 1, 2, 3] rfl)
