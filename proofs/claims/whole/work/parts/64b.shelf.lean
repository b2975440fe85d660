/-! MODULE Shelf (X5). -/
set_option maxRecDepth 100000 in
set_option maxHeartbeats 4000000 in
theorem c_X5_init (Z : zT) (l : Launch) (h : Nat) : Kv Z l yX5_init cX5_init 1 none ({ frames := 4, cells := 1, slots := 3, locals := 90 }) [.ref h] [(h, .inr (6, [.null]))] (fun u => ∃ a, u = shW Z h a 0 Z.2.2.2.1 none []) := by
  intro sz
  refine Met.ofK (cc := cX5_init) (maxL := 1) (ret := none) (by decide) (Nat.le_of_ble_eq_true rfl) ?_
  intro p e s m below meth c ls C G hl
  generalize va_A _ sz = A at G ⊢
  have hx := C.1
  have hb := C.2.1
  have hown := C.2.2.2.2.2.1
  have hts := C.2.2.2.2.2.2.1
  refine lv_aload_n hx hb dX5_init_0 rfl (lv_at hl 0 rfl) ?_
  refine k_objInit C hl.1 ml_X5_1 im_Object__init____V co_obj (Nat.le_of_ble_eq_true rfl) (Nat.le_of_ble_eq_true rfl) dX5_init_1 ?_
  refine lv_aload_n hx hb dX5_init_4 rfl (lv_at hl 0 rfl) ?_
  refine k_new (ci := 0) (CC := RJx4a65c) (T := TJx4a65c) (N := 3) (fs := [.int 0, .null, .int 0]) C G rfl in_0 tyJx4a65c tyJx4a65c_ok cl_X5_7 ib_Jx4a65c ii_Jx4a65c (by decide) (Nat.le_of_ble_eq_true rfl) (Nat.le_of_ble_eq_true rfl) dX5_init_5 (fun a H (G : wd Z A s ([(h, .inr (6, [.null])), (a, .inr (0, [.int 0, .null, .int 0]))]) H _) => ?_)
  refine lv_dup hx hb dX5_init_8 rfl ?_
  have hX : List.Perm (α := Nat × va_E) ([(h, .inr (6, [.null])), (a, .inr (0, [.int 0, .null, .int 0]))]) (([(a, .inr (0, [.int 0, .null, .int 0]))]) ++ ([(h, .inr (6, [.null]))])) := (perm_sg [[(h, .inr (6, [.null]))], [(a, .inr (0, [.int 0, .null, .int 0]))]] [[(a, .inr (0, [.int 0, .null, .int 0]))]] [[(h, .inr (6, [.null]))]] [1, 0] rfl 2 (by decide) rfl rfl rfl rfl)
  refine kc_v (Wc := [(a, .inr (0, [.int 0, .null, .int 0]))]) (Wr := [(h, .inr (6, [.null]))]) G hX (krI 0 rfl (As := []) (rest := [.ref a, .ref h]) C G hX (c_Jx4a65c_init Z l a _) (gdP co_Jx4a65c_init_da8c8) ml_X5_9 im_Jx4a65c_init_da8c8 ii_Jx4a65c rfl (by decide +kernel) ⟨Nat.le_of_ble_eq_true rfl, Nat.le_of_ble_eq_true rfl⟩ hl rfl (Nat.le_of_ble_eq_true rfl) ⟨Nat.le_of_ble_eq_true rfl, Nat.le_of_ble_eq_true rfl⟩ dX5_init_9) (fun u H locs hu G => ?_)
  subst hu
  have G : wd Z A s ([(a, .inr (0, [.int 0, .ref Z.2.2.2.1, .int (nI 0)])), (h, .inr (6, [.null]))]) H locs := G.perm (show List.Perm (α := Nat × va_E) (([(a, .inr (0, [.int 0, .ref Z.2.2.2.1, .int (nI 0)]))]) ++ ([(h, .inr (6, [.null]))])) ([(a, .inr (0, [.int 0, .ref Z.2.2.2.1, .int (nI 0)])), (h, .inr (6, [.null]))]) from (perm_sg [[(a, .inr (0, [.int 0, .ref Z.2.2.2.1, .int (nI 0)]))], [(h, .inr (6, [.null]))]] [[(a, .inr (0, [.int 0, .ref Z.2.2.2.1, .int (nI 0)]))]] [[(h, .inr (6, [.null]))]] [0, 1] rfl 2 (by decide) rfl rfl rfl rfl).symm)
  refine k_putF (ci := 6) (CC := RX5) (T := TX5) (N := 1) (ty := .object "java/util/ArrayList") (v := .ref a) C G 1 rfl rfl in_6 tyX5 tyX5_ok nmX5 0 (by decide) fl_X5_10 rfl rfl rfl rfl rfl rfl (Nat.le_of_ble_eq_true rfl) dX5_init_12 (fun H locs (G : wd Z A s ([(a, .inr (0, [.int 0, .ref Z.2.2.2.1, .int (nI 0)])), (h, .inr (6, [.ref a]))]) H locs) => ?_)
  have G : wd Z A s ([(h, .inr (6, [.ref a])), (a, .inr (0, [.int 0, .ref Z.2.2.2.1, .int (nI 0)]))]) H locs := G.perm (perm_ix [1, 0] rfl 2 (by decide) rfl)
  exact kr_v C G ⟨a, rfl⟩ (Nat.le_of_ble_eq_true rfl) (Nat.le_of_ble_eq_true rfl) dX5_init_15
set_option maxRecDepth 100000 in
set_option maxHeartbeats 4000000 in
theorem c_X5_filled (Z : zT) (l : Launch) (h a qe : Nat) (mc : Int32) (bl : List blT) (T : va_W) : Ki Z l yX5_filled cX5_filled 1 (some .int) ({ frames := 1, cells := 0, slots := 0, locals := 20 }) [.ref h] ([shC h a, liC a mc qe bl.length] ++ T) (fun r u => r = nI bl.length ∧ u = ([shC h a, liC a mc qe bl.length] ++ T)) := by
  intro sz
  refine Met.ofK (cc := cX5_filled) (maxL := 1) (ret := (some .int)) (by decide) (Nat.le_of_ble_eq_true rfl) ?_
  intro p e s m below meth c ls C G hl
  generalize va_A _ sz = A at G ⊢
  have hx := C.1
  have hb := C.2.1
  have hown := C.2.2.2.2.2.1
  have hts := C.2.2.2.2.2.2.1
  refine lv_aload_n hx hb dX5_filled_0 rfl (lv_at hl 0 rfl) ?_
  refine k_get (ci := 6) (CC := RX5) (T := TX5) (N := 1) (v := .ref a) C G 0 rfl rfl in_6 0 (by decide) fl_X5_10 rfl rfl dX5_filled_1 ?_
  have hX : List.Perm (α := Nat × va_E) ([(h, .inr (6, [.ref a])), (a, .inr (0, [.int mc, .ref qe, .int (nI bl.length)]))] ++ T) (([(a, .inr (0, [.int mc, .ref qe, .int (nI bl.length)]))]) ++ ([(h, .inr (6, [.ref a]))] ++ T)) := (perm_sg [[(h, .inr (6, [.ref a]))], [(a, .inr (0, [.int mc, .ref qe, .int (nI bl.length)]))], T] [[(a, .inr (0, [.int mc, .ref qe, .int (nI bl.length)]))]] [[(h, .inr (6, [.ref a]))], T] [1, 0, 2] rfl 3 (by decide) rfl rfl rfl rfl)
  refine kc_i (Wc := [(a, .inr (0, [.int mc, .ref qe, .int (nI bl.length)]))]) (Wr := [(h, .inr (6, [.ref a]))] ++ T) G hX (krV 0 rfl (As := []) (rest := []) (ci := 0) (CC := RJx4a65c) (T := TJx4a65c) (N := 3) C G hX (c_Jx4a65c_size Z l a qe bl.length mc _) (gdV ml_X5_16 im_Jx4a65c_size_8abf5 se_Jx4a65c_size_8abf5 ii_Jx4a65c co_Jx4a65c_size_8abf5) (by decide +kernel) ⟨Nat.le_of_ble_eq_true rfl, Nat.le_of_ble_eq_true rfl⟩ rfl 0 rfl hl rfl (Nat.le_of_ble_eq_true rfl) ⟨Nat.le_of_ble_eq_true rfl, Nat.le_of_ble_eq_true rfl⟩ dX5_filled_4) (fun r_4 u H locs hu G => ?_)
  obtain ⟨r_4_e, rfl⟩ := hu
  subst r_4_e
  have G : wd Z A s ([(a, .inr (0, [.int mc, .ref qe, .int (nI bl.length)])), (h, .inr (6, [.ref a]))] ++ T) H locs := G.perm (show List.Perm (α := Nat × va_E) (([(a, .inr (0, [.int mc, .ref qe, .int (nI bl.length)]))]) ++ ([(h, .inr (6, [.ref a]))] ++ T)) ([(a, .inr (0, [.int mc, .ref qe, .int (nI bl.length)])), (h, .inr (6, [.ref a]))] ++ T) from (perm_sg [[(a, .inr (0, [.int mc, .ref qe, .int (nI bl.length)]))], [(h, .inr (6, [.ref a]))], T] [[(a, .inr (0, [.int mc, .ref qe, .int (nI bl.length)]))]] [[(h, .inr (6, [.ref a]))], T] [0, 1, 2] rfl 3 (by decide) rfl rfl rfl rfl).symm)
  have G : wd Z A s ([(h, .inr (6, [.ref a])), (a, .inr (0, [.int mc, .ref qe, .int (nI bl.length)]))] ++ T) H locs := G.perm (show List.Perm (α := Nat × va_E) ([(a, .inr (0, [.int mc, .ref qe, .int (nI bl.length)])), (h, .inr (6, [.ref a]))] ++ T) ([(h, .inr (6, [.ref a])), (a, .inr (0, [.int mc, .ref qe, .int (nI bl.length)]))] ++ T) from List.Perm.swap _ _ _)
  exact kr_i C G ⟨rfl, rfl⟩ (Nat.le_of_ble_eq_true rfl) (Nat.le_of_ble_eq_true rfl) dX5_filled_7
set_option maxRecDepth 100000 in
set_option maxHeartbeats 4000000 in
theorem c_X5_blobAt (Z : zT) (l : Launch) (h a qe : Nat) (mc : Int32) (bl : List blT) (T : va_W) (hR : shR Z T qe bl) (x : Int32) : Kq Z l yX5_blobAt cX5_blobAt 2 (some (.object "LakeTable$Blob")) ({ frames := 3, cells := 0, slots := 0, locals := 90 }) [.ref h, .int x] ([shC h a, liC a mc qe bl.length] ++ T) (fun r u => r = (bAt bl x).map bl_ad ∧ u = ([shC h a, liC a mc qe bl.length] ++ T)) := by
  intro sz
  refine Met.ofK (cc := cX5_blobAt) (maxL := 2) (ret := (some (.object "LakeTable$Blob"))) (by decide) (Nat.le_of_ble_eq_true rfl) ?_
  intro p e s m below meth c ls C G hl
  generalize va_A _ sz = A at G ⊢
  have hx := C.1
  have hb := C.2.1
  have hown := C.2.2.2.2.2.1
  have hts := C.2.2.2.2.2.2.1
  refine lv_iload_n hx hb dX5_blobAt_0 rfl (lv_at hl 1 rfl) ?_
  refine lv_if_lt (tgt := 15) hx hb dX5_blobAt_1 (by decide) (fun c_1 => ?_) (fun c_1 => ?_)
  · refine lv_null hx hb dX5_blobAt_15 ?_
    refine lv_goto (tgt := 30) hx hb dX5_blobAt_16 (by decide) ?_
    exact kr_q (r := none) C G (Or.inl ⟨_, rfl⟩) ⟨by rw [bAt, if_neg (fun z => absurd c_1 (Int32.not_lt.mpr z.1))]; rfl, rfl⟩ (Nat.le_of_ble_eq_true rfl) (Nat.le_of_ble_eq_true rfl) dX5_blobAt_30
  · refine lv_iload_n hx hb dX5_blobAt_4 rfl (lv_at hl 1 rfl) ?_
    refine lv_aload_n hx hb dX5_blobAt_5 rfl (lv_at hl 0 rfl) ?_
    refine k_get (ci := 6) (CC := RX5) (T := TX5) (N := 1) (v := .ref a) C G 0 rfl rfl in_6 0 (by decide) fl_X5_10 rfl rfl dX5_blobAt_6 ?_
    have hX : List.Perm (α := Nat × va_E) ([(h, .inr (6, [.ref a])), (a, .inr (0, [.int mc, .ref qe, .int (nI bl.length)]))] ++ T) (([(a, .inr (0, [.int mc, .ref qe, .int (nI bl.length)]))]) ++ ([(h, .inr (6, [.ref a]))] ++ T)) := (perm_sg [[(h, .inr (6, [.ref a]))], [(a, .inr (0, [.int mc, .ref qe, .int (nI bl.length)]))], T] [[(a, .inr (0, [.int mc, .ref qe, .int (nI bl.length)]))]] [[(h, .inr (6, [.ref a]))], T] [1, 0, 2] rfl 3 (by decide) rfl rfl rfl rfl)
    refine kc_i (Wc := [(a, .inr (0, [.int mc, .ref qe, .int (nI bl.length)]))]) (Wr := [(h, .inr (6, [.ref a]))] ++ T) G hX (krV 0 rfl (As := []) (rest := [.int x]) (ci := 0) (CC := RJx4a65c) (T := TJx4a65c) (N := 3) C G hX (c_Jx4a65c_size Z l a qe bl.length mc _) (gdV ml_X5_16 im_Jx4a65c_size_8abf5 se_Jx4a65c_size_8abf5 ii_Jx4a65c co_Jx4a65c_size_8abf5) (by decide +kernel) ⟨Nat.le_of_ble_eq_true rfl, Nat.le_of_ble_eq_true rfl⟩ rfl 0 rfl hl rfl (Nat.le_of_ble_eq_true rfl) ⟨Nat.le_of_ble_eq_true rfl, Nat.le_of_ble_eq_true rfl⟩ dX5_blobAt_9) (fun r_9 u H locs hu G => ?_)
    obtain ⟨r_9_e, rfl⟩ := hu
    subst r_9_e
    have G : wd Z A s ([(a, .inr (0, [.int mc, .ref qe, .int (nI bl.length)])), (h, .inr (6, [.ref a]))] ++ T) H locs := G.perm (show List.Perm (α := Nat × va_E) (([(a, .inr (0, [.int mc, .ref qe, .int (nI bl.length)]))]) ++ ([(h, .inr (6, [.ref a]))] ++ T)) ([(a, .inr (0, [.int mc, .ref qe, .int (nI bl.length)])), (h, .inr (6, [.ref a]))] ++ T) from (perm_sg [[(a, .inr (0, [.int mc, .ref qe, .int (nI bl.length)]))], [(h, .inr (6, [.ref a]))], T] [[(a, .inr (0, [.int mc, .ref qe, .int (nI bl.length)]))]] [[(h, .inr (6, [.ref a]))], T] [0, 1, 2] rfl 3 (by decide) rfl rfl rfl rfl).symm)
    refine lv_icmp_lt (tgt := 19) hx hb dX5_blobAt_12 (by decide) (fun c_12 => ?_) (fun c_12 => ?_)
    · obtain ⟨j, hj, ej⟩ := nI_of c_1
      have hjn : j < bl.length := by rw [ej] at c_12; exact (nI_ltI hj (by have := hR.1; omega)).mp c_12
      obtain ⟨y, hy⟩ : ∃ y, bl[j]? = some y := ⟨_, List.getElem?_eq_getElem hjn⟩
      obtain ⟨⟨cap, g, hE, hnc, hcap, hgj⟩, hmO, hmA⟩ := hR.2 (j) y hy
      refine lv_aload_n hx hb dX5_blobAt_19 rfl (lv_at hl 0 rfl) ?_
      refine k_get (ci := 6) (CC := RX5) (T := TX5) (N := 1) (v := .ref a) C G 1 rfl rfl in_6 0 (by decide) fl_X5_10 rfl rfl dX5_blobAt_20 ?_
      refine lv_iload_n hx hb dX5_blobAt_23 rfl (lv_at hl 1 rfl) ?_
      refine k_topi (y := nI j) (by exact ej) ?_
      have hX : List.Perm (α := Nat × va_E) ([(a, .inr (0, [.int mc, .ref qe, .int (nI bl.length)])), (h, .inr (6, [.ref a]))] ++ T) (([(a, .inr (0, [.int mc, .ref qe, .int (nI bl.length)]))] ++ T) ++ ([(h, .inr (6, [.ref a]))])) := (perm_sg [[(a, .inr (0, [.int mc, .ref qe, .int (nI bl.length)]))], [(h, .inr (6, [.ref a]))], T] [[(a, .inr (0, [.int mc, .ref qe, .int (nI bl.length)]))], T] [[(h, .inr (6, [.ref a]))]] [0, 2, 1] rfl 3 (by decide) rfl rfl rfl rfl)
      refine kc_q (Wc := [(a, .inr (0, [.int mc, .ref qe, .int (nI bl.length)]))] ++ T) (Wr := [(h, .inr (6, [.ref a]))]) G hX (krV 1 rfl (As := [.int (nI j)]) (rest := []) (ci := 0) (CC := RJx4a65c) (T := TJx4a65c) (N := 3) C G hX (c_Jx4a65c_get Z l a qe bl.length (j) cap mc g T hE (by omega) hnc (by omega) _) (gdV ml_X5_20 im_Jx4a65c_get_915e3 se_Jx4a65c_get_915e3 ii_Jx4a65c co_Jx4a65c_get_915e3) (by decide +kernel) ⟨Nat.le_of_ble_eq_true rfl, Nat.le_of_ble_eq_true rfl⟩ rfl 0 rfl hl rfl (Nat.le_of_ble_eq_true rfl) ⟨Nat.le_of_ble_eq_true rfl, Nat.le_of_ble_eq_true rfl⟩ dX5_blobAt_24) (fun r_24 u H locs hu G => ?_)
      obtain ⟨r_24_e, rfl⟩ := hu
      rw [hgj] at r_24_e
      subst r_24_e
      have G : wd Z A s ([(a, .inr (0, [.int mc, .ref qe, .int (nI bl.length)])), (h, .inr (6, [.ref a]))] ++ T) H locs := G.perm (show List.Perm (α := Nat × va_E) (([(a, .inr (0, [.int mc, .ref qe, .int (nI bl.length)]))] ++ T) ++ ([(h, .inr (6, [.ref a]))])) ([(a, .inr (0, [.int mc, .ref qe, .int (nI bl.length)])), (h, .inr (6, [.ref a]))] ++ T) from (perm_sg [[(a, .inr (0, [.int mc, .ref qe, .int (nI bl.length)]))], [(h, .inr (6, [.ref a]))], T] [[(a, .inr (0, [.int mc, .ref qe, .int (nI bl.length)]))], T] [[(h, .inr (6, [.ref a]))]] [0, 2, 1] rfl 3 (by decide) rfl rfl rfl rfl).symm)
      refine k_topv (y := .ref (bl_ad y)) rfl ?_
      refine k_castBl C G cl_X5_24 (List.mem_append_right _ hmO) dX5_blobAt_27 ?_
      have G : wd Z A s ([(h, .inr (6, [.ref a])), (a, .inr (0, [.int mc, .ref qe, .int (nI bl.length)]))] ++ T) H locs := G.perm (show List.Perm (α := Nat × va_E) ([(a, .inr (0, [.int mc, .ref qe, .int (nI bl.length)])), (h, .inr (6, [.ref a]))] ++ T) ([(h, .inr (6, [.ref a])), (a, .inr (0, [.int mc, .ref qe, .int (nI bl.length)]))] ++ T) from List.Perm.swap _ _ _)
      exact kr_q (r := some (bl_ad y)) C G (Or.inl ⟨_, rfl⟩) ⟨by rw [bAt, if_pos ⟨Int32.not_lt.mp c_1, c_12⟩, ej, nI_clamp (by omega), hy]; rfl, rfl⟩ (Nat.le_of_ble_eq_true rfl) (Nat.le_of_ble_eq_true rfl) dX5_blobAt_30
    · refine lv_null hx hb dX5_blobAt_15 ?_
      refine lv_goto (tgt := 30) hx hb dX5_blobAt_16 (by decide) ?_
      have G : wd Z A s ([(h, .inr (6, [.ref a])), (a, .inr (0, [.int mc, .ref qe, .int (nI bl.length)]))] ++ T) H locs := G.perm (show List.Perm (α := Nat × va_E) ([(a, .inr (0, [.int mc, .ref qe, .int (nI bl.length)])), (h, .inr (6, [.ref a]))] ++ T) ([(h, .inr (6, [.ref a])), (a, .inr (0, [.int mc, .ref qe, .int (nI bl.length)]))] ++ T) from List.Perm.swap _ _ _)
      exact kr_q (r := none) C G (Or.inl ⟨_, rfl⟩) ⟨by rw [bAt, if_neg (fun z => c_12 z.2)]; rfl, rfl⟩ (Nat.le_of_ble_eq_true rfl) (Nat.le_of_ble_eq_true rfl) dX5_blobAt_30
theorem bAt_nI {bl : List blT} {j : Nat} (hj : j < 2 ^ 31) (hl : bl.length < 2 ^ 31) : bAt bl (nI j) = bl[j]? := by
  unfold bAt
  by_cases h : j < bl.length
  · rw [if_pos ⟨nI_pos' hj, nI_lt h hl⟩, nI_clamp hj]
  · rw [if_neg (fun z => h ((nI_ltI hj hl).mp z.2)), List.getElem?_eq_none (by omega)]
set_option maxRecDepth 100000 in
set_option maxHeartbeats 4000000 in
theorem lp_X5_placeOf {p : Program} {l : Launch} {e : Env} {s : State} {m : MethodId} {args : Array Value} {below : List Frame} {meth : Method} {c : Code} {Z : zT} {A : Nat → Prop} {h a qe : Nat} {mc x : Int32} {bl : List blT} {T : va_W} {post : Int32 → va_W → Prop} (C : cx p s m args meth c cX5_placeOf 6 (some .int) RX5 "placeOf") (hR : shR Z T qe bl) (hso : bSo bl) (hp : ∀ r : Int32, r = nI (bPl bl x) → post r ([shC h a, liC a mc qe bl.length] ++ T)) : ∀ (k sp pl : Nat), sp < k → pl + sp ≤ bl.length → (∀ i, i < pl → ((bl.map nF).getD i (0, 0)).1 < x) → (∀ i, pl + sp ≤ i → i < (bl.map nF).length → ¬ ((bl.map nF).getD i (0, 0)).1 < x) → ∀ (H : Heap) (locs : List Loc) (ls : Array Slot), wd Z A s ([shC h a, liC a mc qe bl.length] ++ T) H locs → lv_has ls 6 [(3, .int (nI sp)), (2, .int (nI pl)), (0, .ref h), (1, .int x)] → W p l e ({ frames := 3, cells := 0, slots := 0, locals := 90 }) s m args below meth c H locs 0 0 (MQ below (va_Qi post (mB Z A) A) args s 0 0 A) (F0 m 10 ls []) := by
  have hx := C.1
  have hb := C.2.1
  have hown := C.2.2.2.2.2.1
  have hts := C.2.2.2.2.2.2.1
  have hlb := hR.1
  intro k
  induction k with
  | zero => intro sp pl h0; exact absurd h0 (by omega)
  | succ k ih =>
    intro sp pl h0 hle h1 h2 H locs ls G hl
    refine lv_iload_n hx hb dX5_placeOf_10 rfl (lv_at hl 0 rfl) ?_
    refine lv_if_le (tgt := 79) hx hb dX5_placeOf_11 (by decide) (fun c_11 => ?_) (fun c_11 => ?_)
    · refine lv_iload_n hx hb dX5_placeOf_79 rfl (lv_at hl 1 rfl) ?_
      have hz : sp = 0 := by have := (nI_le0 (by omega)).mp c_11; omega
      have hpl : plc (bl.map nF) x = pl := plc_eq (bl.map nF) x pl (by rw [List.length_map]; omega) h1 (fun q => h2 pl (by omega) q)
      exact kr_i C G (hp _ (by rw [bPl, hpl])) (Nat.le_of_ble_eq_true rfl) (Nat.le_of_ble_eq_true rfl) dX5_placeOf_80
    · have hsp : 0 < sp := Decidable.byContradiction (fun z => c_11 ((nI_le0 (by omega)).mpr z))
      refine lv_iload_n hx hb dX5_placeOf_14 rfl (lv_at hl 0 rfl) ?_
      refine lv_iconst (v := 2) hx hb dX5_placeOf_15 (by decide) ?_
      refine lv_idiv hx hb dX5_placeOf_16 (by decide) ?_
      refine k_topi (y := nI (sp / 2)) (by exact pk_div (d := 2) (by omega) (by omega) (by omega)) ?_
      refine lv_istore (lv' := [(4, .int (nI (sp / 2))), (3, .int (nI sp)), (2, .int (nI pl)), (0, .ref h), (1, .int x)]) hx hb dX5_placeOf_17 hl (by decide) rfl (fun ls hl => ?_)
      refine lv_iload_n hx hb dX5_placeOf_19 rfl (lv_at hl 2 rfl) ?_
      refine lv_iload hx hb dX5_placeOf_20 (lv_at hl 0 rfl) ?_
      refine lv_iadd hx hb dX5_placeOf_22 ?_
      refine k_topi (y := nI (pl + sp / 2)) (by exact nI_add _ _) ?_
      refine lv_istore (lv' := [(5, .int (nI (pl + sp / 2))), (4, .int (nI (sp / 2))), (3, .int (nI sp)), (2, .int (nI pl)), (0, .ref h), (1, .int x)]) hx hb dX5_placeOf_23 hl (by decide) rfl (fun ls hl => ?_)
      refine lv_iload hx hb dX5_placeOf_25 (lv_at hl 0 rfl) ?_
      refine lv_aload_n hx hb dX5_placeOf_27 rfl (lv_at hl 4 rfl) ?_
      refine k_get (ci := 6) (CC := RX5) (T := TX5) (N := 1) (v := .ref a) C G 0 rfl rfl in_6 0 (by decide) fl_X5_10 rfl rfl dX5_placeOf_28 ?_
      have hX : List.Perm (α := Nat × va_E) ([(h, .inr (6, [.ref a])), (a, .inr (0, [.int mc, .ref qe, .int (nI bl.length)]))] ++ T) (([(a, .inr (0, [.int mc, .ref qe, .int (nI bl.length)]))]) ++ ([(h, .inr (6, [.ref a]))] ++ T)) := (perm_sg [[(h, .inr (6, [.ref a]))], [(a, .inr (0, [.int mc, .ref qe, .int (nI bl.length)]))], T] [[(a, .inr (0, [.int mc, .ref qe, .int (nI bl.length)]))]] [[(h, .inr (6, [.ref a]))], T] [1, 0, 2] rfl 3 (by decide) rfl rfl rfl rfl)
      refine kc_i (Wc := [(a, .inr (0, [.int mc, .ref qe, .int (nI bl.length)]))]) (Wr := [(h, .inr (6, [.ref a]))] ++ T) G hX (krV 0 rfl (As := []) (rest := [.int (nI (pl + sp / 2))]) (ci := 0) (CC := RJx4a65c) (T := TJx4a65c) (N := 3) C G hX (c_Jx4a65c_size Z l a qe bl.length mc _) (gdV ml_X5_16 im_Jx4a65c_size_8abf5 se_Jx4a65c_size_8abf5 ii_Jx4a65c co_Jx4a65c_size_8abf5) (by decide +kernel) ⟨Nat.le_of_ble_eq_true rfl, Nat.le_of_ble_eq_true rfl⟩ rfl 0 rfl hl rfl (Nat.le_of_ble_eq_true rfl) ⟨Nat.le_of_ble_eq_true rfl, Nat.le_of_ble_eq_true rfl⟩ dX5_placeOf_31) (fun r_31 u H locs hu G => ?_)
      obtain ⟨r_31_e, rfl⟩ := hu
      subst r_31_e
      have G : wd Z A s ([(a, .inr (0, [.int mc, .ref qe, .int (nI bl.length)])), (h, .inr (6, [.ref a]))] ++ T) H locs := G.perm (show List.Perm (α := Nat × va_E) (([(a, .inr (0, [.int mc, .ref qe, .int (nI bl.length)]))]) ++ ([(h, .inr (6, [.ref a]))] ++ T)) ([(a, .inr (0, [.int mc, .ref qe, .int (nI bl.length)])), (h, .inr (6, [.ref a]))] ++ T) from (perm_sg [[(a, .inr (0, [.int mc, .ref qe, .int (nI bl.length)]))], [(h, .inr (6, [.ref a]))], T] [[(a, .inr (0, [.int mc, .ref qe, .int (nI bl.length)]))]] [[(h, .inr (6, [.ref a]))], T] [0, 1, 2] rfl 3 (by decide) rfl rfl rfl rfl).symm)
      refine lv_icmp_ge (tgt := 73) hx hb dX5_placeOf_34 (by decide) (fun c_34 => ?_) (fun c_34 => ?_)
      · exact absurd c_34 (nI_ge (by omega) (by omega))
      · obtain ⟨y, hy⟩ : ∃ y, bl[pl + sp / 2]? = some y := ⟨_, List.getElem?_eq_getElem (by omega)⟩
        obtain ⟨⟨cap, g, hE, hnc, hcap, hgj⟩, hmO, hmA⟩ := hR.2 (pl + sp / 2) y hy
        refine lv_aload_n hx hb dX5_placeOf_37 rfl (lv_at hl 4 rfl) ?_
        refine k_get (ci := 6) (CC := RX5) (T := TX5) (N := 1) (v := .ref a) C G 1 rfl rfl in_6 0 (by decide) fl_X5_10 rfl rfl dX5_placeOf_38 ?_
        refine lv_iload hx hb dX5_placeOf_41 (lv_at hl 0 rfl) ?_
        have hX : List.Perm (α := Nat × va_E) ([(a, .inr (0, [.int mc, .ref qe, .int (nI bl.length)])), (h, .inr (6, [.ref a]))] ++ T) (([(a, .inr (0, [.int mc, .ref qe, .int (nI bl.length)]))] ++ T) ++ ([(h, .inr (6, [.ref a]))])) := (perm_sg [[(a, .inr (0, [.int mc, .ref qe, .int (nI bl.length)]))], [(h, .inr (6, [.ref a]))], T] [[(a, .inr (0, [.int mc, .ref qe, .int (nI bl.length)]))], T] [[(h, .inr (6, [.ref a]))]] [0, 2, 1] rfl 3 (by decide) rfl rfl rfl rfl)
        refine kc_q (Wc := [(a, .inr (0, [.int mc, .ref qe, .int (nI bl.length)]))] ++ T) (Wr := [(h, .inr (6, [.ref a]))]) G hX (krV 1 rfl (As := [.int (nI (pl + sp / 2))]) (rest := []) (ci := 0) (CC := RJx4a65c) (T := TJx4a65c) (N := 3) C G hX (c_Jx4a65c_get Z l a qe bl.length (pl + sp / 2) cap mc g T hE (by omega) hnc (by omega) _) (gdV ml_X5_20 im_Jx4a65c_get_915e3 se_Jx4a65c_get_915e3 ii_Jx4a65c co_Jx4a65c_get_915e3) (by decide +kernel) ⟨Nat.le_of_ble_eq_true rfl, Nat.le_of_ble_eq_true rfl⟩ rfl 0 rfl hl rfl (Nat.le_of_ble_eq_true rfl) ⟨Nat.le_of_ble_eq_true rfl, Nat.le_of_ble_eq_true rfl⟩ dX5_placeOf_43) (fun r_43 u H locs hu G => ?_)
        obtain ⟨r_43_e, rfl⟩ := hu
        rw [hgj] at r_43_e
        subst r_43_e
        have G : wd Z A s ([(a, .inr (0, [.int mc, .ref qe, .int (nI bl.length)])), (h, .inr (6, [.ref a]))] ++ T) H locs := G.perm (show List.Perm (α := Nat × va_E) (([(a, .inr (0, [.int mc, .ref qe, .int (nI bl.length)]))] ++ T) ++ ([(h, .inr (6, [.ref a]))])) ([(a, .inr (0, [.int mc, .ref qe, .int (nI bl.length)])), (h, .inr (6, [.ref a]))] ++ T) from (perm_sg [[(a, .inr (0, [.int mc, .ref qe, .int (nI bl.length)]))], [(h, .inr (6, [.ref a]))], T] [[(a, .inr (0, [.int mc, .ref qe, .int (nI bl.length)]))], T] [[(h, .inr (6, [.ref a]))]] [0, 2, 1] rfl 3 (by decide) rfl rfl rfl rfl).symm)
        refine k_topv (y := .ref (bl_ad y)) rfl ?_
        refine k_castBl C G cl_X5_24 (List.mem_append_right _ hmO) dX5_placeOf_46 ?_
        refine k_getM (ci := 2) (CC := RX1) (T := TX1) (N := 6) (v := .int (bl_nu y)) C G (List.mem_append_right _ hmO) rfl in_2 0 (by decide) fl_X5_26 rfl rfl dX5_placeOf_49 ?_
        refine lv_iload_n hx hb dX5_placeOf_52 rfl (lv_at hl 5 rfl) ?_
        refine lv_icmp_ge (tgt := 73) hx hb dX5_placeOf_53 (by decide) (fun c_53 => ?_) (fun c_53 => ?_)
        · refine lv_iload hx hb dX5_placeOf_73 (lv_at hl 1 rfl) ?_
          refine lv_istore_n (lv' := [(3, .int (nI (sp / 2))), (5, .int (nI (pl + sp / 2))), (4, .int (nI (sp / 2))), (2, .int (nI pl)), (0, .ref h), (1, .int x)]) hx hb dX5_placeOf_75 rfl hl (by decide) rfl (fun ls hl => ?_)
          refine lv_goto (tgt := 10) hx hb dX5_placeOf_76 (by decide) ?_
          have G : wd Z A s ([(h, .inr (6, [.ref a])), (a, .inr (0, [.int mc, .ref qe, .int (nI bl.length)]))] ++ T) H locs := G.perm (show List.Perm (α := Nat × va_E) ([(a, .inr (0, [.int mc, .ref qe, .int (nI bl.length)])), (h, .inr (6, [.ref a]))] ++ T) ([(h, .inr (6, [.ref a])), (a, .inr (0, [.int mc, .ref qe, .int (nI bl.length)]))] ++ T) from List.Perm.swap _ _ _)
          exact ih (sp / 2) pl (by omega) (by omega) h1 (fun i a b => Int32.not_lt.mpr (by
              rcases Nat.lt_or_ge i (pl + sp) with z | z
              · rcases Nat.lt_or_ge (pl + sp / 2) i with y1 | y1
                · have := fl_mono hso y1 b
                  rw [← bl_getD hy] at c_53
                  exact Int32.le_of_lt (Int32.lt_of_le_of_lt c_53 this)
                · rw [show i = pl + sp / 2 by omega, bl_getD hy]; exact c_53
              · exact Int32.not_lt.mp (h2 i z b))) _ _ _ G (lv_sub hl [0, 3, 4, 5] rfl)
        · refine lv_iload_n hx hb dX5_placeOf_56 rfl (lv_at hl 3 rfl) ?_
          refine lv_iload hx hb dX5_placeOf_57 (lv_at hl 1 rfl) ?_
          refine lv_iconst (v := 1) hx hb dX5_placeOf_59 (by decide) ?_
          refine lv_iadd hx hb dX5_placeOf_60 ?_
          refine lv_iadd hx hb dX5_placeOf_61 ?_
          refine k_topi (y := nI (pl + (sp / 2 + 1))) (by rw [nI_1, nI_add]) ?_
          refine lv_istore_n (lv' := [(2, .int (nI (pl + (sp / 2 + 1)))), (5, .int (nI (pl + sp / 2))), (4, .int (nI (sp / 2))), (3, .int (nI sp)), (0, .ref h), (1, .int x)]) hx hb dX5_placeOf_62 rfl hl (by decide) rfl (fun ls hl => ?_)
          refine lv_iload_n hx hb dX5_placeOf_63 rfl (lv_at hl 3 rfl) ?_
          refine lv_iload hx hb dX5_placeOf_64 (lv_at hl 2 rfl) ?_
          refine lv_iconst (v := 1) hx hb dX5_placeOf_66 (by decide) ?_
          refine lv_iadd hx hb dX5_placeOf_67 ?_
          refine lv_isub hx hb dX5_placeOf_68 ?_
          refine k_topi (y := nI (sp - (sp / 2 + 1))) (by rw [nI_1, pk_sub (by omega)]) ?_
          refine lv_istore_n (lv' := [(3, .int (nI (sp - (sp / 2 + 1)))), (2, .int (nI (pl + (sp / 2 + 1)))), (5, .int (nI (pl + sp / 2))), (4, .int (nI (sp / 2))), (0, .ref h), (1, .int x)]) hx hb dX5_placeOf_69 rfl hl (by decide) rfl (fun ls hl => ?_)
          refine lv_goto (tgt := 76) hx hb dX5_placeOf_70 (by decide) ?_
          refine lv_goto (tgt := 10) hx hb dX5_placeOf_76 (by decide) ?_
          have G : wd Z A s ([(h, .inr (6, [.ref a])), (a, .inr (0, [.int mc, .ref qe, .int (nI bl.length)]))] ++ T) H locs := G.perm (show List.Perm (α := Nat × va_E) ([(a, .inr (0, [.int mc, .ref qe, .int (nI bl.length)])), (h, .inr (6, [.ref a]))] ++ T) ([(h, .inr (6, [.ref a])), (a, .inr (0, [.int mc, .ref qe, .int (nI bl.length)]))] ++ T) from List.Perm.swap _ _ _)
          exact ih (sp - (sp / 2 + 1)) (pl + (sp / 2 + 1)) (by omega) (by omega) (fun i a => by
              have hc : ((bl.map nF).getD (pl + sp / 2) (0, 0)).1 < x := by rw [bl_getD hy]; exact Int32.not_le.mp c_53
              rcases Nat.lt_or_ge i (pl + sp / 2) with y1 | y1
              · exact Int32.lt_trans (fl_mono hso y1 (by rw [List.length_map]; omega)) hc
              · rw [show i = pl + sp / 2 by omega]; exact hc) (fun i a b => h2 i (by omega) b) _ _ _ G (lv_sub hl [0, 1, 4, 5] rfl)
set_option maxRecDepth 100000 in
set_option maxHeartbeats 4000000 in
theorem c_X5_placeOf (Z : zT) (l : Launch) (h a qe : Nat) (mc : Int32) (bl : List blT) (T : va_W) (hR : shR Z T qe bl) (hso : bSo bl) (x : Int32) : Ki Z l yX5_placeOf cX5_placeOf 6 (some .int) ({ frames := 3, cells := 0, slots := 0, locals := 90 }) [.ref h, .int x] ([shC h a, liC a mc qe bl.length] ++ T) (fun r u => r = nI (bPl bl x) ∧ u = ([shC h a, liC a mc qe bl.length] ++ T)) := by
  intro sz
  refine Met.ofK (cc := cX5_placeOf) (maxL := 6) (ret := (some .int)) (by decide) (Nat.le_of_ble_eq_true rfl) ?_
  intro p e s m below meth c ls C G hl
  generalize va_A _ sz = A at G ⊢
  have hx := C.1
  have hb := C.2.1
  have hown := C.2.2.2.2.2.1
  have hts := C.2.2.2.2.2.2.1
  refine lv_iconst (v := 0) hx hb dX5_placeOf_0 (by decide) ?_
  refine lv_istore_n (lv' := [(2, .int 0), (0, .ref h), (1, .int x)]) hx hb dX5_placeOf_1 rfl hl (by decide) rfl (fun ls hl => ?_)
  refine lv_aload_n hx hb dX5_placeOf_2 rfl (lv_at hl 1 rfl) ?_
  refine k_get (ci := 6) (CC := RX5) (T := TX5) (N := 1) (v := .ref a) C G 0 rfl rfl in_6 0 (by decide) fl_X5_10 rfl rfl dX5_placeOf_3 ?_
  have hX : List.Perm (α := Nat × va_E) ([(h, .inr (6, [.ref a])), (a, .inr (0, [.int mc, .ref qe, .int (nI bl.length)]))] ++ T) (([(a, .inr (0, [.int mc, .ref qe, .int (nI bl.length)]))]) ++ ([(h, .inr (6, [.ref a]))] ++ T)) := (perm_sg [[(h, .inr (6, [.ref a]))], [(a, .inr (0, [.int mc, .ref qe, .int (nI bl.length)]))], T] [[(a, .inr (0, [.int mc, .ref qe, .int (nI bl.length)]))]] [[(h, .inr (6, [.ref a]))], T] [1, 0, 2] rfl 3 (by decide) rfl rfl rfl rfl)
  refine kc_i (Wc := [(a, .inr (0, [.int mc, .ref qe, .int (nI bl.length)]))]) (Wr := [(h, .inr (6, [.ref a]))] ++ T) G hX (krV 0 rfl (As := []) (rest := []) (ci := 0) (CC := RJx4a65c) (T := TJx4a65c) (N := 3) C G hX (c_Jx4a65c_size Z l a qe bl.length mc _) (gdV ml_X5_16 im_Jx4a65c_size_8abf5 se_Jx4a65c_size_8abf5 ii_Jx4a65c co_Jx4a65c_size_8abf5) (by decide +kernel) ⟨Nat.le_of_ble_eq_true rfl, Nat.le_of_ble_eq_true rfl⟩ rfl 0 rfl hl rfl (Nat.le_of_ble_eq_true rfl) ⟨Nat.le_of_ble_eq_true rfl, Nat.le_of_ble_eq_true rfl⟩ dX5_placeOf_6) (fun r_6 u H locs hu G => ?_)
  obtain ⟨r_6_e, rfl⟩ := hu
  subst r_6_e
  have G : wd Z A s ([(a, .inr (0, [.int mc, .ref qe, .int (nI bl.length)])), (h, .inr (6, [.ref a]))] ++ T) H locs := G.perm (show List.Perm (α := Nat × va_E) (([(a, .inr (0, [.int mc, .ref qe, .int (nI bl.length)]))]) ++ ([(h, .inr (6, [.ref a]))] ++ T)) ([(a, .inr (0, [.int mc, .ref qe, .int (nI bl.length)])), (h, .inr (6, [.ref a]))] ++ T) from (perm_sg [[(a, .inr (0, [.int mc, .ref qe, .int (nI bl.length)]))], [(h, .inr (6, [.ref a]))], T] [[(a, .inr (0, [.int mc, .ref qe, .int (nI bl.length)]))]] [[(h, .inr (6, [.ref a]))], T] [0, 1, 2] rfl 3 (by decide) rfl rfl rfl rfl).symm)
  refine lv_istore_n (lv' := [(3, .int (nI bl.length)), (2, .int 0), (0, .ref h), (1, .int x)]) hx hb dX5_placeOf_9 rfl hl (by decide) rfl (fun ls hl => ?_)
  have G : wd Z A s ([(h, .inr (6, [.ref a])), (a, .inr (0, [.int mc, .ref qe, .int (nI bl.length)]))] ++ T) H locs := G.perm (show List.Perm (α := Nat × va_E) ([(a, .inr (0, [.int mc, .ref qe, .int (nI bl.length)])), (h, .inr (6, [.ref a]))] ++ T) ([(h, .inr (6, [.ref a])), (a, .inr (0, [.int mc, .ref qe, .int (nI bl.length)]))] ++ T) from List.Perm.swap _ _ _)
  exact lp_X5_placeOf C hR hso (fun r hr => ⟨hr, rfl⟩) (bl.length + 1) bl.length 0 (by omega) (by omega) (fun i a => absurd a (Nat.not_lt_zero i)) (fun i a b => absurd b (by rw [List.length_map]; omega)) _ _ _ G (lv_sub hl [0, 1, 2, 3] rfl)
set_option maxRecDepth 100000 in
set_option maxHeartbeats 4000000 in
theorem c_X5_blobOf (Z : zT) (l : Launch) (h a qe : Nat) (mc : Int32) (bl : List blT) (T : va_W) (hR : shR Z T qe bl) (hso : bSo bl) (x : Int32) : Kq Z l yX5_blobOf cX5_blobOf 3 (some (.object "LakeTable$Blob")) ({ frames := 4, cells := 0, slots := 0, locals := 120 }) [.ref h, .int x] ([shC h a, liC a mc qe bl.length] ++ T) (fun r u => r = (bFd bl x).map bl_ad ∧ u = ([shC h a, liC a mc qe bl.length] ++ T)) := by
  intro sz
  refine Met.ofK (cc := cX5_blobOf) (maxL := 3) (ret := (some (.object "LakeTable$Blob"))) (by decide) (Nat.le_of_ble_eq_true rfl) ?_
  intro p e s m below meth c ls C G hl
  generalize va_A _ sz = A at G ⊢
  have hx := C.1
  have hb := C.2.1
  have hown := C.2.2.2.2.2.1
  have hts := C.2.2.2.2.2.2.1
  refine lv_aload_n hx hb dX5_blobOf_0 rfl (lv_at hl 0 rfl) ?_
  refine lv_aload_n hx hb dX5_blobOf_1 rfl (lv_at hl 0 rfl) ?_
  refine lv_iload_n hx hb dX5_blobOf_2 rfl (lv_at hl 1 rfl) ?_
  have hX : List.Perm (α := Nat × va_E) ([(h, .inr (6, [.ref a])), (a, .inr (0, [.int mc, .ref qe, .int (nI bl.length)]))] ++ T) (([(h, .inr (6, [.ref a])), (a, .inr (0, [.int mc, .ref qe, .int (nI bl.length)]))] ++ T) ++ ([])) := (perm_sg [[(h, .inr (6, [.ref a]))], [(a, .inr (0, [.int mc, .ref qe, .int (nI bl.length)]))], T] [[(h, .inr (6, [.ref a]))], [(a, .inr (0, [.int mc, .ref qe, .int (nI bl.length)]))], T] [] [0, 1, 2] rfl 3 (by decide) rfl rfl rfl rfl)
  refine kc_i (Wc := [(h, .inr (6, [.ref a])), (a, .inr (0, [.int mc, .ref qe, .int (nI bl.length)]))] ++ T) (Wr := []) G hX (krV 1 rfl (As := [.int x]) (rest := [.ref h]) (ci := 6) (CC := RX5) (T := TX5) (N := 1) C G hX (c_X5_placeOf Z l h a qe mc bl T hR hso x _) (gdV ml_X5_30 im_X5_placeOf se_X5_placeOf ii_X5 co_X5_placeOf) (by decide +kernel) ⟨Nat.le_of_ble_eq_true rfl, Nat.le_of_ble_eq_true rfl⟩ rfl 0 rfl hl rfl (Nat.le_of_ble_eq_true rfl) ⟨Nat.le_of_ble_eq_true rfl, Nat.le_of_ble_eq_true rfl⟩ dX5_blobOf_3) (fun r_3 u H locs hu G => ?_)
  obtain ⟨r_3_e, rfl⟩ := hu
  subst r_3_e
  have G : wd Z A s ([(h, .inr (6, [.ref a])), (a, .inr (0, [.int mc, .ref qe, .int (nI bl.length)]))] ++ T) H locs := G.perm (show List.Perm (α := Nat × va_E) (([(h, .inr (6, [.ref a])), (a, .inr (0, [.int mc, .ref qe, .int (nI bl.length)]))] ++ T) ++ ([])) ([(h, .inr (6, [.ref a])), (a, .inr (0, [.int mc, .ref qe, .int (nI bl.length)]))] ++ T) from (perm_sg [[(h, .inr (6, [.ref a]))], [(a, .inr (0, [.int mc, .ref qe, .int (nI bl.length)]))], T] [[(h, .inr (6, [.ref a]))], [(a, .inr (0, [.int mc, .ref qe, .int (nI bl.length)]))], T] [] [0, 1, 2] rfl 3 (by decide) rfl rfl rfl rfl).symm)
  have hX : List.Perm (α := Nat × va_E) ([(h, .inr (6, [.ref a])), (a, .inr (0, [.int mc, .ref qe, .int (nI bl.length)]))] ++ T) (([(h, .inr (6, [.ref a])), (a, .inr (0, [.int mc, .ref qe, .int (nI bl.length)]))] ++ T) ++ ([])) := (perm_sg [[(h, .inr (6, [.ref a]))], [(a, .inr (0, [.int mc, .ref qe, .int (nI bl.length)]))], T] [[(h, .inr (6, [.ref a]))], [(a, .inr (0, [.int mc, .ref qe, .int (nI bl.length)]))], T] [] [0, 1, 2] rfl 3 (by decide) rfl rfl rfl rfl)
  refine kc_q (Wc := [(h, .inr (6, [.ref a])), (a, .inr (0, [.int mc, .ref qe, .int (nI bl.length)]))] ++ T) (Wr := []) G hX (krV 1 rfl (As := [.int (nI (bPl bl x))]) (rest := []) (ci := 6) (CC := RX5) (T := TX5) (N := 1) C G hX (c_X5_blobAt Z l h a qe mc bl T hR (nI (bPl bl x)) _) (gdV ml_X5_34 im_X5_blobAt se_X5_blobAt ii_X5 co_X5_blobAt) (by decide +kernel) ⟨Nat.le_of_ble_eq_true rfl, Nat.le_of_ble_eq_true rfl⟩ rfl 0 rfl hl rfl (Nat.le_of_ble_eq_true rfl) ⟨Nat.le_of_ble_eq_true rfl, Nat.le_of_ble_eq_true rfl⟩ dX5_blobOf_6) (fun r_6 u H locs hu G => ?_)
  obtain ⟨r_6_e, rfl⟩ := hu
  rw [bAt_nI (by have := bPl_le bl x; have := hR.1; omega) (by have := hR.1; omega)] at r_6_e
  have G : wd Z A s ([(h, .inr (6, [.ref a])), (a, .inr (0, [.int mc, .ref qe, .int (nI bl.length)]))] ++ T) H locs := G.perm (show List.Perm (α := Nat × va_E) (([(h, .inr (6, [.ref a])), (a, .inr (0, [.int mc, .ref qe, .int (nI bl.length)]))] ++ T) ++ ([])) ([(h, .inr (6, [.ref a])), (a, .inr (0, [.int mc, .ref qe, .int (nI bl.length)]))] ++ T) from (perm_sg [[(h, .inr (6, [.ref a]))], [(a, .inr (0, [.int mc, .ref qe, .int (nI bl.length)]))], T] [[(h, .inr (6, [.ref a]))], [(a, .inr (0, [.int mc, .ref qe, .int (nI bl.length)]))], T] [] [0, 1, 2] rfl 3 (by decide) rfl rfl rfl rfl).symm)
  cases hy : bl[bPl bl x]? with
  | none =>
    rw [hy] at r_6_e
    subst r_6_e
    refine k_topv (y := .null) rfl ?_
    refine lv_astore_nN (lv' := [(2, .null), (0, .ref h), (1, .int x)]) hx hb dX5_blobOf_9 rfl hl (by decide) rfl (fun ls hl => ?_)
    refine lv_aload_nN hx hb dX5_blobOf_10 rfl (lv_at hl 0 rfl) ?_
    refine lv_ifnullN (tgt := 26) hx hb dX5_blobOf_11 (by decide) ?_
    refine lv_null hx hb dX5_blobOf_26 ?_
    exact kr_q (r := none) C G (Or.inl ⟨_, rfl⟩) ⟨by rw [bFd_none' hy]; rfl, rfl⟩ (Nat.le_of_ble_eq_true rfl) (Nat.le_of_ble_eq_true rfl) dX5_blobOf_27
  | some y =>
    rw [hy] at r_6_e
    subst r_6_e
    refine k_topv (y := .ref (bl_ad y)) rfl ?_
    have hmO := (hR.2 _ y hy).2.1
    refine lv_astore_n (lv' := [(2, .ref (bl_ad y)), (0, .ref h), (1, .int x)]) hx hb dX5_blobOf_9 rfl hl (by decide) rfl (fun ls hl => ?_)
    refine lv_aload_n hx hb dX5_blobOf_10 rfl (lv_at hl 0 rfl) ?_
    refine lv_ifnull hx hb dX5_blobOf_11 ?_
    refine lv_aload_n hx hb dX5_blobOf_14 rfl (lv_at hl 0 rfl) ?_
    refine k_getM (ci := 2) (CC := RX1) (T := TX1) (N := 6) (v := .int (bl_nu y)) C G (List.mem_append_right _ hmO) rfl in_2 0 (by decide) fl_X5_26 rfl rfl dX5_blobOf_15 ?_
    refine lv_iload_n hx hb dX5_blobOf_18 rfl (lv_at hl 2 rfl) ?_
    refine lv_icmp_ne (tgt := 26) hx hb dX5_blobOf_19 (by decide) (fun c_19 => ?_) (fun c_19 => ?_)
    · refine lv_null hx hb dX5_blobOf_26 ?_
      exact kr_q (r := none) C G (Or.inl ⟨_, rfl⟩) ⟨by rw [bFd_none hy c_19]; rfl, rfl⟩ (Nat.le_of_ble_eq_true rfl) (Nat.le_of_ble_eq_true rfl) dX5_blobOf_27
    · refine lv_aload_n hx hb dX5_blobOf_22 rfl (lv_at hl 0 rfl) ?_
      refine lv_goto (tgt := 27) hx hb dX5_blobOf_23 (by decide) ?_
      exact kr_q (r := some (bl_ad y)) C G (Or.inl ⟨_, rfl⟩) ⟨by rw [bFd_some hy c_19]; rfl, rfl⟩ (Nat.le_of_ble_eq_true rfl) (Nat.le_of_ble_eq_true rfl) dX5_blobOf_27
def bSm (bl : List blT) (k : Nat) : Nat := ((bl.take k).map bl_le).sum
theorem bSm_s {bl : List blT} {k : Nat} {y : blT} (h : bl[k]? = some y) : bSm bl (k + 1) = bSm bl k + bl_le y := by
  unfold bSm
  rw [List.take_add_one, h]
  simp
set_option maxRecDepth 100000 in
set_option maxHeartbeats 4000000 in
theorem lp_X5_bytes {p : Program} {l : Launch} {e : Env} {s : State} {m : MethodId} {args : Array Value} {below : List Frame} {meth : Method} {c : Code} {Z : zT} {A : Nat → Prop} {h a qe : Nat} {mc : Int32} {bl : List blT} {T : va_W} {post : Int32 → va_W → Prop} (C : cx p s m args meth c cX5_bytes 3 (some .int) RX5 "bytes") (hR : shR Z T qe bl) (hp : ∀ r : Int32, r = nI ((bl.map bl_le).sum) → post r ([shC h a, liC a mc qe bl.length] ++ T)) : ∀ (n k : Nat), k + n = bl.length → ∀ (H : Heap) (locs : List Loc) (ls : Array Slot), wd Z A s ([shC h a, liC a mc qe bl.length] ++ T) H locs → lv_has ls 3 [(2, .int (nI k)), (1, .int (nI (bSm bl k))), (0, .ref h)] → W p l e ({ frames := 3, cells := 0, slots := 0, locals := 90 }) s m args below meth c H locs 0 0 (MQ below (va_Qi post (mB Z A) A) args s 0 0 A) (F0 m 4 ls []) := by
  have hx := C.1
  have hb := C.2.1
  have hown := C.2.2.2.2.2.1
  have hts := C.2.2.2.2.2.2.1
  have hlb := hR.1
  intro n
  induction n with
  | zero =>
    intro k hk H locs ls G hl
    refine lv_iload_n hx hb dX5_bytes_4 rfl (lv_at hl 0 rfl) ?_
    refine lv_aload_n hx hb dX5_bytes_5 rfl (lv_at hl 2 rfl) ?_
    refine k_get (ci := 6) (CC := RX5) (T := TX5) (N := 1) (v := .ref a) C G 0 rfl rfl in_6 0 (by decide) fl_X5_10 rfl rfl dX5_bytes_6 ?_
    have hX : List.Perm (α := Nat × va_E) ([(h, .inr (6, [.ref a])), (a, .inr (0, [.int mc, .ref qe, .int (nI bl.length)]))] ++ T) (([(a, .inr (0, [.int mc, .ref qe, .int (nI bl.length)]))]) ++ ([(h, .inr (6, [.ref a]))] ++ T)) := (perm_sg [[(h, .inr (6, [.ref a]))], [(a, .inr (0, [.int mc, .ref qe, .int (nI bl.length)]))], T] [[(a, .inr (0, [.int mc, .ref qe, .int (nI bl.length)]))]] [[(h, .inr (6, [.ref a]))], T] [1, 0, 2] rfl 3 (by decide) rfl rfl rfl rfl)
    refine kc_i (Wc := [(a, .inr (0, [.int mc, .ref qe, .int (nI bl.length)]))]) (Wr := [(h, .inr (6, [.ref a]))] ++ T) G hX (krV 0 rfl (As := []) (rest := [.int (nI k)]) (ci := 0) (CC := RJx4a65c) (T := TJx4a65c) (N := 3) C G hX (c_Jx4a65c_size Z l a qe bl.length mc _) (gdV ml_X5_16 im_Jx4a65c_size_8abf5 se_Jx4a65c_size_8abf5 ii_Jx4a65c co_Jx4a65c_size_8abf5) (by decide +kernel) ⟨Nat.le_of_ble_eq_true rfl, Nat.le_of_ble_eq_true rfl⟩ rfl 0 rfl hl rfl (Nat.le_of_ble_eq_true rfl) ⟨Nat.le_of_ble_eq_true rfl, Nat.le_of_ble_eq_true rfl⟩ dX5_bytes_9) (fun r_9 u H locs hu G => ?_)
    obtain ⟨r_9_e, rfl⟩ := hu
    subst r_9_e
    have G : wd Z A s ([(a, .inr (0, [.int mc, .ref qe, .int (nI bl.length)])), (h, .inr (6, [.ref a]))] ++ T) H locs := G.perm (show List.Perm (α := Nat × va_E) (([(a, .inr (0, [.int mc, .ref qe, .int (nI bl.length)]))]) ++ ([(h, .inr (6, [.ref a]))] ++ T)) ([(a, .inr (0, [.int mc, .ref qe, .int (nI bl.length)])), (h, .inr (6, [.ref a]))] ++ T) from (perm_sg [[(a, .inr (0, [.int mc, .ref qe, .int (nI bl.length)]))], [(h, .inr (6, [.ref a]))], T] [[(a, .inr (0, [.int mc, .ref qe, .int (nI bl.length)]))]] [[(h, .inr (6, [.ref a]))], T] [0, 1, 2] rfl 3 (by decide) rfl rfl rfl rfl).symm)
    refine lv_icmp_ge (tgt := 39) hx hb dX5_bytes_12 (by decide) (fun c_12 => ?_) (fun c_12 => ?_)
    · refine lv_iload_n hx hb dX5_bytes_39 rfl (lv_at hl 1 rfl) ?_
      have G : wd Z A s ([(h, .inr (6, [.ref a])), (a, .inr (0, [.int mc, .ref qe, .int (nI bl.length)]))] ++ T) H locs := G.perm (show List.Perm (α := Nat × va_E) ([(a, .inr (0, [.int mc, .ref qe, .int (nI bl.length)])), (h, .inr (6, [.ref a]))] ++ T) ([(h, .inr (6, [.ref a])), (a, .inr (0, [.int mc, .ref qe, .int (nI bl.length)]))] ++ T) from List.Perm.swap _ _ _)
      exact kr_i C G (hp _ (by rw [show k = bl.length by omega, bSm, List.take_length])) (Nat.le_of_ble_eq_true rfl) (Nat.le_of_ble_eq_true rfl) dX5_bytes_40
    · exact absurd (nI_le (by omega) (by omega)) c_12
  | succ n ih =>
    intro k hk H locs ls G hl
    refine lv_iload_n hx hb dX5_bytes_4 rfl (lv_at hl 0 rfl) ?_
    refine lv_aload_n hx hb dX5_bytes_5 rfl (lv_at hl 2 rfl) ?_
    refine k_get (ci := 6) (CC := RX5) (T := TX5) (N := 1) (v := .ref a) C G 0 rfl rfl in_6 0 (by decide) fl_X5_10 rfl rfl dX5_bytes_6 ?_
    have hX : List.Perm (α := Nat × va_E) ([(h, .inr (6, [.ref a])), (a, .inr (0, [.int mc, .ref qe, .int (nI bl.length)]))] ++ T) (([(a, .inr (0, [.int mc, .ref qe, .int (nI bl.length)]))]) ++ ([(h, .inr (6, [.ref a]))] ++ T)) := (perm_sg [[(h, .inr (6, [.ref a]))], [(a, .inr (0, [.int mc, .ref qe, .int (nI bl.length)]))], T] [[(a, .inr (0, [.int mc, .ref qe, .int (nI bl.length)]))]] [[(h, .inr (6, [.ref a]))], T] [1, 0, 2] rfl 3 (by decide) rfl rfl rfl rfl)
    refine kc_i (Wc := [(a, .inr (0, [.int mc, .ref qe, .int (nI bl.length)]))]) (Wr := [(h, .inr (6, [.ref a]))] ++ T) G hX (krV 0 rfl (As := []) (rest := [.int (nI k)]) (ci := 0) (CC := RJx4a65c) (T := TJx4a65c) (N := 3) C G hX (c_Jx4a65c_size Z l a qe bl.length mc _) (gdV ml_X5_16 im_Jx4a65c_size_8abf5 se_Jx4a65c_size_8abf5 ii_Jx4a65c co_Jx4a65c_size_8abf5) (by decide +kernel) ⟨Nat.le_of_ble_eq_true rfl, Nat.le_of_ble_eq_true rfl⟩ rfl 0 rfl hl rfl (Nat.le_of_ble_eq_true rfl) ⟨Nat.le_of_ble_eq_true rfl, Nat.le_of_ble_eq_true rfl⟩ dX5_bytes_9) (fun r_9 u H locs hu G => ?_)
    obtain ⟨r_9_e, rfl⟩ := hu
    subst r_9_e
    have G : wd Z A s ([(a, .inr (0, [.int mc, .ref qe, .int (nI bl.length)])), (h, .inr (6, [.ref a]))] ++ T) H locs := G.perm (show List.Perm (α := Nat × va_E) (([(a, .inr (0, [.int mc, .ref qe, .int (nI bl.length)]))]) ++ ([(h, .inr (6, [.ref a]))] ++ T)) ([(a, .inr (0, [.int mc, .ref qe, .int (nI bl.length)])), (h, .inr (6, [.ref a]))] ++ T) from (perm_sg [[(a, .inr (0, [.int mc, .ref qe, .int (nI bl.length)]))], [(h, .inr (6, [.ref a]))], T] [[(a, .inr (0, [.int mc, .ref qe, .int (nI bl.length)]))]] [[(h, .inr (6, [.ref a]))], T] [0, 1, 2] rfl 3 (by decide) rfl rfl rfl rfl).symm)
    refine lv_icmp_ge (tgt := 39) hx hb dX5_bytes_12 (by decide) (fun c_12 => ?_) (fun c_12 => ?_)
    · exact absurd c_12 (nI_ge (by omega) (by omega))
    · obtain ⟨y, hy⟩ : ∃ y, bl[k]? = some y := ⟨_, List.getElem?_eq_getElem (by omega)⟩
      obtain ⟨⟨cap, g, hE, hnc, hcap, hgj⟩, hmO, hmA⟩ := hR.2 (k) y hy
      refine lv_iload_n hx hb dX5_bytes_15 rfl (lv_at hl 1 rfl) ?_
      refine lv_aload_n hx hb dX5_bytes_16 rfl (lv_at hl 2 rfl) ?_
      refine k_get (ci := 6) (CC := RX5) (T := TX5) (N := 1) (v := .ref a) C G 1 rfl rfl in_6 0 (by decide) fl_X5_10 rfl rfl dX5_bytes_17 ?_
      refine lv_iload_n hx hb dX5_bytes_20 rfl (lv_at hl 0 rfl) ?_
      have hX : List.Perm (α := Nat × va_E) ([(a, .inr (0, [.int mc, .ref qe, .int (nI bl.length)])), (h, .inr (6, [.ref a]))] ++ T) (([(a, .inr (0, [.int mc, .ref qe, .int (nI bl.length)]))] ++ T) ++ ([(h, .inr (6, [.ref a]))])) := (perm_sg [[(a, .inr (0, [.int mc, .ref qe, .int (nI bl.length)]))], [(h, .inr (6, [.ref a]))], T] [[(a, .inr (0, [.int mc, .ref qe, .int (nI bl.length)]))], T] [[(h, .inr (6, [.ref a]))]] [0, 2, 1] rfl 3 (by decide) rfl rfl rfl rfl)
      refine kc_q (Wc := [(a, .inr (0, [.int mc, .ref qe, .int (nI bl.length)]))] ++ T) (Wr := [(h, .inr (6, [.ref a]))]) G hX (krV 1 rfl (As := [.int (nI k)]) (rest := [.int (nI (bSm bl k))]) (ci := 0) (CC := RJx4a65c) (T := TJx4a65c) (N := 3) C G hX (c_Jx4a65c_get Z l a qe bl.length (k) cap mc g T hE (by omega) hnc (by omega) _) (gdV ml_X5_20 im_Jx4a65c_get_915e3 se_Jx4a65c_get_915e3 ii_Jx4a65c co_Jx4a65c_get_915e3) (by decide +kernel) ⟨Nat.le_of_ble_eq_true rfl, Nat.le_of_ble_eq_true rfl⟩ rfl 0 rfl hl rfl (Nat.le_of_ble_eq_true rfl) ⟨Nat.le_of_ble_eq_true rfl, Nat.le_of_ble_eq_true rfl⟩ dX5_bytes_21) (fun r_21 u H locs hu G => ?_)
      obtain ⟨r_21_e, rfl⟩ := hu
      rw [hgj] at r_21_e
      subst r_21_e
      have G : wd Z A s ([(a, .inr (0, [.int mc, .ref qe, .int (nI bl.length)])), (h, .inr (6, [.ref a]))] ++ T) H locs := G.perm (show List.Perm (α := Nat × va_E) (([(a, .inr (0, [.int mc, .ref qe, .int (nI bl.length)]))] ++ T) ++ ([(h, .inr (6, [.ref a]))])) ([(a, .inr (0, [.int mc, .ref qe, .int (nI bl.length)])), (h, .inr (6, [.ref a]))] ++ T) from (perm_sg [[(a, .inr (0, [.int mc, .ref qe, .int (nI bl.length)]))], [(h, .inr (6, [.ref a]))], T] [[(a, .inr (0, [.int mc, .ref qe, .int (nI bl.length)]))], T] [[(h, .inr (6, [.ref a]))]] [0, 2, 1] rfl 3 (by decide) rfl rfl rfl rfl).symm)
      refine k_topv (y := .ref (bl_ad y)) rfl ?_
      refine k_castBl C G cl_X5_24 (List.mem_append_right _ hmO) dX5_bytes_24 ?_
      refine k_getM (ci := 2) (CC := RX1) (T := TX1) (N := 6) (v := .ref (bl_qa y)) C G (List.mem_append_right _ hmO) rfl in_2 1 (by decide) fl_X5_42 rfl rfl dX5_bytes_27 ?_
      refine k_alenM C G 0 (List.mem_append_right _ hmA) rfl dX5_bytes_30 ?_
      refine lv_iadd hx hb dX5_bytes_31 ?_
      refine k_topi (y := nI (bSm bl (k + 1))) (by rw [bSm_s hy, nI_add]) ?_
      refine lv_istore_n (lv' := [(1, .int (nI (bSm bl (k + 1)))), (2, .int (nI k)), (0, .ref h)]) hx hb dX5_bytes_32 rfl hl (by decide) rfl (fun ls hl => ?_)
      refine lv_iinc (v := nI (k + 1)) (lv' := [(2, .int (nI (k + 1))), (1, .int (nI (bSm bl (k + 1)))), (0, .ref h)]) hx hb dX5_bytes_33 hl (k := 1) rfl (nI_1 _) (by decide) rfl (fun ls hl => ?_)
      refine lv_goto (tgt := 4) hx hb dX5_bytes_36 (by decide) ?_
      have G : wd Z A s ([(h, .inr (6, [.ref a])), (a, .inr (0, [.int mc, .ref qe, .int (nI bl.length)]))] ++ T) H locs := G.perm (show List.Perm (α := Nat × va_E) ([(a, .inr (0, [.int mc, .ref qe, .int (nI bl.length)])), (h, .inr (6, [.ref a]))] ++ T) ([(h, .inr (6, [.ref a])), (a, .inr (0, [.int mc, .ref qe, .int (nI bl.length)]))] ++ T) from List.Perm.swap _ _ _)
      exact ih (k + 1) (by omega) _ _ _ G (lv_sub hl [0, 1, 2] rfl)
set_option maxRecDepth 100000 in
set_option maxHeartbeats 4000000 in
theorem c_X5_bytes (Z : zT) (l : Launch) (h a qe : Nat) (mc : Int32) (bl : List blT) (T : va_W) (hR : shR Z T qe bl) : Ki Z l yX5_bytes cX5_bytes 3 (some .int) ({ frames := 3, cells := 0, slots := 0, locals := 90 }) [.ref h] ([shC h a, liC a mc qe bl.length] ++ T) (fun r u => r = nI ((bl.map bl_le).sum) ∧ u = ([shC h a, liC a mc qe bl.length] ++ T)) := by
  intro sz
  refine Met.ofK (cc := cX5_bytes) (maxL := 3) (ret := (some .int)) (by decide) (Nat.le_of_ble_eq_true rfl) ?_
  intro p e s m below meth c ls C G hl
  generalize va_A _ sz = A at G ⊢
  have hx := C.1
  have hb := C.2.1
  have hown := C.2.2.2.2.2.1
  have hts := C.2.2.2.2.2.2.1
  refine lv_iconst (v := 0) hx hb dX5_bytes_0 (by decide) ?_
  refine k_topi (y := nI (bSm bl 0)) (by rfl) ?_
  refine lv_istore_n (lv' := [(1, .int (nI (bSm bl 0))), (0, .ref h)]) hx hb dX5_bytes_1 rfl hl (by decide) rfl (fun ls hl => ?_)
  refine lv_iconst (v := 0) hx hb dX5_bytes_2 (by decide) ?_
  refine k_topi (y := nI 0) (by rfl) ?_
  refine lv_istore_n (lv' := [(2, .int (nI 0)), (1, .int (nI (bSm bl 0))), (0, .ref h)]) hx hb dX5_bytes_3 rfl hl (by decide) rfl (fun ls hl => ?_)
  exact lp_X5_bytes C hR (fun r hr => ⟨hr, rfl⟩) bl.length 0 (by omega) _ _ _ G (lv_sub hl [0, 1, 2] rfl)
