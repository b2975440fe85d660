/-! MODULE Store (X8), fourth part: soundBlob, soundCheckpointUpTo, batchOf. -/
set_option maxRecDepth 100000 in
set_option maxHeartbeats 4000000 in
theorem c_soundBlob1 (Z : zT) (l : Launch) (sa dh eh kh : Nat) (ro : Int32) (sr ag : Nat) (ea eq : Nat) (em : Int32) (er : arT) (el : List blT) (hok : shOk Z eq er el) (hso : bSo el) (hall : ∀ y ∈ el, okB enQ y) (x : Int32) : Kq Z l yX8_soundBlob cX8_soundBlob 4 (some (.object "LakeTable$Blob")) ({ frames := 6, cells := 0, slots := 0, locals := 190 }) [.ref sa, .int 1, .int x] ([stC sa dh eh kh ro sr ag] ++ shW Z eh ea em eq er el) (fun r u => ∃ l2, l2.map vE = el.map vE ∧ (∀ y ∈ l2, okB enQ y) ∧ r = (oQ enQ (bFd el x)).map bl_ad ∧ u = [stC sa dh eh kh ro sr ag] ++ shW Z eh ea em eq er l2) := by
  intro sz
  refine Met.ofK (cc := cX8_soundBlob) (maxL := 4) (ret := (some (.object "LakeTable$Blob"))) (by decide) (Nat.le_of_ble_eq_true rfl) ?_
  intro p e s m below meth c ls C G hl
  generalize va_A _ sz = A at G ⊢
  have hx := C.1
  have hb := C.2.1
  have hown := C.2.2.2.2.2.1
  have hts := C.2.2.2.2.2.2.1
  have G : wd Z A s ([(sa, .inr (9, [.ref dh, .ref eh, .ref kh, .int ro, .ref sr, .ref ag])), (eh, .inr (6, [.ref ea])), (ea, .inr (0, [.int em, .ref eq, .int (nI el.length)]))] ++ (List.map bO el ++ (List.map (bA Z) el ++ arE Z eq er))) s.heap [] := G
  refine lv_aload_n hx hb dX8_soundBlob_0 rfl (lv_at hl 0 rfl) ?_
  refine lv_iload_n hx hb dX8_soundBlob_1 rfl (lv_at hl 1 rfl) ?_
  refine lv_iload_n hx hb dX8_soundBlob_2 rfl (lv_at hl 2 rfl) ?_
  have hX : List.Perm (α := Nat × va_E) ([(sa, .inr (9, [.ref dh, .ref eh, .ref kh, .int ro, .ref sr, .ref ag])), (eh, .inr (6, [.ref ea])), (ea, .inr (0, [.int em, .ref eq, .int (nI el.length)]))] ++ (List.map bO el ++ (List.map (bA Z) el ++ arE Z eq er))) (([(sa, .inr (9, [.ref dh, .ref eh, .ref kh, .int ro, .ref sr, .ref ag])), (eh, .inr (6, [.ref ea])), (ea, .inr (0, [.int em, .ref eq, .int (nI el.length)]))] ++ (List.map bO el ++ (List.map (bA Z) el ++ arE Z eq er))) ++ ([])) := (perm_sg [[(sa, .inr (9, [.ref dh, .ref eh, .ref kh, .int ro, .ref sr, .ref ag]))], [(eh, .inr (6, [.ref ea]))], [(ea, .inr (0, [.int em, .ref eq, .int (nI el.length)]))], List.map bO el, List.map (bA Z) el, arE Z eq er] [[(sa, .inr (9, [.ref dh, .ref eh, .ref kh, .int ro, .ref sr, .ref ag]))], [(eh, .inr (6, [.ref ea]))], [(ea, .inr (0, [.int em, .ref eq, .int (nI el.length)]))], List.map bO el, List.map (bA Z) el, arE Z eq er] [] [0, 1, 2, 3, 4, 5] rfl 6 (by decide) rfl rfl rfl rfl)
  refine kc_q (Wc := [(sa, .inr (9, [.ref dh, .ref eh, .ref kh, .int ro, .ref sr, .ref ag])), (eh, .inr (6, [.ref ea])), (ea, .inr (0, [.int em, .ref eq, .int (nI el.length)]))] ++ (List.map bO el ++ (List.map (bA Z) el ++ arE Z eq er))) (Wr := []) G hX (krV 2 rfl (As := [.int 1, .int x]) (rest := []) (ci := 9) (CC := RX8) (T := TX8) (N := 6) C G hX (c_blobOf1 Z l sa dh eh kh ro sr ag ea eq em el (List.map bO el ++ (List.map (bA Z) el ++ arE Z eq er)) (shR.of hok) hso x _) (gdV ml_X8_72 im_X8_blobOf se_X8_blobOf ii_X8 co_X8_blobOf) (by decide +kernel) ⟨Nat.le_of_ble_eq_true rfl, Nat.le_of_ble_eq_true rfl⟩ rfl 0 rfl hl rfl (Nat.le_of_ble_eq_true rfl) ⟨Nat.le_of_ble_eq_true rfl, Nat.le_of_ble_eq_true rfl⟩ dX8_soundBlob_3) (fun r_3 u H locs hu G => ?_)
  obtain ⟨r_3_e, rfl⟩ := hu
  have G : wd Z A s ([(sa, .inr (9, [.ref dh, .ref eh, .ref kh, .int ro, .ref sr, .ref ag])), (eh, .inr (6, [.ref ea])), (ea, .inr (0, [.int em, .ref eq, .int (nI el.length)]))] ++ (List.map bO el ++ (List.map (bA Z) el ++ arE Z eq er))) H locs := G.perm (show List.Perm (α := Nat × va_E) (([(sa, .inr (9, [.ref dh, .ref eh, .ref kh, .int ro, .ref sr, .ref ag])), (eh, .inr (6, [.ref ea])), (ea, .inr (0, [.int em, .ref eq, .int (nI el.length)]))] ++ (List.map bO el ++ (List.map (bA Z) el ++ arE Z eq er))) ++ ([])) ([(sa, .inr (9, [.ref dh, .ref eh, .ref kh, .int ro, .ref sr, .ref ag])), (eh, .inr (6, [.ref ea])), (ea, .inr (0, [.int em, .ref eq, .int (nI el.length)]))] ++ (List.map bO el ++ (List.map (bA Z) el ++ arE Z eq er))) from (perm_sg [[(sa, .inr (9, [.ref dh, .ref eh, .ref kh, .int ro, .ref sr, .ref ag]))], [(eh, .inr (6, [.ref ea]))], [(ea, .inr (0, [.int em, .ref eq, .int (nI el.length)]))], List.map bO el, List.map (bA Z) el, arE Z eq er] [[(sa, .inr (9, [.ref dh, .ref eh, .ref kh, .int ro, .ref sr, .ref ag]))], [(eh, .inr (6, [.ref ea]))], [(ea, .inr (0, [.int em, .ref eq, .int (nI el.length)]))], List.map bO el, List.map (bA Z) el, arE Z eq er] [] [0, 1, 2, 3, 4, 5] rfl 6 (by decide) rfl rfl rfl rfl).symm)
  cases hy : bFd el x with
  | none =>
    rw [hy] at r_3_e
    subst r_3_e
    refine k_topv (y := .null) rfl ?_
    refine lv_astore_nN (lv' := [(3, .null), (0, .ref sa), (1, .int 1), (2, .int x)]) hx hb dX8_soundBlob_6 rfl hl (by decide) rfl (fun ls hl => ?_)
    refine lv_aload_nN hx hb dX8_soundBlob_7 rfl (lv_at hl 0 rfl) ?_
    refine lv_ifnullN (tgt := 24) hx hb dX8_soundBlob_8 (by decide) ?_
    refine lv_null hx hb dX8_soundBlob_24 ?_
    exact kr_q (r := none) C G (Or.inl ⟨_, rfl⟩) ⟨el, rfl, hall, rfl, rfl⟩ (Nat.le_of_ble_eq_true rfl) (Nat.le_of_ble_eq_true rfl) dX8_soundBlob_25
  | some y =>
    rw [hy] at r_3_e
    subst r_3_e
    refine k_topv (y := .ref (bl_ad y)) rfl ?_
    have hgy := (bFd_get hy).1
    have hyk := hall y (List.mem_of_getElem? hgy)
    refine lv_astore_n (lv' := [(3, .ref (bl_ad y)), (0, .ref sa), (1, .int 1), (2, .int x)]) hx hb dX8_soundBlob_6 rfl hl (by decide) rfl (fun ls hl => ?_)
    refine lv_aload_n hx hb dX8_soundBlob_7 rfl (lv_at hl 0 rfl) ?_
    refine lv_ifnull hx hb dX8_soundBlob_8 ?_
    refine lv_aload_n hx hb dX8_soundBlob_11 rfl (lv_at hl 1 rfl) ?_
    refine lv_iload_n hx hb dX8_soundBlob_12 rfl (lv_at hl 2 rfl) ?_
    refine lv_aload_n hx hb dX8_soundBlob_13 rfl (lv_at hl 0 rfl) ?_
    have hX : List.Perm (α := Nat × va_E) ([(sa, .inr (9, [.ref dh, .ref eh, .ref kh, .int ro, .ref sr, .ref ag])), (eh, .inr (6, [.ref ea])), (ea, .inr (0, [.int em, .ref eq, .int (nI el.length)]))] ++ (List.map bO el ++ (List.map (bA Z) el ++ arE Z eq er))) (([(sa, .inr (9, [.ref dh, .ref eh, .ref kh, .int ro, .ref sr, .ref ag])), (eh, .inr (6, [.ref ea])), (ea, .inr (0, [.int em, .ref eq, .int (nI el.length)]))] ++ (List.map bO el ++ (List.map (bA Z) el ++ arE Z eq er))) ++ ([])) := (perm_sg [[(sa, .inr (9, [.ref dh, .ref eh, .ref kh, .int ro, .ref sr, .ref ag]))], [(eh, .inr (6, [.ref ea]))], [(ea, .inr (0, [.int em, .ref eq, .int (nI el.length)]))], List.map bO el, List.map (bA Z) el, arE Z eq er] [[(sa, .inr (9, [.ref dh, .ref eh, .ref kh, .int ro, .ref sr, .ref ag]))], [(eh, .inr (6, [.ref ea]))], [(ea, .inr (0, [.int em, .ref eq, .int (nI el.length)]))], List.map bO el, List.map (bA Z) el, arE Z eq er] [] [0, 1, 2, 3, 4, 5] rfl 6 (by decide) rfl rfl rfl rfl)
    refine kc_i (Wc := [(sa, .inr (9, [.ref dh, .ref eh, .ref kh, .int ro, .ref sr, .ref ag])), (eh, .inr (6, [.ref ea])), (ea, .inr (0, [.int em, .ref eq, .int (nI el.length)]))] ++ (List.map bO el ++ (List.map (bA Z) el ++ arE Z eq er))) (Wr := []) G hX (krV 2 rfl (As := [.int 1, .ref (bl_ad y)]) (rest := []) (ci := 9) (CC := RX8) (T := TX8) (N := 6) C G hX (c_lookE Z l sa dh eh kh ro sr ag eh ea eq em er el (bPl el x) y hgy hyk _) (gdV ml_X8_75 im_X8_isSound se_X8_isSound ii_X8 co_X8_isSound) (by decide +kernel) ⟨Nat.le_of_ble_eq_true rfl, Nat.le_of_ble_eq_true rfl⟩ rfl 0 rfl hl rfl (Nat.le_of_ble_eq_true rfl) ⟨Nat.le_of_ble_eq_true rfl, Nat.le_of_ble_eq_true rfl⟩ dX8_soundBlob_14) (fun r_14 u H locs hu G => ?_)
    obtain ⟨r_14_e, rfl⟩ := hu
    subst r_14_e
    have G : wd Z A s ([(sa, .inr (9, [.ref dh, .ref eh, .ref kh, .int ro, .ref sr, .ref ag])), (eh, .inr (6, [.ref ea])), (ea, .inr (0, [.int em, .ref eq, .int (nI ((el.set (bPl el x) (bl_es 1 (pI (enQ y)) y)).length))]))] ++ (List.map bO (el.set (bPl el x) (bl_es 1 (pI (enQ y)) y)) ++ (List.map (bA Z) (el.set (bPl el x) (bl_es 1 (pI (enQ y)) y)) ++ arE Z eq er))) H locs := G.perm (show List.Perm (α := Nat × va_E) (([(sa, .inr (9, [.ref dh, .ref eh, .ref kh, .int ro, .ref sr, .ref ag])), (eh, .inr (6, [.ref ea])), (ea, .inr (0, [.int em, .ref eq, .int (nI ((el.set (bPl el x) (bl_es 1 (pI (enQ y)) y)).length))]))] ++ (List.map bO (el.set (bPl el x) (bl_es 1 (pI (enQ y)) y)) ++ (List.map (bA Z) (el.set (bPl el x) (bl_es 1 (pI (enQ y)) y)) ++ arE Z eq er))) ++ ([])) ([(sa, .inr (9, [.ref dh, .ref eh, .ref kh, .int ro, .ref sr, .ref ag])), (eh, .inr (6, [.ref ea])), (ea, .inr (0, [.int em, .ref eq, .int (nI ((el.set (bPl el x) (bl_es 1 (pI (enQ y)) y)).length))]))] ++ (List.map bO (el.set (bPl el x) (bl_es 1 (pI (enQ y)) y)) ++ (List.map (bA Z) (el.set (bPl el x) (bl_es 1 (pI (enQ y)) y)) ++ arE Z eq er))) from (perm_sg [[(sa, .inr (9, [.ref dh, .ref eh, .ref kh, .int ro, .ref sr, .ref ag]))], [(eh, .inr (6, [.ref ea]))], [(ea, .inr (0, [.int em, .ref eq, .int (nI ((el.set (bPl el x) (bl_es 1 (pI (enQ y)) y)).length))]))], List.map bO (el.set (bPl el x) (bl_es 1 (pI (enQ y)) y)), List.map (bA Z) (el.set (bPl el x) (bl_es 1 (pI (enQ y)) y)), arE Z eq er] [[(sa, .inr (9, [.ref dh, .ref eh, .ref kh, .int ro, .ref sr, .ref ag]))], [(eh, .inr (6, [.ref ea]))], [(ea, .inr (0, [.int em, .ref eq, .int (nI ((el.set (bPl el x) (bl_es 1 (pI (enQ y)) y)).length))]))], List.map bO (el.set (bPl el x) (bl_es 1 (pI (enQ y)) y)), List.map (bA Z) (el.set (bPl el x) (bl_es 1 (pI (enQ y)) y)), arE Z eq er] [] [0, 1, 2, 3, 4, 5] rfl 6 (by decide) rfl rfl rfl rfl).symm)
    refine lv_if_eq (tgt := 24) hx hb dX8_soundBlob_17 (by decide) (fun c_17 => ?_) (fun c_17 => ?_)
    · refine lv_null hx hb dX8_soundBlob_24 ?_
      exact kr_q (r := none) C G (Or.inl ⟨_, rfl⟩) ⟨el.set (bPl el x) (bl_es 1 (pI (enQ y)) y), set_map vE hgy rfl, set_all hall ⟨Or.inr ⟨rfl, rfl⟩, hyk.2⟩, by rw [oQ_neg (pI_0 c_17)]; rfl, rfl⟩ (Nat.le_of_ble_eq_true rfl) (Nat.le_of_ble_eq_true rfl) dX8_soundBlob_25
    · refine lv_aload_n hx hb dX8_soundBlob_20 rfl (lv_at hl 0 rfl) ?_
      refine lv_goto (tgt := 25) hx hb dX8_soundBlob_21 (by decide) ?_
      exact kr_q (r := some (bl_ad y)) C G (Or.inl ⟨_, rfl⟩) ⟨el.set (bPl el x) (bl_es 1 (pI (enQ y)) y), set_map vE hgy rfl, set_all hall ⟨Or.inr ⟨rfl, rfl⟩, hyk.2⟩, by rw [oQ_pos (pI_1 c_17)]; rfl, rfl⟩ (Nat.le_of_ble_eq_true rfl) (Nat.le_of_ble_eq_true rfl) dX8_soundBlob_25
set_option maxRecDepth 100000 in
set_option maxHeartbeats 4000000 in
theorem c_soundBlob2 (Z : zT) (l : Launch) (sa dh eh kh : Nat) (ro : Int32) (sr ag : Nat) (ka kq : Nat) (km : Int32) (kr : arT) (kl : List blT) (hok : shOk Z kq kr kl) (hso : bSo kl) (hall : ∀ y ∈ kl, okB ckQ y) (x : Int32) : Kq Z l yX8_soundBlob cX8_soundBlob 4 (some (.object "LakeTable$Blob")) ({ frames := 6, cells := 0, slots := 0, locals := 190 }) [.ref sa, .int 2, .int x] ([stC sa dh eh kh ro sr ag] ++ shW Z kh ka km kq kr kl) (fun r u => ∃ l2, l2.map vE = kl.map vE ∧ (∀ y ∈ l2, okB ckQ y) ∧ r = (oQ ckQ (bFd kl x)).map bl_ad ∧ u = [stC sa dh eh kh ro sr ag] ++ shW Z kh ka km kq kr l2) := by
  intro sz
  refine Met.ofK (cc := cX8_soundBlob) (maxL := 4) (ret := (some (.object "LakeTable$Blob"))) (by decide) (Nat.le_of_ble_eq_true rfl) ?_
  intro p e s m below meth c ls C G hl
  generalize va_A _ sz = A at G ⊢
  have hx := C.1
  have hb := C.2.1
  have hown := C.2.2.2.2.2.1
  have hts := C.2.2.2.2.2.2.1
  have G : wd Z A s ([(sa, .inr (9, [.ref dh, .ref eh, .ref kh, .int ro, .ref sr, .ref ag])), (kh, .inr (6, [.ref ka])), (ka, .inr (0, [.int km, .ref kq, .int (nI kl.length)]))] ++ (List.map bO kl ++ (List.map (bA Z) kl ++ arE Z kq kr))) s.heap [] := G
  refine lv_aload_n hx hb dX8_soundBlob_0 rfl (lv_at hl 0 rfl) ?_
  refine lv_iload_n hx hb dX8_soundBlob_1 rfl (lv_at hl 1 rfl) ?_
  refine lv_iload_n hx hb dX8_soundBlob_2 rfl (lv_at hl 2 rfl) ?_
  have hX : List.Perm (α := Nat × va_E) ([(sa, .inr (9, [.ref dh, .ref eh, .ref kh, .int ro, .ref sr, .ref ag])), (kh, .inr (6, [.ref ka])), (ka, .inr (0, [.int km, .ref kq, .int (nI kl.length)]))] ++ (List.map bO kl ++ (List.map (bA Z) kl ++ arE Z kq kr))) (([(sa, .inr (9, [.ref dh, .ref eh, .ref kh, .int ro, .ref sr, .ref ag])), (kh, .inr (6, [.ref ka])), (ka, .inr (0, [.int km, .ref kq, .int (nI kl.length)]))] ++ (List.map bO kl ++ (List.map (bA Z) kl ++ arE Z kq kr))) ++ ([])) := (perm_sg [[(sa, .inr (9, [.ref dh, .ref eh, .ref kh, .int ro, .ref sr, .ref ag]))], [(kh, .inr (6, [.ref ka]))], [(ka, .inr (0, [.int km, .ref kq, .int (nI kl.length)]))], List.map bO kl, List.map (bA Z) kl, arE Z kq kr] [[(sa, .inr (9, [.ref dh, .ref eh, .ref kh, .int ro, .ref sr, .ref ag]))], [(kh, .inr (6, [.ref ka]))], [(ka, .inr (0, [.int km, .ref kq, .int (nI kl.length)]))], List.map bO kl, List.map (bA Z) kl, arE Z kq kr] [] [0, 1, 2, 3, 4, 5] rfl 6 (by decide) rfl rfl rfl rfl)
  refine kc_q (Wc := [(sa, .inr (9, [.ref dh, .ref eh, .ref kh, .int ro, .ref sr, .ref ag])), (kh, .inr (6, [.ref ka])), (ka, .inr (0, [.int km, .ref kq, .int (nI kl.length)]))] ++ (List.map bO kl ++ (List.map (bA Z) kl ++ arE Z kq kr))) (Wr := []) G hX (krV 2 rfl (As := [.int 2, .int x]) (rest := []) (ci := 9) (CC := RX8) (T := TX8) (N := 6) C G hX (c_blobOf2 Z l sa dh eh kh ro sr ag ka kq km kl (List.map bO kl ++ (List.map (bA Z) kl ++ arE Z kq kr)) (shR.of hok) hso x _) (gdV ml_X8_72 im_X8_blobOf se_X8_blobOf ii_X8 co_X8_blobOf) (by decide +kernel) ⟨Nat.le_of_ble_eq_true rfl, Nat.le_of_ble_eq_true rfl⟩ rfl 0 rfl hl rfl (Nat.le_of_ble_eq_true rfl) ⟨Nat.le_of_ble_eq_true rfl, Nat.le_of_ble_eq_true rfl⟩ dX8_soundBlob_3) (fun r_3 u H locs hu G => ?_)
  obtain ⟨r_3_e, rfl⟩ := hu
  have G : wd Z A s ([(sa, .inr (9, [.ref dh, .ref eh, .ref kh, .int ro, .ref sr, .ref ag])), (kh, .inr (6, [.ref ka])), (ka, .inr (0, [.int km, .ref kq, .int (nI kl.length)]))] ++ (List.map bO kl ++ (List.map (bA Z) kl ++ arE Z kq kr))) H locs := G.perm (show List.Perm (α := Nat × va_E) (([(sa, .inr (9, [.ref dh, .ref eh, .ref kh, .int ro, .ref sr, .ref ag])), (kh, .inr (6, [.ref ka])), (ka, .inr (0, [.int km, .ref kq, .int (nI kl.length)]))] ++ (List.map bO kl ++ (List.map (bA Z) kl ++ arE Z kq kr))) ++ ([])) ([(sa, .inr (9, [.ref dh, .ref eh, .ref kh, .int ro, .ref sr, .ref ag])), (kh, .inr (6, [.ref ka])), (ka, .inr (0, [.int km, .ref kq, .int (nI kl.length)]))] ++ (List.map bO kl ++ (List.map (bA Z) kl ++ arE Z kq kr))) from (perm_sg [[(sa, .inr (9, [.ref dh, .ref eh, .ref kh, .int ro, .ref sr, .ref ag]))], [(kh, .inr (6, [.ref ka]))], [(ka, .inr (0, [.int km, .ref kq, .int (nI kl.length)]))], List.map bO kl, List.map (bA Z) kl, arE Z kq kr] [[(sa, .inr (9, [.ref dh, .ref eh, .ref kh, .int ro, .ref sr, .ref ag]))], [(kh, .inr (6, [.ref ka]))], [(ka, .inr (0, [.int km, .ref kq, .int (nI kl.length)]))], List.map bO kl, List.map (bA Z) kl, arE Z kq kr] [] [0, 1, 2, 3, 4, 5] rfl 6 (by decide) rfl rfl rfl rfl).symm)
  cases hy : bFd kl x with
  | none =>
    rw [hy] at r_3_e
    subst r_3_e
    refine k_topv (y := .null) rfl ?_
    refine lv_astore_nN (lv' := [(3, .null), (0, .ref sa), (1, .int 2), (2, .int x)]) hx hb dX8_soundBlob_6 rfl hl (by decide) rfl (fun ls hl => ?_)
    refine lv_aload_nN hx hb dX8_soundBlob_7 rfl (lv_at hl 0 rfl) ?_
    refine lv_ifnullN (tgt := 24) hx hb dX8_soundBlob_8 (by decide) ?_
    refine lv_null hx hb dX8_soundBlob_24 ?_
    exact kr_q (r := none) C G (Or.inl ⟨_, rfl⟩) ⟨kl, rfl, hall, rfl, rfl⟩ (Nat.le_of_ble_eq_true rfl) (Nat.le_of_ble_eq_true rfl) dX8_soundBlob_25
  | some y =>
    rw [hy] at r_3_e
    subst r_3_e
    refine k_topv (y := .ref (bl_ad y)) rfl ?_
    have hgy := (bFd_get hy).1
    have hyk := hall y (List.mem_of_getElem? hgy)
    refine lv_astore_n (lv' := [(3, .ref (bl_ad y)), (0, .ref sa), (1, .int 2), (2, .int x)]) hx hb dX8_soundBlob_6 rfl hl (by decide) rfl (fun ls hl => ?_)
    refine lv_aload_n hx hb dX8_soundBlob_7 rfl (lv_at hl 0 rfl) ?_
    refine lv_ifnull hx hb dX8_soundBlob_8 ?_
    refine lv_aload_n hx hb dX8_soundBlob_11 rfl (lv_at hl 1 rfl) ?_
    refine lv_iload_n hx hb dX8_soundBlob_12 rfl (lv_at hl 2 rfl) ?_
    refine lv_aload_n hx hb dX8_soundBlob_13 rfl (lv_at hl 0 rfl) ?_
    have hX : List.Perm (α := Nat × va_E) ([(sa, .inr (9, [.ref dh, .ref eh, .ref kh, .int ro, .ref sr, .ref ag])), (kh, .inr (6, [.ref ka])), (ka, .inr (0, [.int km, .ref kq, .int (nI kl.length)]))] ++ (List.map bO kl ++ (List.map (bA Z) kl ++ arE Z kq kr))) (([(sa, .inr (9, [.ref dh, .ref eh, .ref kh, .int ro, .ref sr, .ref ag])), (kh, .inr (6, [.ref ka])), (ka, .inr (0, [.int km, .ref kq, .int (nI kl.length)]))] ++ (List.map bO kl ++ (List.map (bA Z) kl ++ arE Z kq kr))) ++ ([])) := (perm_sg [[(sa, .inr (9, [.ref dh, .ref eh, .ref kh, .int ro, .ref sr, .ref ag]))], [(kh, .inr (6, [.ref ka]))], [(ka, .inr (0, [.int km, .ref kq, .int (nI kl.length)]))], List.map bO kl, List.map (bA Z) kl, arE Z kq kr] [[(sa, .inr (9, [.ref dh, .ref eh, .ref kh, .int ro, .ref sr, .ref ag]))], [(kh, .inr (6, [.ref ka]))], [(ka, .inr (0, [.int km, .ref kq, .int (nI kl.length)]))], List.map bO kl, List.map (bA Z) kl, arE Z kq kr] [] [0, 1, 2, 3, 4, 5] rfl 6 (by decide) rfl rfl rfl rfl)
    refine kc_i (Wc := [(sa, .inr (9, [.ref dh, .ref eh, .ref kh, .int ro, .ref sr, .ref ag])), (kh, .inr (6, [.ref ka])), (ka, .inr (0, [.int km, .ref kq, .int (nI kl.length)]))] ++ (List.map bO kl ++ (List.map (bA Z) kl ++ arE Z kq kr))) (Wr := []) G hX (krV 2 rfl (As := [.int 2, .ref (bl_ad y)]) (rest := []) (ci := 9) (CC := RX8) (T := TX8) (N := 6) C G hX (c_lookK Z l sa dh eh kh ro sr ag kh ka kq km kr kl (bPl kl x) y hgy hyk _) (gdV ml_X8_75 im_X8_isSound se_X8_isSound ii_X8 co_X8_isSound) (by decide +kernel) ⟨Nat.le_of_ble_eq_true rfl, Nat.le_of_ble_eq_true rfl⟩ rfl 0 rfl hl rfl (Nat.le_of_ble_eq_true rfl) ⟨Nat.le_of_ble_eq_true rfl, Nat.le_of_ble_eq_true rfl⟩ dX8_soundBlob_14) (fun r_14 u H locs hu G => ?_)
    obtain ⟨r_14_e, rfl⟩ := hu
    subst r_14_e
    have G : wd Z A s ([(sa, .inr (9, [.ref dh, .ref eh, .ref kh, .int ro, .ref sr, .ref ag])), (kh, .inr (6, [.ref ka])), (ka, .inr (0, [.int km, .ref kq, .int (nI ((kl.set (bPl kl x) (bl_es 1 (pI (ckQ y)) y)).length))]))] ++ (List.map bO (kl.set (bPl kl x) (bl_es 1 (pI (ckQ y)) y)) ++ (List.map (bA Z) (kl.set (bPl kl x) (bl_es 1 (pI (ckQ y)) y)) ++ arE Z kq kr))) H locs := G.perm (show List.Perm (α := Nat × va_E) (([(sa, .inr (9, [.ref dh, .ref eh, .ref kh, .int ro, .ref sr, .ref ag])), (kh, .inr (6, [.ref ka])), (ka, .inr (0, [.int km, .ref kq, .int (nI ((kl.set (bPl kl x) (bl_es 1 (pI (ckQ y)) y)).length))]))] ++ (List.map bO (kl.set (bPl kl x) (bl_es 1 (pI (ckQ y)) y)) ++ (List.map (bA Z) (kl.set (bPl kl x) (bl_es 1 (pI (ckQ y)) y)) ++ arE Z kq kr))) ++ ([])) ([(sa, .inr (9, [.ref dh, .ref eh, .ref kh, .int ro, .ref sr, .ref ag])), (kh, .inr (6, [.ref ka])), (ka, .inr (0, [.int km, .ref kq, .int (nI ((kl.set (bPl kl x) (bl_es 1 (pI (ckQ y)) y)).length))]))] ++ (List.map bO (kl.set (bPl kl x) (bl_es 1 (pI (ckQ y)) y)) ++ (List.map (bA Z) (kl.set (bPl kl x) (bl_es 1 (pI (ckQ y)) y)) ++ arE Z kq kr))) from (perm_sg [[(sa, .inr (9, [.ref dh, .ref eh, .ref kh, .int ro, .ref sr, .ref ag]))], [(kh, .inr (6, [.ref ka]))], [(ka, .inr (0, [.int km, .ref kq, .int (nI ((kl.set (bPl kl x) (bl_es 1 (pI (ckQ y)) y)).length))]))], List.map bO (kl.set (bPl kl x) (bl_es 1 (pI (ckQ y)) y)), List.map (bA Z) (kl.set (bPl kl x) (bl_es 1 (pI (ckQ y)) y)), arE Z kq kr] [[(sa, .inr (9, [.ref dh, .ref eh, .ref kh, .int ro, .ref sr, .ref ag]))], [(kh, .inr (6, [.ref ka]))], [(ka, .inr (0, [.int km, .ref kq, .int (nI ((kl.set (bPl kl x) (bl_es 1 (pI (ckQ y)) y)).length))]))], List.map bO (kl.set (bPl kl x) (bl_es 1 (pI (ckQ y)) y)), List.map (bA Z) (kl.set (bPl kl x) (bl_es 1 (pI (ckQ y)) y)), arE Z kq kr] [] [0, 1, 2, 3, 4, 5] rfl 6 (by decide) rfl rfl rfl rfl).symm)
    refine lv_if_eq (tgt := 24) hx hb dX8_soundBlob_17 (by decide) (fun c_17 => ?_) (fun c_17 => ?_)
    · refine lv_null hx hb dX8_soundBlob_24 ?_
      exact kr_q (r := none) C G (Or.inl ⟨_, rfl⟩) ⟨kl.set (bPl kl x) (bl_es 1 (pI (ckQ y)) y), set_map vE hgy rfl, set_all hall ⟨Or.inr ⟨rfl, rfl⟩, hyk.2⟩, by rw [oQ_neg (pI_0 c_17)]; rfl, rfl⟩ (Nat.le_of_ble_eq_true rfl) (Nat.le_of_ble_eq_true rfl) dX8_soundBlob_25
    · refine lv_aload_n hx hb dX8_soundBlob_20 rfl (lv_at hl 0 rfl) ?_
      refine lv_goto (tgt := 25) hx hb dX8_soundBlob_21 (by decide) ?_
      exact kr_q (r := some (bl_ad y)) C G (Or.inl ⟨_, rfl⟩) ⟨kl.set (bPl kl x) (bl_es 1 (pI (ckQ y)) y), set_map vE hgy rfl, set_all hall ⟨Or.inr ⟨rfl, rfl⟩, hyk.2⟩, by rw [oQ_pos (pI_1 c_17)]; rfl, rfl⟩ (Nat.le_of_ble_eq_true rfl) (Nat.le_of_ble_eq_true rfl) dX8_soundBlob_25
set_option maxRecDepth 100000 in
set_option maxHeartbeats 4000000 in
theorem lp_X8_ckUp {p : Program} {l : Launch} {e : Env} {s : State} {m : MethodId} {args : Array Value} {below : List Frame} {meth : Method} {c : Code} {Z : zT} {A : Nat → Prop} {sa dh eh kh sr ag ka kq : Nat} {ro km : Int32} {kr : arT} {kl : List blT} {post : Option Nat → va_W → Prop} (C : cx p s m args meth c cX8_soundCheckpointUpTo 6 (some (.object "LakeTable$Blob")) RX8 "soundCheckpointUpTo") (hok : shOk Z kq kr kl) : ∀ (k : Nat) (l2 : List blT), k ≤ kl.length → l2.map vE = kl.map vE → (∀ y ∈ l2, okB ckQ y) → (∀ (r : Option Nat) (l2 : List blT), r = (ckU ckQ kl k).map bl_ad → l2.map vE = kl.map vE → (∀ y ∈ l2, okB ckQ y) → post r ([stC sa dh eh kh ro sr ag] ++ shW Z kh ka km kq kr l2)) → ∀ (H : Heap) (locs : List Loc) (ls : Array Slot), wd Z A s ([stC sa dh eh kh ro sr ag] ++ shW Z kh ka km kq kr l2) H locs → lv_has ls 6 [(5, .int (iM k)), (0, .ref sa)] → W p l e ({ frames := 4, cells := 0, slots := 0, locals := 120 }) s m args below meth c H locs 0 0 (MQ below (va_Qq post (mB Z A) A) args s 0 0 A) (F0 m 43 ls []) := by
  have hx := C.1
  have hb := C.2.1
  have hown := C.2.2.2.2.2.1
  have hts := C.2.2.2.2.2.2.1
  intro k
  induction k with
  | zero =>
    intro l2 hk hv hall hp H locs ls G hl
    have hlen := map_len hv
    have hlb := hok.le
    have G : wd Z A s ([(sa, .inr (9, [.ref dh, .ref eh, .ref kh, .int ro, .ref sr, .ref ag])), (kh, .inr (6, [.ref ka])), (ka, .inr (0, [.int km, .ref kq, .int (nI l2.length)]))] ++ (List.map bO l2 ++ (List.map (bA Z) l2 ++ arE Z kq kr))) H locs := G
    refine lv_iload hx hb dX8_soundCheckpointUpTo_43 (lv_at hl 0 rfl) ?_
    refine lv_if_lt (tgt := 79) hx hb dX8_soundCheckpointUpTo_45 (by decide) (fun c_45 => ?_) (fun c_45 => ?_)
    · refine lv_null hx hb dX8_soundCheckpointUpTo_79 ?_
      exact kr_q (r := none) C G (Or.inl ⟨_, rfl⟩) (hp none l2 rfl hv hall) (Nat.le_of_ble_eq_true rfl) (Nat.le_of_ble_eq_true rfl) dX8_soundCheckpointUpTo_80
    · exact absurd iM_0 c_45
  | succ k ih =>
    intro l2 hk hv hall hp H locs ls G hl
    have hlen := map_len hv
    have hlb := hok.le
    have G : wd Z A s ([(sa, .inr (9, [.ref dh, .ref eh, .ref kh, .int ro, .ref sr, .ref ag])), (kh, .inr (6, [.ref ka])), (ka, .inr (0, [.int km, .ref kq, .int (nI l2.length)]))] ++ (List.map bO l2 ++ (List.map (bA Z) l2 ++ arE Z kq kr))) H locs := G
    refine lv_iload hx hb dX8_soundCheckpointUpTo_43 (lv_at hl 0 rfl) ?_
    refine k_topi (y := nI k) (by exact iM_s k) ?_
    refine lv_if_lt (tgt := 79) hx hb dX8_soundCheckpointUpTo_45 (by decide) (fun c_45 => ?_) (fun c_45 => ?_)
    · exact absurd c_45 (nI_pos (by omega))
    · obtain ⟨z, hz⟩ : ∃ z, l2[k]? = some z := ⟨_, List.getElem?_eq_getElem (by omega)⟩
      obtain ⟨y, hyk⟩ : ∃ y, kl[k]? = some y := ⟨_, List.getElem?_eq_getElem (by omega)⟩
      have hzk := hall z (List.mem_of_getElem? hz)
      have hzv : vE z = vE y := by
        have e := congrArg (fun L => L[k]?) hv
        simp only [List.getElem?_map, hz, hyk, Option.map_some, Option.some.injEq] at e
        exact e
      have hza : bl_ad z = bl_ad y := congrArg (fun v => v.1) hzv
      have hzq : ckQ z ↔ ckQ y := by
        have e1 : bl_fn z = bl_fn y := congrArg (fun v => v.2.2.2.2.1) hzv
        have e2 : bl_le z = bl_le y := congrArg (fun v => v.2.2.2.1) hzv
        have e3 : bl_nu z = bl_nu y := congrArg (fun v => v.2.2.1) hzv
        unfold ckQ
        rw [e1, e2, e3]
      refine lv_aload_n hx hb dX8_soundCheckpointUpTo_48 rfl (lv_at hl 1 rfl) ?_
      refine k_get (ci := 9) (CC := RX8) (T := TX8) (N := 6) (v := .ref kh) C G 0 rfl rfl in_9 2 (by decide) fl_X8_21 rfl rfl dX8_soundCheckpointUpTo_49 ?_
      refine lv_iload hx hb dX8_soundCheckpointUpTo_52 (lv_at hl 0 rfl) ?_
      refine k_topi (y := nI k) (by exact iM_s k) ?_
      have hX : List.Perm (α := Nat × va_E) ([(sa, .inr (9, [.ref dh, .ref eh, .ref kh, .int ro, .ref sr, .ref ag])), (kh, .inr (6, [.ref ka])), (ka, .inr (0, [.int km, .ref kq, .int (nI l2.length)]))] ++ (List.map bO l2 ++ (List.map (bA Z) l2 ++ arE Z kq kr))) (([(kh, .inr (6, [.ref ka])), (ka, .inr (0, [.int km, .ref kq, .int (nI l2.length)]))] ++ (List.map bO l2 ++ (List.map (bA Z) l2 ++ arE Z kq kr))) ++ ([(sa, .inr (9, [.ref dh, .ref eh, .ref kh, .int ro, .ref sr, .ref ag]))])) := (perm_sg [[(sa, .inr (9, [.ref dh, .ref eh, .ref kh, .int ro, .ref sr, .ref ag]))], [(kh, .inr (6, [.ref ka]))], [(ka, .inr (0, [.int km, .ref kq, .int (nI l2.length)]))], List.map bO l2, List.map (bA Z) l2, arE Z kq kr] [[(kh, .inr (6, [.ref ka]))], [(ka, .inr (0, [.int km, .ref kq, .int (nI l2.length)]))], List.map bO l2, List.map (bA Z) l2, arE Z kq kr] [[(sa, .inr (9, [.ref dh, .ref eh, .ref kh, .int ro, .ref sr, .ref ag]))]] [1, 2, 3, 4, 5, 0] rfl 6 (by decide) rfl rfl rfl rfl)
      refine kc_q (Wc := [(kh, .inr (6, [.ref ka])), (ka, .inr (0, [.int km, .ref kq, .int (nI l2.length)]))] ++ (List.map bO l2 ++ (List.map (bA Z) l2 ++ arE Z kq kr))) (Wr := [(sa, .inr (9, [.ref dh, .ref eh, .ref kh, .int ro, .ref sr, .ref ag]))]) G hX (krV 1 rfl (As := [.int (nI k)]) (rest := []) (ci := 6) (CC := RX5) (T := TX5) (N := 1) C G hX (c_X5_blobAt Z l kh ka kq km l2 (List.map bO l2 ++ (List.map (bA Z) l2 ++ arE Z kq kr)) (shR.of (hok.set (vE_ad hv))) (nI k) _) (gdV ml_X8_83 im_X5_blobAt se_X5_blobAt ii_X5 co_X5_blobAt) (by decide +kernel) ⟨Nat.le_of_ble_eq_true rfl, Nat.le_of_ble_eq_true rfl⟩ rfl 0 rfl hl rfl (Nat.le_of_ble_eq_true rfl) ⟨Nat.le_of_ble_eq_true rfl, Nat.le_of_ble_eq_true rfl⟩ dX8_soundCheckpointUpTo_54) (fun r_54 u H locs hu G => ?_)
      obtain ⟨r_54_e, rfl⟩ := hu
      rw [bAt_nI (by omega) (by omega)] at r_54_e
      have G : wd Z A s ([(kh, .inr (6, [.ref ka])), (ka, .inr (0, [.int km, .ref kq, .int (nI l2.length)])), (sa, .inr (9, [.ref dh, .ref eh, .ref kh, .int ro, .ref sr, .ref ag]))] ++ (List.map bO l2 ++ (List.map (bA Z) l2 ++ arE Z kq kr))) H locs := G.perm (show List.Perm (α := Nat × va_E) (([(kh, .inr (6, [.ref ka])), (ka, .inr (0, [.int km, .ref kq, .int (nI l2.length)]))] ++ (List.map bO l2 ++ (List.map (bA Z) l2 ++ arE Z kq kr))) ++ ([(sa, .inr (9, [.ref dh, .ref eh, .ref kh, .int ro, .ref sr, .ref ag]))])) ([(kh, .inr (6, [.ref ka])), (ka, .inr (0, [.int km, .ref kq, .int (nI l2.length)])), (sa, .inr (9, [.ref dh, .ref eh, .ref kh, .int ro, .ref sr, .ref ag]))] ++ (List.map bO l2 ++ (List.map (bA Z) l2 ++ arE Z kq kr))) from (perm_sg [[(kh, .inr (6, [.ref ka]))], [(ka, .inr (0, [.int km, .ref kq, .int (nI l2.length)]))], [(sa, .inr (9, [.ref dh, .ref eh, .ref kh, .int ro, .ref sr, .ref ag]))], List.map bO l2, List.map (bA Z) l2, arE Z kq kr] [[(kh, .inr (6, [.ref ka]))], [(ka, .inr (0, [.int km, .ref kq, .int (nI l2.length)]))], List.map bO l2, List.map (bA Z) l2, arE Z kq kr] [[(sa, .inr (9, [.ref dh, .ref eh, .ref kh, .int ro, .ref sr, .ref ag]))]] [0, 1, 3, 4, 5, 2] rfl 6 (by decide) rfl rfl rfl rfl).symm)
      rw [hz] at r_54_e
      subst r_54_e
      refine k_topv (y := .ref (bl_ad z)) rfl ?_
      refine lv_astore_n (lv' := [(3, .ref (bl_ad z)), (5, .int (iM (k + 1))), (0, .ref sa)]) hx hb dX8_soundCheckpointUpTo_57 rfl hl (by decide) rfl (fun ls hl => ?_)
      refine lv_aload_n hx hb dX8_soundCheckpointUpTo_58 rfl (lv_at hl 0 rfl) ?_
      refine lv_ifnull hx hb dX8_soundCheckpointUpTo_59 ?_
      refine lv_aload_n hx hb dX8_soundCheckpointUpTo_62 rfl (lv_at hl 2 rfl) ?_
      refine lv_iconst (v := 2) hx hb dX8_soundCheckpointUpTo_63 (by decide) ?_
      refine lv_aload_n hx hb dX8_soundCheckpointUpTo_64 rfl (lv_at hl 0 rfl) ?_
      have hX : List.Perm (α := Nat × va_E) ([(kh, .inr (6, [.ref ka])), (ka, .inr (0, [.int km, .ref kq, .int (nI l2.length)])), (sa, .inr (9, [.ref dh, .ref eh, .ref kh, .int ro, .ref sr, .ref ag]))] ++ (List.map bO l2 ++ (List.map (bA Z) l2 ++ arE Z kq kr))) (([(sa, .inr (9, [.ref dh, .ref eh, .ref kh, .int ro, .ref sr, .ref ag])), (kh, .inr (6, [.ref ka])), (ka, .inr (0, [.int km, .ref kq, .int (nI l2.length)]))] ++ (List.map bO l2 ++ (List.map (bA Z) l2 ++ arE Z kq kr))) ++ ([])) := (perm_sg [[(kh, .inr (6, [.ref ka]))], [(ka, .inr (0, [.int km, .ref kq, .int (nI l2.length)]))], [(sa, .inr (9, [.ref dh, .ref eh, .ref kh, .int ro, .ref sr, .ref ag]))], List.map bO l2, List.map (bA Z) l2, arE Z kq kr] [[(sa, .inr (9, [.ref dh, .ref eh, .ref kh, .int ro, .ref sr, .ref ag]))], [(kh, .inr (6, [.ref ka]))], [(ka, .inr (0, [.int km, .ref kq, .int (nI l2.length)]))], List.map bO l2, List.map (bA Z) l2, arE Z kq kr] [] [2, 0, 1, 3, 4, 5] rfl 6 (by decide) rfl rfl rfl rfl)
      refine kc_i (Wc := [(sa, .inr (9, [.ref dh, .ref eh, .ref kh, .int ro, .ref sr, .ref ag])), (kh, .inr (6, [.ref ka])), (ka, .inr (0, [.int km, .ref kq, .int (nI l2.length)]))] ++ (List.map bO l2 ++ (List.map (bA Z) l2 ++ arE Z kq kr))) (Wr := []) G hX (krV 2 rfl (As := [.int 2, .ref (bl_ad z)]) (rest := []) (ci := 9) (CC := RX8) (T := TX8) (N := 6) C G hX (c_lookK Z l sa dh eh kh ro sr ag kh ka kq km kr l2 k z hz hzk _) (gdV ml_X8_75 im_X8_isSound se_X8_isSound ii_X8 co_X8_isSound) (by decide +kernel) ⟨Nat.le_of_ble_eq_true rfl, Nat.le_of_ble_eq_true rfl⟩ rfl 0 rfl hl rfl (Nat.le_of_ble_eq_true rfl) ⟨Nat.le_of_ble_eq_true rfl, Nat.le_of_ble_eq_true rfl⟩ dX8_soundCheckpointUpTo_65) (fun r_65 u H locs hu G => ?_)
      obtain ⟨r_65_e, rfl⟩ := hu
      subst r_65_e
      have G : wd Z A s ([(sa, .inr (9, [.ref dh, .ref eh, .ref kh, .int ro, .ref sr, .ref ag])), (kh, .inr (6, [.ref ka])), (ka, .inr (0, [.int km, .ref kq, .int (nI ((l2.set k (bl_es 1 (pI (ckQ z)) z)).length))]))] ++ (List.map bO (l2.set k (bl_es 1 (pI (ckQ z)) z)) ++ (List.map (bA Z) (l2.set k (bl_es 1 (pI (ckQ z)) z)) ++ arE Z kq kr))) H locs := G.perm (show List.Perm (α := Nat × va_E) (([(sa, .inr (9, [.ref dh, .ref eh, .ref kh, .int ro, .ref sr, .ref ag])), (kh, .inr (6, [.ref ka])), (ka, .inr (0, [.int km, .ref kq, .int (nI ((l2.set k (bl_es 1 (pI (ckQ z)) z)).length))]))] ++ (List.map bO (l2.set k (bl_es 1 (pI (ckQ z)) z)) ++ (List.map (bA Z) (l2.set k (bl_es 1 (pI (ckQ z)) z)) ++ arE Z kq kr))) ++ ([])) ([(sa, .inr (9, [.ref dh, .ref eh, .ref kh, .int ro, .ref sr, .ref ag])), (kh, .inr (6, [.ref ka])), (ka, .inr (0, [.int km, .ref kq, .int (nI ((l2.set k (bl_es 1 (pI (ckQ z)) z)).length))]))] ++ (List.map bO (l2.set k (bl_es 1 (pI (ckQ z)) z)) ++ (List.map (bA Z) (l2.set k (bl_es 1 (pI (ckQ z)) z)) ++ arE Z kq kr))) from (perm_sg [[(sa, .inr (9, [.ref dh, .ref eh, .ref kh, .int ro, .ref sr, .ref ag]))], [(kh, .inr (6, [.ref ka]))], [(ka, .inr (0, [.int km, .ref kq, .int (nI ((l2.set k (bl_es 1 (pI (ckQ z)) z)).length))]))], List.map bO (l2.set k (bl_es 1 (pI (ckQ z)) z)), List.map (bA Z) (l2.set k (bl_es 1 (pI (ckQ z)) z)), arE Z kq kr] [[(sa, .inr (9, [.ref dh, .ref eh, .ref kh, .int ro, .ref sr, .ref ag]))], [(kh, .inr (6, [.ref ka]))], [(ka, .inr (0, [.int km, .ref kq, .int (nI ((l2.set k (bl_es 1 (pI (ckQ z)) z)).length))]))], List.map bO (l2.set k (bl_es 1 (pI (ckQ z)) z)), List.map (bA Z) (l2.set k (bl_es 1 (pI (ckQ z)) z)), arE Z kq kr] [] [0, 1, 2, 3, 4, 5] rfl 6 (by decide) rfl rfl rfl rfl).symm)
      refine lv_if_eq (tgt := 73) hx hb dX8_soundCheckpointUpTo_68 (by decide) (fun c_68 => ?_) (fun c_68 => ?_)
      · refine lv_iinc (v := iM k) (lv' := [(5, .int (iM k)), (3, .ref (bl_ad z)), (0, .ref sa)]) hx hb dX8_soundCheckpointUpTo_73 hl (k := 1) rfl (iM_i k) (by decide) rfl (fun ls hl => ?_)
        refine lv_goto (tgt := 43) hx hb dX8_soundCheckpointUpTo_76 (by decide) ?_
        exact ih (l2.set k (bl_es 1 (pI (ckQ z)) z)) (by omega) ((set_map vE (y2 := bl_es 1 (pI (ckQ z)) z) hz rfl).trans hv) (set_all hall ⟨Or.inr ⟨rfl, rfl⟩, hzk.2⟩) (by rw [← ckU_n hyk (fun q => pI_0 c_68 (hzq.mpr q))]; exact hp) _ _ _ G (lv_sub hl [0, 2] rfl)
      · refine lv_aload_n hx hb dX8_soundCheckpointUpTo_71 rfl (lv_at hl 0 rfl) ?_
        exact kr_q (r := some (bl_ad z)) C G (Or.inl ⟨_, rfl⟩) (hp _ (l2.set k (bl_es 1 (pI (ckQ z)) z)) (by rw [ckU_y hyk (hzq.mp (pI_1 c_68)), Option.map_some, hza]) ((set_map vE (y2 := bl_es 1 (pI (ckQ z)) z) hz rfl).trans hv) (set_all hall ⟨Or.inr ⟨rfl, rfl⟩, hzk.2⟩)) (Nat.le_of_ble_eq_true rfl) (Nat.le_of_ble_eq_true rfl) dX8_soundCheckpointUpTo_72
set_option maxRecDepth 100000 in
set_option maxHeartbeats 4000000 in
theorem c_X8_soundCheckpointUpTo (Z : zT) (l : Launch) (sa dh eh kh : Nat) (ro : Int32) (sr ag : Nat) (ka kq : Nat) (km : Int32) (kr : arT) (kl : List blT) (hok : shOk Z kq kr kl) (hso : bSo kl) (hall : ∀ y ∈ kl, okB ckQ y) (x : Int32) : Kq Z l yX8_soundCheckpointUpTo cX8_soundCheckpointUpTo 6 (some (.object "LakeTable$Blob")) ({ frames := 4, cells := 0, slots := 0, locals := 120 }) [.ref sa, .int x] ([stC sa dh eh kh ro sr ag] ++ shW Z kh ka km kq kr kl) (fun r u => ∃ l2, l2.map vE = kl.map vE ∧ (∀ y ∈ l2, okB ckQ y) ∧ r = (ckU ckQ kl (bCn kl x)).map bl_ad ∧ u = [stC sa dh eh kh ro sr ag] ++ shW Z kh ka km kq kr l2) := by
  intro sz
  refine Met.ofK (cc := cX8_soundCheckpointUpTo) (maxL := 6) (ret := (some (.object "LakeTable$Blob"))) (by decide) (Nat.le_of_ble_eq_true rfl) ?_
  intro p e s m below meth c ls C G hl
  generalize va_A _ sz = A at G ⊢
  have hx := C.1
  have hb := C.2.1
  have hown := C.2.2.2.2.2.1
  have hts := C.2.2.2.2.2.2.1
  have hlb := hok.le
  have hpb := bPl_le kl x
  have G : wd Z A s ([(sa, .inr (9, [.ref dh, .ref eh, .ref kh, .int ro, .ref sr, .ref ag])), (kh, .inr (6, [.ref ka])), (ka, .inr (0, [.int km, .ref kq, .int (nI kl.length)]))] ++ (List.map bO kl ++ (List.map (bA Z) kl ++ arE Z kq kr))) s.heap [] := G
  refine lv_aload_n hx hb dX8_soundCheckpointUpTo_0 rfl (lv_at hl 0 rfl) ?_
  refine k_get (ci := 9) (CC := RX8) (T := TX8) (N := 6) (v := .ref kh) C G 0 rfl rfl in_9 2 (by decide) fl_X8_21 rfl rfl dX8_soundCheckpointUpTo_1 ?_
  refine lv_iload_n hx hb dX8_soundCheckpointUpTo_4 rfl (lv_at hl 1 rfl) ?_
  have hX : List.Perm (α := Nat × va_E) ([(sa, .inr (9, [.ref dh, .ref eh, .ref kh, .int ro, .ref sr, .ref ag])), (kh, .inr (6, [.ref ka])), (ka, .inr (0, [.int km, .ref kq, .int (nI kl.length)]))] ++ (List.map bO kl ++ (List.map (bA Z) kl ++ arE Z kq kr))) (([(kh, .inr (6, [.ref ka])), (ka, .inr (0, [.int km, .ref kq, .int (nI kl.length)]))] ++ (List.map bO kl ++ (List.map (bA Z) kl ++ arE Z kq kr))) ++ ([(sa, .inr (9, [.ref dh, .ref eh, .ref kh, .int ro, .ref sr, .ref ag]))])) := (perm_sg [[(sa, .inr (9, [.ref dh, .ref eh, .ref kh, .int ro, .ref sr, .ref ag]))], [(kh, .inr (6, [.ref ka]))], [(ka, .inr (0, [.int km, .ref kq, .int (nI kl.length)]))], List.map bO kl, List.map (bA Z) kl, arE Z kq kr] [[(kh, .inr (6, [.ref ka]))], [(ka, .inr (0, [.int km, .ref kq, .int (nI kl.length)]))], List.map bO kl, List.map (bA Z) kl, arE Z kq kr] [[(sa, .inr (9, [.ref dh, .ref eh, .ref kh, .int ro, .ref sr, .ref ag]))]] [1, 2, 3, 4, 5, 0] rfl 6 (by decide) rfl rfl rfl rfl)
  refine kc_i (Wc := [(kh, .inr (6, [.ref ka])), (ka, .inr (0, [.int km, .ref kq, .int (nI kl.length)]))] ++ (List.map bO kl ++ (List.map (bA Z) kl ++ arE Z kq kr))) (Wr := [(sa, .inr (9, [.ref dh, .ref eh, .ref kh, .int ro, .ref sr, .ref ag]))]) G hX (krV 1 rfl (As := [.int x]) (rest := []) (ci := 6) (CC := RX5) (T := TX5) (N := 1) C G hX (c_X5_placeOf Z l kh ka kq km kl (List.map bO kl ++ (List.map (bA Z) kl ++ arE Z kq kr)) (shR.of hok) hso x _) (gdV ml_X8_79 im_X5_placeOf se_X5_placeOf ii_X5 co_X5_placeOf) (by decide +kernel) ⟨Nat.le_of_ble_eq_true rfl, Nat.le_of_ble_eq_true rfl⟩ rfl 0 rfl hl rfl (Nat.le_of_ble_eq_true rfl) ⟨Nat.le_of_ble_eq_true rfl, Nat.le_of_ble_eq_true rfl⟩ dX8_soundCheckpointUpTo_5) (fun r_5 u H locs hu G => ?_)
  obtain ⟨r_5_e, rfl⟩ := hu
  subst r_5_e
  have G : wd Z A s ([(kh, .inr (6, [.ref ka])), (ka, .inr (0, [.int km, .ref kq, .int (nI kl.length)])), (sa, .inr (9, [.ref dh, .ref eh, .ref kh, .int ro, .ref sr, .ref ag]))] ++ (List.map bO kl ++ (List.map (bA Z) kl ++ arE Z kq kr))) H locs := G.perm (show List.Perm (α := Nat × va_E) (([(kh, .inr (6, [.ref ka])), (ka, .inr (0, [.int km, .ref kq, .int (nI kl.length)]))] ++ (List.map bO kl ++ (List.map (bA Z) kl ++ arE Z kq kr))) ++ ([(sa, .inr (9, [.ref dh, .ref eh, .ref kh, .int ro, .ref sr, .ref ag]))])) ([(kh, .inr (6, [.ref ka])), (ka, .inr (0, [.int km, .ref kq, .int (nI kl.length)])), (sa, .inr (9, [.ref dh, .ref eh, .ref kh, .int ro, .ref sr, .ref ag]))] ++ (List.map bO kl ++ (List.map (bA Z) kl ++ arE Z kq kr))) from (perm_sg [[(kh, .inr (6, [.ref ka]))], [(ka, .inr (0, [.int km, .ref kq, .int (nI kl.length)]))], [(sa, .inr (9, [.ref dh, .ref eh, .ref kh, .int ro, .ref sr, .ref ag]))], List.map bO kl, List.map (bA Z) kl, arE Z kq kr] [[(kh, .inr (6, [.ref ka]))], [(ka, .inr (0, [.int km, .ref kq, .int (nI kl.length)]))], List.map bO kl, List.map (bA Z) kl, arE Z kq kr] [[(sa, .inr (9, [.ref dh, .ref eh, .ref kh, .int ro, .ref sr, .ref ag]))]] [0, 1, 3, 4, 5, 2] rfl 6 (by decide) rfl rfl rfl rfl).symm)
  refine lv_istore_n (lv' := [(2, .int (nI (bPl kl x))), (0, .ref sa), (1, .int x)]) hx hb dX8_soundCheckpointUpTo_8 rfl hl (by decide) rfl (fun ls hl => ?_)
  refine lv_aload_n hx hb dX8_soundCheckpointUpTo_9 rfl (lv_at hl 1 rfl) ?_
  refine k_get (ci := 9) (CC := RX8) (T := TX8) (N := 6) (v := .ref kh) C G 2 rfl rfl in_9 2 (by decide) fl_X8_21 rfl rfl dX8_soundCheckpointUpTo_10 ?_
  refine lv_iload_n hx hb dX8_soundCheckpointUpTo_13 rfl (lv_at hl 0 rfl) ?_
  have hX : List.Perm (α := Nat × va_E) ([(kh, .inr (6, [.ref ka])), (ka, .inr (0, [.int km, .ref kq, .int (nI kl.length)])), (sa, .inr (9, [.ref dh, .ref eh, .ref kh, .int ro, .ref sr, .ref ag]))] ++ (List.map bO kl ++ (List.map (bA Z) kl ++ arE Z kq kr))) (([(kh, .inr (6, [.ref ka])), (ka, .inr (0, [.int km, .ref kq, .int (nI kl.length)]))] ++ (List.map bO kl ++ (List.map (bA Z) kl ++ arE Z kq kr))) ++ ([(sa, .inr (9, [.ref dh, .ref eh, .ref kh, .int ro, .ref sr, .ref ag]))])) := (perm_sg [[(kh, .inr (6, [.ref ka]))], [(ka, .inr (0, [.int km, .ref kq, .int (nI kl.length)]))], [(sa, .inr (9, [.ref dh, .ref eh, .ref kh, .int ro, .ref sr, .ref ag]))], List.map bO kl, List.map (bA Z) kl, arE Z kq kr] [[(kh, .inr (6, [.ref ka]))], [(ka, .inr (0, [.int km, .ref kq, .int (nI kl.length)]))], List.map bO kl, List.map (bA Z) kl, arE Z kq kr] [[(sa, .inr (9, [.ref dh, .ref eh, .ref kh, .int ro, .ref sr, .ref ag]))]] [0, 1, 3, 4, 5, 2] rfl 6 (by decide) rfl rfl rfl rfl)
  refine kc_q (Wc := [(kh, .inr (6, [.ref ka])), (ka, .inr (0, [.int km, .ref kq, .int (nI kl.length)]))] ++ (List.map bO kl ++ (List.map (bA Z) kl ++ arE Z kq kr))) (Wr := [(sa, .inr (9, [.ref dh, .ref eh, .ref kh, .int ro, .ref sr, .ref ag]))]) G hX (krV 1 rfl (As := [.int (nI (bPl kl x))]) (rest := []) (ci := 6) (CC := RX5) (T := TX5) (N := 1) C G hX (c_X5_blobAt Z l kh ka kq km kl (List.map bO kl ++ (List.map (bA Z) kl ++ arE Z kq kr)) (shR.of hok) (nI (bPl kl x)) _) (gdV ml_X8_83 im_X5_blobAt se_X5_blobAt ii_X5 co_X5_blobAt) (by decide +kernel) ⟨Nat.le_of_ble_eq_true rfl, Nat.le_of_ble_eq_true rfl⟩ rfl 0 rfl hl rfl (Nat.le_of_ble_eq_true rfl) ⟨Nat.le_of_ble_eq_true rfl, Nat.le_of_ble_eq_true rfl⟩ dX8_soundCheckpointUpTo_14) (fun r_14 u H locs hu G => ?_)
  obtain ⟨r_14_e, rfl⟩ := hu
  rw [bAt_nI (by omega) (by omega)] at r_14_e
  have G : wd Z A s ([(kh, .inr (6, [.ref ka])), (ka, .inr (0, [.int km, .ref kq, .int (nI kl.length)])), (sa, .inr (9, [.ref dh, .ref eh, .ref kh, .int ro, .ref sr, .ref ag]))] ++ (List.map bO kl ++ (List.map (bA Z) kl ++ arE Z kq kr))) H locs := G.perm (show List.Perm (α := Nat × va_E) (([(kh, .inr (6, [.ref ka])), (ka, .inr (0, [.int km, .ref kq, .int (nI kl.length)]))] ++ (List.map bO kl ++ (List.map (bA Z) kl ++ arE Z kq kr))) ++ ([(sa, .inr (9, [.ref dh, .ref eh, .ref kh, .int ro, .ref sr, .ref ag]))])) ([(kh, .inr (6, [.ref ka])), (ka, .inr (0, [.int km, .ref kq, .int (nI kl.length)])), (sa, .inr (9, [.ref dh, .ref eh, .ref kh, .int ro, .ref sr, .ref ag]))] ++ (List.map bO kl ++ (List.map (bA Z) kl ++ arE Z kq kr))) from (perm_sg [[(kh, .inr (6, [.ref ka]))], [(ka, .inr (0, [.int km, .ref kq, .int (nI kl.length)]))], [(sa, .inr (9, [.ref dh, .ref eh, .ref kh, .int ro, .ref sr, .ref ag]))], List.map bO kl, List.map (bA Z) kl, arE Z kq kr] [[(kh, .inr (6, [.ref ka]))], [(ka, .inr (0, [.int km, .ref kq, .int (nI kl.length)]))], List.map bO kl, List.map (bA Z) kl, arE Z kq kr] [[(sa, .inr (9, [.ref dh, .ref eh, .ref kh, .int ro, .ref sr, .ref ag]))]] [0, 1, 3, 4, 5, 2] rfl 6 (by decide) rfl rfl rfl rfl).symm)
  cases hy : kl[bPl kl x]? with
  | none =>
    rw [hy] at r_14_e
    subst r_14_e
    refine k_topv (y := .null) rfl ?_
    refine lv_astore_nN (lv' := [(3, .null), (2, .int (nI (bPl kl x))), (0, .ref sa), (1, .int x)]) hx hb dX8_soundCheckpointUpTo_17 rfl hl (by decide) rfl (fun ls hl => ?_)
    refine lv_aload_nN hx hb dX8_soundCheckpointUpTo_18 rfl (lv_at hl 0 rfl) ?_
    refine lv_ifnullN (tgt := 34) hx hb dX8_soundCheckpointUpTo_19 (by decide) ?_
    refine lv_iload_n hx hb dX8_soundCheckpointUpTo_34 rfl (lv_at hl 1 rfl) ?_
    refine lv_iconst (v := 1) hx hb dX8_soundCheckpointUpTo_35 (by decide) ?_
    refine lv_isub hx hb dX8_soundCheckpointUpTo_36 ?_
    refine k_topi (y := iM (bPl kl x)) (by rfl) ?_
    refine lv_istore (lv' := [(4, .int (iM (bPl kl x))), (3, .null), (2, .int (nI (bPl kl x))), (0, .ref sa), (1, .int x)]) hx hb dX8_soundCheckpointUpTo_37 hl (by decide) rfl (fun ls hl => ?_)
    refine lv_iload hx hb dX8_soundCheckpointUpTo_39 (lv_at hl 0 rfl) ?_
    refine lv_istore (lv' := [(5, .int (iM (bPl kl x))), (4, .int (iM (bPl kl x))), (3, .null), (2, .int (nI (bPl kl x))), (0, .ref sa), (1, .int x)]) hx hb dX8_soundCheckpointUpTo_41 hl (by decide) rfl (fun ls hl => ?_)
    have G : wd Z A s ([(sa, .inr (9, [.ref dh, .ref eh, .ref kh, .int ro, .ref sr, .ref ag])), (kh, .inr (6, [.ref ka])), (ka, .inr (0, [.int km, .ref kq, .int (nI kl.length)]))] ++ (List.map bO kl ++ (List.map (bA Z) kl ++ arE Z kq kr))) H locs := G.perm (show List.Perm (α := Nat × va_E) ([(kh, .inr (6, [.ref ka])), (ka, .inr (0, [.int km, .ref kq, .int (nI kl.length)])), (sa, .inr (9, [.ref dh, .ref eh, .ref kh, .int ro, .ref sr, .ref ag]))] ++ (List.map bO kl ++ (List.map (bA Z) kl ++ arE Z kq kr))) ([(sa, .inr (9, [.ref dh, .ref eh, .ref kh, .int ro, .ref sr, .ref ag])), (kh, .inr (6, [.ref ka])), (ka, .inr (0, [.int km, .ref kq, .int (nI kl.length)]))] ++ (List.map bO kl ++ (List.map (bA Z) kl ++ arE Z kq kr))) from (perm_sg1 [[(kh, .inr (6, [.ref ka]))], [(ka, .inr (0, [.int km, .ref kq, .int (nI kl.length)]))], [(sa, .inr (9, [.ref dh, .ref eh, .ref kh, .int ro, .ref sr, .ref ag]))], List.map bO kl, List.map (bA Z) kl, arE Z kq kr] [[(sa, .inr (9, [.ref dh, .ref eh, .ref kh, .int ro, .ref sr, .ref ag]))], [(kh, .inr (6, [.ref ka]))], [(ka, .inr (0, [.int km, .ref kq, .int (nI kl.length)]))], List.map bO kl, List.map (bA Z) kl, arE Z kq kr] [2, 0, 1, 3, 4, 5] rfl 6 (by decide) rfl rfl rfl))
    have hcn : bCn kl x = bPl kl x := by rw [bCn, bFd_none' hy]; rfl
    exact lp_X8_ckUp (kl := kl) C hok (bPl kl x) kl (by rw [← hcn]; exact bCn_le kl x) rfl hall (fun r l2 h1 h2 h3 => ⟨l2, h2, h3, by rw [hcn]; exact h1, rfl⟩) _ _ _ G (lv_sub hl [0, 4] rfl)
  | some y =>
    rw [hy] at r_14_e
    subst r_14_e
    refine k_topv (y := .ref (bl_ad y)) rfl ?_
    have hmO : bO y ∈ (List.map bO kl ++ (List.map (bA Z) kl ++ arE Z kq kr)) := ((shR.of hok).2 _ y hy).2.1
    refine lv_astore_n (lv' := [(3, .ref (bl_ad y)), (2, .int (nI (bPl kl x))), (0, .ref sa), (1, .int x)]) hx hb dX8_soundCheckpointUpTo_17 rfl hl (by decide) rfl (fun ls hl => ?_)
    refine lv_aload_n hx hb dX8_soundCheckpointUpTo_18 rfl (lv_at hl 0 rfl) ?_
    refine lv_ifnull hx hb dX8_soundCheckpointUpTo_19 ?_
    refine lv_aload_n hx hb dX8_soundCheckpointUpTo_22 rfl (lv_at hl 0 rfl) ?_
    refine k_getM (ci := 2) (CC := RX1) (T := TX1) (N := 6) (v := .int (bl_nu y)) C G (List.mem_append_right _ hmO) rfl in_2 0 (by decide) fl_X8_86 rfl rfl dX8_soundCheckpointUpTo_23 ?_
    refine lv_iload_n hx hb dX8_soundCheckpointUpTo_26 rfl (lv_at hl 3 rfl) ?_
    refine lv_icmp_ne (tgt := 34) hx hb dX8_soundCheckpointUpTo_27 (by decide) (fun c_27 => ?_) (fun c_27 => ?_)
    · refine lv_iload_n hx hb dX8_soundCheckpointUpTo_34 rfl (lv_at hl 1 rfl) ?_
      refine lv_iconst (v := 1) hx hb dX8_soundCheckpointUpTo_35 (by decide) ?_
      refine lv_isub hx hb dX8_soundCheckpointUpTo_36 ?_
      refine k_topi (y := iM (bPl kl x)) (by rfl) ?_
      refine lv_istore (lv' := [(4, .int (iM (bPl kl x))), (3, .ref (bl_ad y)), (2, .int (nI (bPl kl x))), (0, .ref sa), (1, .int x)]) hx hb dX8_soundCheckpointUpTo_37 hl (by decide) rfl (fun ls hl => ?_)
      refine lv_iload hx hb dX8_soundCheckpointUpTo_39 (lv_at hl 0 rfl) ?_
      refine lv_istore (lv' := [(5, .int (iM (bPl kl x))), (4, .int (iM (bPl kl x))), (3, .ref (bl_ad y)), (2, .int (nI (bPl kl x))), (0, .ref sa), (1, .int x)]) hx hb dX8_soundCheckpointUpTo_41 hl (by decide) rfl (fun ls hl => ?_)
      have G : wd Z A s ([(sa, .inr (9, [.ref dh, .ref eh, .ref kh, .int ro, .ref sr, .ref ag])), (kh, .inr (6, [.ref ka])), (ka, .inr (0, [.int km, .ref kq, .int (nI kl.length)]))] ++ (List.map bO kl ++ (List.map (bA Z) kl ++ arE Z kq kr))) H locs := G.perm (show List.Perm (α := Nat × va_E) ([(kh, .inr (6, [.ref ka])), (ka, .inr (0, [.int km, .ref kq, .int (nI kl.length)])), (sa, .inr (9, [.ref dh, .ref eh, .ref kh, .int ro, .ref sr, .ref ag]))] ++ (List.map bO kl ++ (List.map (bA Z) kl ++ arE Z kq kr))) ([(sa, .inr (9, [.ref dh, .ref eh, .ref kh, .int ro, .ref sr, .ref ag])), (kh, .inr (6, [.ref ka])), (ka, .inr (0, [.int km, .ref kq, .int (nI kl.length)]))] ++ (List.map bO kl ++ (List.map (bA Z) kl ++ arE Z kq kr))) from (perm_sg1 [[(kh, .inr (6, [.ref ka]))], [(ka, .inr (0, [.int km, .ref kq, .int (nI kl.length)]))], [(sa, .inr (9, [.ref dh, .ref eh, .ref kh, .int ro, .ref sr, .ref ag]))], List.map bO kl, List.map (bA Z) kl, arE Z kq kr] [[(sa, .inr (9, [.ref dh, .ref eh, .ref kh, .int ro, .ref sr, .ref ag]))], [(kh, .inr (6, [.ref ka]))], [(ka, .inr (0, [.int km, .ref kq, .int (nI kl.length)]))], List.map bO kl, List.map (bA Z) kl, arE Z kq kr] [2, 0, 1, 3, 4, 5] rfl 6 (by decide) rfl rfl rfl))
      have hcn : bCn kl x = bPl kl x := by rw [bCn, bFd_none hy c_27]; rfl
      exact lp_X8_ckUp (kl := kl) C hok (bPl kl x) kl (by rw [← hcn]; exact bCn_le kl x) rfl hall (fun r l2 h1 h2 h3 => ⟨l2, h2, h3, by rw [hcn]; exact h1, rfl⟩) _ _ _ G (lv_sub hl [0, 4] rfl)
    · refine lv_iload_n hx hb dX8_soundCheckpointUpTo_30 rfl (lv_at hl 1 rfl) ?_
      refine lv_goto (tgt := 37) hx hb dX8_soundCheckpointUpTo_31 (by decide) ?_
      refine k_topi (y := iM (bPl kl x + 1)) (by exact (iM_s _).symm) ?_
      refine lv_istore (lv' := [(4, .int (iM (bPl kl x + 1))), (3, .ref (bl_ad y)), (2, .int (nI (bPl kl x))), (0, .ref sa), (1, .int x)]) hx hb dX8_soundCheckpointUpTo_37 hl (by decide) rfl (fun ls hl => ?_)
      refine lv_iload hx hb dX8_soundCheckpointUpTo_39 (lv_at hl 0 rfl) ?_
      refine lv_istore (lv' := [(5, .int (iM (bPl kl x + 1))), (4, .int (iM (bPl kl x + 1))), (3, .ref (bl_ad y)), (2, .int (nI (bPl kl x))), (0, .ref sa), (1, .int x)]) hx hb dX8_soundCheckpointUpTo_41 hl (by decide) rfl (fun ls hl => ?_)
      have G : wd Z A s ([(sa, .inr (9, [.ref dh, .ref eh, .ref kh, .int ro, .ref sr, .ref ag])), (kh, .inr (6, [.ref ka])), (ka, .inr (0, [.int km, .ref kq, .int (nI kl.length)]))] ++ (List.map bO kl ++ (List.map (bA Z) kl ++ arE Z kq kr))) H locs := G.perm (show List.Perm (α := Nat × va_E) ([(kh, .inr (6, [.ref ka])), (ka, .inr (0, [.int km, .ref kq, .int (nI kl.length)])), (sa, .inr (9, [.ref dh, .ref eh, .ref kh, .int ro, .ref sr, .ref ag]))] ++ (List.map bO kl ++ (List.map (bA Z) kl ++ arE Z kq kr))) ([(sa, .inr (9, [.ref dh, .ref eh, .ref kh, .int ro, .ref sr, .ref ag])), (kh, .inr (6, [.ref ka])), (ka, .inr (0, [.int km, .ref kq, .int (nI kl.length)]))] ++ (List.map bO kl ++ (List.map (bA Z) kl ++ arE Z kq kr))) from (perm_sg1 [[(kh, .inr (6, [.ref ka]))], [(ka, .inr (0, [.int km, .ref kq, .int (nI kl.length)]))], [(sa, .inr (9, [.ref dh, .ref eh, .ref kh, .int ro, .ref sr, .ref ag]))], List.map bO kl, List.map (bA Z) kl, arE Z kq kr] [[(sa, .inr (9, [.ref dh, .ref eh, .ref kh, .int ro, .ref sr, .ref ag]))], [(kh, .inr (6, [.ref ka]))], [(ka, .inr (0, [.int km, .ref kq, .int (nI kl.length)]))], List.map bO kl, List.map (bA Z) kl, arE Z kq kr] [2, 0, 1, 3, 4, 5] rfl 6 (by decide) rfl rfl rfl))
      have hcn : bCn kl x = bPl kl x + 1 := by rw [bCn, bFd_some hy c_27]; rfl
      exact lp_X8_ckUp (kl := kl) C hok (bPl kl x + 1) kl (by rw [← hcn]; exact bCn_le kl x) rfl hall (fun r l2 h1 h2 h3 => ⟨l2, h2, h3, by rw [hcn]; exact h1, rfl⟩) _ _ _ G (lv_sub hl [0, 4] rfl)
set_option maxRecDepth 100000 in
set_option maxHeartbeats 4000000 in
theorem c_X8_batchOf (Z : zT) (l : Launch) (sa dh eh kh : Nat) (ro : Int32) (sr ag : Nat) (da dq : Nat) (dm : Int32) (dr : arT) (dl : List blT) (hok : shOk Z dq dr dl) (hso : bSo dl) (q0 aq SL : Nat) (i1 i2 i3 n0 : Int32) (fa : Nat → Int32) (hall : ∀ y ∈ dl, okD y) (hag : ∀ y ∈ dl, bl_ex y = 1 → 628 ≤ SL) (hfa : ∀ i, fits .byte (.int (fa i)) = true) (hSL : SL < 2 ^ 27) (x pt : Int32) : Kq Z l yX8_batchOf cX8_batchOf 4 (some (.object "LakeTable$Batch")) ({ frames := 5, cells := bfC dl x SL, slots := bfS dl x SL, locals := 160 }) [.ref sa, .int x, .int pt] ([stC sa dh eh kh ro sr ag, (sr, .inr (8, [.ref q0, .int i1, .int i2, .int i3]))] ++ (skW Z ag aq SL fa n0 ++ (shW Z dh da dm dq dr dl ++ baW Z dl))) (fun r u => ∃ (d2 : List blT) (q2 aq2 : Nat) (fa2 : Nat → Int32) (n2 j1 j2 j3 : Int32), d2.map vD = dl.map vD ∧ (∀ y ∈ d2, okD y) ∧ fg d2 = fS (fg dl) x ∧ (∀ y ∈ d2, bl_ex y = 1 → 628 ≤ slX dl x SL) ∧ (∀ i, fits .byte (.int (fa2 i)) = true) ∧ ((∃ w y b, dW dl x pt = some w ∧ bFd d2 x = some y ∧ bl_bt y = some b ∧ btM b w ∧ b.2.1.2 ≤ 48 ∧ r = some b.1.1) ∨ (dW dl x pt = none ∧ r = none)) ∧ u = [stC sa dh eh kh ro sr ag, (sr, .inr (8, [.ref q2, .int j1, .int j2, .int j3]))] ++ (skW Z ag aq2 (slX dl x SL) fa2 n2 ++ (shW Z dh da dm dq dr d2 ++ baW Z d2))) := by
  intro sz
  refine Met.ofK (cc := cX8_batchOf) (maxL := 4) (ret := (some (.object "LakeTable$Batch"))) (by decide) (Nat.le_of_ble_eq_true rfl) ?_
  intro p e s m below meth c ls C G hl
  generalize va_A _ sz = A at G ⊢
  have hx := C.1
  have hb := C.2.1
  have hown := C.2.2.2.2.2.1
  have hts := C.2.2.2.2.2.2.1
  have G : wd Z A s ([(sa, .inr (9, [.ref dh, .ref eh, .ref kh, .int ro, .ref sr, .ref ag])), (sr, .inr (8, [.ref q0, .int i1, .int i2, .int i3]))] ++ (skW Z ag aq SL fa n0 ++ (shW Z dh da dm dq dr dl ++ baW Z dl))) s.heap [] := G
  refine lv_aload_n hx hb dX8_batchOf_0 rfl (lv_at hl 0 rfl) ?_
  refine k_get (ci := 9) (CC := RX8) (T := TX8) (N := 6) (v := .ref dh) C G 0 rfl rfl in_9 0 (by decide) fl_X8_12 rfl rfl dX8_batchOf_1 ?_
  refine lv_iload_n hx hb dX8_batchOf_4 rfl (lv_at hl 1 rfl) ?_
  have hX : List.Perm (α := Nat × va_E) ([(sa, .inr (9, [.ref dh, .ref eh, .ref kh, .int ro, .ref sr, .ref ag])), (sr, .inr (8, [.ref q0, .int i1, .int i2, .int i3]))] ++ (skW Z ag aq SL fa n0 ++ (shW Z dh da dm dq dr dl ++ baW Z dl))) ((shW Z dh da dm dq dr dl) ++ ([(sa, .inr (9, [.ref dh, .ref eh, .ref kh, .int ro, .ref sr, .ref ag])), (sr, .inr (8, [.ref q0, .int i1, .int i2, .int i3]))] ++ (skW Z ag aq SL fa n0 ++ baW Z dl))) := (perm_sg [[(sa, .inr (9, [.ref dh, .ref eh, .ref kh, .int ro, .ref sr, .ref ag]))], [(sr, .inr (8, [.ref q0, .int i1, .int i2, .int i3]))], skW Z ag aq SL fa n0, shW Z dh da dm dq dr dl, baW Z dl] [shW Z dh da dm dq dr dl] [[(sa, .inr (9, [.ref dh, .ref eh, .ref kh, .int ro, .ref sr, .ref ag]))], [(sr, .inr (8, [.ref q0, .int i1, .int i2, .int i3]))], skW Z ag aq SL fa n0, baW Z dl] [3, 0, 1, 2, 4] rfl 5 (by decide) rfl rfl rfl rfl)
  refine kc_q (Wc := shW Z dh da dm dq dr dl) (Wr := [(sa, .inr (9, [.ref dh, .ref eh, .ref kh, .int ro, .ref sr, .ref ag])), (sr, .inr (8, [.ref q0, .int i1, .int i2, .int i3]))] ++ (skW Z ag aq SL fa n0 ++ baW Z dl)) G hX (krV 1 rfl (As := [.int x]) (rest := []) (ci := 6) (CC := RX5) (T := TX5) (N := 1) C G hX (c_X5_blobOf Z l dh da dq dm dl (dl.map bO ++ (dl.map (bA Z) ++ arE Z dq dr)) (shR.of hok) hso x _) (gdV ml_X8_46 im_X5_blobOf se_X5_blobOf ii_X5 co_X5_blobOf) (by decide +kernel) ⟨Nat.le_of_ble_eq_true rfl, Nat.le_of_ble_eq_true rfl⟩ rfl 0 rfl hl rfl (Nat.le_of_ble_eq_true rfl) ⟨Nat.zero_le _, Nat.zero_le _⟩ dX8_batchOf_5) (fun r_5 u H locs hu G => ?_)
  obtain ⟨r_5_e, rfl⟩ := hu
  have G : wd Z A s ([(sa, .inr (9, [.ref dh, .ref eh, .ref kh, .int ro, .ref sr, .ref ag])), (sr, .inr (8, [.ref q0, .int i1, .int i2, .int i3]))] ++ (shW Z dh da dm dq dr dl ++ (skW Z ag aq SL fa n0 ++ baW Z dl))) H locs := G.perm (show List.Perm (α := Nat × va_E) ((shW Z dh da dm dq dr dl) ++ ([(sa, .inr (9, [.ref dh, .ref eh, .ref kh, .int ro, .ref sr, .ref ag])), (sr, .inr (8, [.ref q0, .int i1, .int i2, .int i3]))] ++ (skW Z ag aq SL fa n0 ++ baW Z dl))) ([(sa, .inr (9, [.ref dh, .ref eh, .ref kh, .int ro, .ref sr, .ref ag])), (sr, .inr (8, [.ref q0, .int i1, .int i2, .int i3]))] ++ (shW Z dh da dm dq dr dl ++ (skW Z ag aq SL fa n0 ++ baW Z dl))) from (perm_sg [[(sa, .inr (9, [.ref dh, .ref eh, .ref kh, .int ro, .ref sr, .ref ag]))], [(sr, .inr (8, [.ref q0, .int i1, .int i2, .int i3]))], shW Z dh da dm dq dr dl, skW Z ag aq SL fa n0, baW Z dl] [shW Z dh da dm dq dr dl] [[(sa, .inr (9, [.ref dh, .ref eh, .ref kh, .int ro, .ref sr, .ref ag]))], [(sr, .inr (8, [.ref q0, .int i1, .int i2, .int i3]))], skW Z ag aq SL fa n0, baW Z dl] [2, 0, 1, 3, 4] rfl 5 (by decide) rfl rfl rfl rfl).symm)
  have G : wd Z A s ([(sa, .inr (9, [.ref dh, .ref eh, .ref kh, .int ro, .ref sr, .ref ag])), (sr, .inr (8, [.ref q0, .int i1, .int i2, .int i3]))] ++ (skW Z ag aq SL fa n0 ++ (shW Z dh da dm dq dr dl ++ baW Z dl))) H locs := G.perm (show List.Perm (α := Nat × va_E) ([(sa, .inr (9, [.ref dh, .ref eh, .ref kh, .int ro, .ref sr, .ref ag])), (sr, .inr (8, [.ref q0, .int i1, .int i2, .int i3]))] ++ (shW Z dh da dm dq dr dl ++ (skW Z ag aq SL fa n0 ++ baW Z dl))) ([(sa, .inr (9, [.ref dh, .ref eh, .ref kh, .int ro, .ref sr, .ref ag])), (sr, .inr (8, [.ref q0, .int i1, .int i2, .int i3]))] ++ (skW Z ag aq SL fa n0 ++ (shW Z dh da dm dq dr dl ++ baW Z dl))) from (perm_sg1 [[(sa, .inr (9, [.ref dh, .ref eh, .ref kh, .int ro, .ref sr, .ref ag]))], [(sr, .inr (8, [.ref q0, .int i1, .int i2, .int i3]))], shW Z dh da dm dq dr dl, skW Z ag aq SL fa n0, baW Z dl] [[(sa, .inr (9, [.ref dh, .ref eh, .ref kh, .int ro, .ref sr, .ref ag]))], [(sr, .inr (8, [.ref q0, .int i1, .int i2, .int i3]))], skW Z ag aq SL fa n0, shW Z dh da dm dq dr dl, baW Z dl] [0, 1, 3, 2, 4] rfl 5 (by decide) rfl rfl rfl))
  cases hy : bFd dl x with
  | none =>
    rw [hy] at r_5_e
    subst r_5_e
    refine k_topv (y := .null) rfl ?_
    refine lv_astore_nN (lv' := [(3, .null), (0, .ref sa), (1, .int x), (2, .int pt)]) hx hb dX8_batchOf_8 rfl hl (by decide) rfl (fun ls hl => ?_)
    refine lv_aload_nN hx hb dX8_batchOf_9 rfl (lv_at hl 0 rfl) ?_
    refine lv_ifnullN (tgt := 29) hx hb dX8_batchOf_10 (by decide) ?_
    refine lv_null hx hb dX8_batchOf_29 ?_
    exact kr_q (r := none) C G (Or.inl ⟨_, rfl⟩) ⟨dl, q0, aq, fa, n0, i1, i2, i3, rfl, hall, (fg_none hso hy).symm, by rw [slX_n hy]; exact hag, hfa, Or.inr ⟨dW_n hy, rfl⟩, by rw [slX_n hy]⟩ (Nat.zero_le _) (Nat.zero_le _) dX8_batchOf_30
  | some y =>
    rw [hy] at r_5_e
    subst r_5_e
    refine k_topv (y := .ref (bl_ad y)) rfl ?_
    have hgy := (bFd_get hy).1
    have hyk := hall y (List.mem_of_getElem? hgy)
    refine lv_astore_n (lv' := [(3, .ref (bl_ad y)), (0, .ref sa), (1, .int x), (2, .int pt)]) hx hb dX8_batchOf_8 rfl hl (by decide) rfl (fun ls hl => ?_)
    refine lv_aload_n hx hb dX8_batchOf_9 rfl (lv_at hl 0 rfl) ?_
    refine lv_ifnull hx hb dX8_batchOf_10 ?_
    refine lv_aload_n hx hb dX8_batchOf_13 rfl (lv_at hl 1 rfl) ?_
    refine lv_iconst (v := 0) hx hb dX8_batchOf_14 (by decide) ?_
    refine lv_aload_n hx hb dX8_batchOf_15 rfl (lv_at hl 0 rfl) ?_
    have hX : List.Perm (α := Nat × va_E) ([(sa, .inr (9, [.ref dh, .ref eh, .ref kh, .int ro, .ref sr, .ref ag])), (sr, .inr (8, [.ref q0, .int i1, .int i2, .int i3]))] ++ (skW Z ag aq SL fa n0 ++ (shW Z dh da dm dq dr dl ++ baW Z dl))) (([(sa, .inr (9, [.ref dh, .ref eh, .ref kh, .int ro, .ref sr, .ref ag])), (sr, .inr (8, [.ref q0, .int i1, .int i2, .int i3]))] ++ (skW Z ag aq SL fa n0 ++ (shW Z dh da dm dq dr dl ++ baW Z dl))) ++ ([])) := (perm_sg [[(sa, .inr (9, [.ref dh, .ref eh, .ref kh, .int ro, .ref sr, .ref ag]))], [(sr, .inr (8, [.ref q0, .int i1, .int i2, .int i3]))], skW Z ag aq SL fa n0, shW Z dh da dm dq dr dl, baW Z dl] [[(sa, .inr (9, [.ref dh, .ref eh, .ref kh, .int ro, .ref sr, .ref ag]))], [(sr, .inr (8, [.ref q0, .int i1, .int i2, .int i3]))], skW Z ag aq SL fa n0, shW Z dh da dm dq dr dl, baW Z dl] [] [0, 1, 2, 3, 4] rfl 5 (by decide) rfl rfl rfl rfl)
    refine kc_i (Wc := [(sa, .inr (9, [.ref dh, .ref eh, .ref kh, .int ro, .ref sr, .ref ag])), (sr, .inr (8, [.ref q0, .int i1, .int i2, .int i3]))] ++ (skW Z ag aq SL fa n0 ++ (shW Z dh da dm dq dr dl ++ baW Z dl))) (Wr := []) G hX (krV 2 rfl (As := [.int 0, .ref (bl_ad y)]) (rest := []) (ci := 9) (CC := RX8) (T := TX8) (N := 6) C G hX (c_lookD Z l sa dh eh kh ro sr ag dh da dq dm dr dl (bPl dl x) y q0 aq SL i1 i2 i3 n0 fa hgy hyk hfa hSL (hag y (List.mem_of_getElem? hgy)) _) (gdV ml_X8_75 im_X8_isSound se_X8_isSound ii_X8 co_X8_isSound) (by decide +kernel) ⟨Nat.le_of_ble_eq_true rfl, Nat.le_of_ble_eq_true rfl⟩ rfl 0 rfl hl rfl (Nat.le_of_ble_eq_true rfl) ⟨by show 0 + 0 + (5 * nbB y + gC SL 628) ≤ bfC dl x SL; rw [bfC_s hy]; omega, by show 0 + 0 + (159 * nbB y + gS SL 628) ≤ bfS dl x SL; rw [bfS_s hy]; omega⟩ dX8_batchOf_16) (fun r_16 u H locs hu G => ?_)
    obtain ⟨y2, q2, aq2, fa2, n2, j1, j2, j3, r_16_e, hv2, hok2, hex2, hbs2, hfa2, rfl⟩ := hu
    subst r_16_e
    have G : wd Z A s ([(sa, .inr (9, [.ref dh, .ref eh, .ref kh, .int ro, .ref sr, .ref ag])), (sr, .inr (8, [.ref q2, .int j1, .int j2, .int j3]))] ++ (skW Z ag aq2 (gL SL 628) fa2 n2 ++ (shW Z dh da dm dq dr (dl.set (bPl dl x) y2) ++ baW Z (dl.set (bPl dl x) y2)))) H locs := G.perm (show List.Perm (α := Nat × va_E) (([(sa, .inr (9, [.ref dh, .ref eh, .ref kh, .int ro, .ref sr, .ref ag])), (sr, .inr (8, [.ref q2, .int j1, .int j2, .int j3]))] ++ (skW Z ag aq2 (gL SL 628) fa2 n2 ++ (shW Z dh da dm dq dr (dl.set (bPl dl x) y2) ++ baW Z (dl.set (bPl dl x) y2)))) ++ ([])) ([(sa, .inr (9, [.ref dh, .ref eh, .ref kh, .int ro, .ref sr, .ref ag])), (sr, .inr (8, [.ref q2, .int j1, .int j2, .int j3]))] ++ (skW Z ag aq2 (gL SL 628) fa2 n2 ++ (shW Z dh da dm dq dr (dl.set (bPl dl x) y2) ++ baW Z (dl.set (bPl dl x) y2)))) from (perm_sg [[(sa, .inr (9, [.ref dh, .ref eh, .ref kh, .int ro, .ref sr, .ref ag]))], [(sr, .inr (8, [.ref q2, .int j1, .int j2, .int j3]))], skW Z ag aq2 (gL SL 628) fa2 n2, shW Z dh da dm dq dr (dl.set (bPl dl x) y2), baW Z (dl.set (bPl dl x) y2)] [[(sa, .inr (9, [.ref dh, .ref eh, .ref kh, .int ro, .ref sr, .ref ag]))], [(sr, .inr (8, [.ref q2, .int j1, .int j2, .int j3]))], skW Z ag aq2 (gL SL 628) fa2 n2, shW Z dh da dm dq dr (dl.set (bPl dl x) y2), baW Z (dl.set (bPl dl x) y2)] [] [0, 1, 2, 3, 4] rfl 5 (by decide) rfl rfl rfl rfl).symm)
    have hlt := (List.getElem?_eq_some_iff.mp hgy).1
    have hg2 : (dl.set (bPl dl x) y2)[bPl dl x]? = some y2 := List.getElem?_set_self hlt
    have had : bl_ad y2 = bl_ad y := congrArg (fun v => v.1) hv2
    have hnu : bl_nu y2 = bl_nu y := congrArg (fun v => v.2.2.1) hv2
    have hfn : bl_fn y2 = bl_fn y := congrArg (fun v => v.2.2.2.2.1) hv2
    have hle : bl_le y2 = bl_le y := congrArg (fun v => v.2.2.2.1) hv2
    obtain ⟨b, hb2⟩ : ∃ b, bl_bt y2 = some b := Option.isSome_iff_exists.mp hbs2
    have hnu2 : (dl.set (bPl dl x) y2).map bl_nu = dl.map bl_nu := set_map bl_nu hgy hnu
    have hfd2 : bFd (dl.set (bPl dl x) y2) x = some y2 := bFd_some (by rw [bPl_same hnu2]; exact hg2) (by rw [hnu]; exact (bFd_get hy).2)
    have hmB : (bl_ad y, .inr (2, [.int (bl_nu y2), .ref (bl_qa y2), .int (bl_ex y2), .int (bl_so y2), .ref b.1.1, .int (bl_wt y2)])) ∈ shW Z dh da dm dq dr (dl.set (bPl dl x) y2) := by
      have h9 : bO y2 ∈ shW Z dh da dm dq dr (dl.set (bPl dl x) y2) := List.mem_append_right _ (List.mem_append_left _ (List.mem_map.mpr ⟨y2, List.mem_of_getElem? hg2, rfl⟩))
      have e9 : bO y2 = (bl_ad y, .inr (2, [.int (bl_nu y2), .ref (bl_qa y2), .int (bl_ex y2), .int (bl_so y2), .ref b.1.1, .int (bl_wt y2)])) := by unfold bO bl_ba; rw [had, hb2]; rfl
      rw [e9] at h9
      exact h9
    have hmC : (b.1.1, .inr (1, [.int b.2.1.1, .int (nI b.2.1.2), .ref b.1.2.1, .ref b.1.2.2.1, .ref b.1.2.2.2.1, .ref b.1.2.2.2.2])) ∈ baW Z (dl.set (bPl dl x) y2) := List.mem_flatMap.mpr ⟨y2, List.mem_of_getElem? hg2, by rw [hb2]; exact List.mem_cons_self⟩
    refine lv_if_eq (tgt := 29) hx hb dX8_batchOf_19 (by decide) (fun c_19 => ?_) (fun c_19 => ?_)
    · refine lv_null hx hb dX8_batchOf_29 ?_
      exact kr_q (r := none) C G (Or.inl ⟨_, rfl⟩) ⟨dl.set (bPl dl x) y2, q2, aq2, fa2, n2, j1, j2, j3, set_map vD hgy hv2, set_all hall hok2, fg_set hso hy hnu hbs2, by rw [slX_s hy]; exact set_all (fun z hz _ => gL_ge _ _) (fun _ => gL_ge _ _), hfa2, Or.inr ⟨dW_u hy (sD_0 c_19), rfl⟩, by rw [slX_s hy]⟩ (by show 0 + 0 + (5 * nbB y + gC SL 628) ≤ bfC dl x SL; rw [bfC_s hy]; omega) (by show 0 + 0 + (159 * nbB y + gS SL 628) ≤ bfS dl x SL; rw [bfS_s hy]; omega) dX8_batchOf_30
    · refine lv_aload_n hx hb dX8_batchOf_22 rfl (lv_at hl 0 rfl) ?_
      refine k_getM (ci := 2) (CC := RX1) (T := TX1) (N := 6) (v := .ref b.1.1) C G (List.mem_append_right _ (List.mem_append_right _ (List.mem_append_left _ hmB))) rfl in_2 4 (by decide) fl_X8_89 rfl rfl dX8_batchOf_23 ?_
      refine lv_ifnonnull (tgt := 31) hx hb dX8_batchOf_26 (by decide) ?_
      refine lv_aload_n hx hb dX8_batchOf_31 rfl (lv_at hl 0 rfl) ?_
      refine k_getM (ci := 2) (CC := RX1) (T := TX1) (N := 6) (v := .ref b.1.1) C G (List.mem_append_right _ (List.mem_append_right _ (List.mem_append_left _ hmB))) rfl in_2 4 (by decide) fl_X8_89 rfl rfl dX8_batchOf_32 ?_
      refine k_getM (ci := 1) (CC := RX0) (T := TX0) (N := 6) (v := .int b.2.1.1) C G (List.mem_append_right _ (List.mem_append_right _ (List.mem_append_right _ hmC))) rfl in_1 0 (by decide) fl_X8_93 rfl rfl dX8_batchOf_35 ?_
      refine lv_iload_n hx hb dX8_batchOf_38 rfl (lv_at hl 3 rfl) ?_
      refine lv_icmp_ne (tgt := 49) hx hb dX8_batchOf_39 (by decide) (fun c_39 => ?_) (fun c_39 => ?_)
      · refine lv_null hx hb dX8_batchOf_49 ?_
        obtain ⟨w, hw⟩ := sD_1 c_19
        have hbm : btM b w := by
          rcases hok2.2.2.2.2 with h9 | h9
          · rw [hex2] at h9; exact absurd h9 (by decide)
          · exact h9.2.2.2 w b (by rw [hfn, hle]; exact hw) hb2
        have hw1 : w.1 = b.2.1.1 := by rw [hbm.1]; rfl
        exact kr_q (r := none) C G (Or.inl ⟨_, rfl⟩) ⟨dl.set (bPl dl x) y2, q2, aq2, fa2, n2, j1, j2, j3, set_map vD hgy hv2, set_all hall hok2, fg_set hso hy hnu hbs2, by rw [slX_s hy]; exact set_all (fun z hz _ => gL_ge _ _) (fun _ => gL_ge _ _), hfa2, Or.inr ⟨dW_o hy hw (by rw [hw1]; exact c_39), rfl⟩, by rw [slX_s hy]⟩ (by show 0 + 0 + (5 * nbB y + gC SL 628) ≤ bfC dl x SL; rw [bfC_s hy]; omega) (by show 0 + 0 + (159 * nbB y + gS SL 628) ≤ bfS dl x SL; rw [bfS_s hy]; omega) dX8_batchOf_50
      · refine lv_aload_n hx hb dX8_batchOf_42 rfl (lv_at hl 0 rfl) ?_
        refine k_getM (ci := 2) (CC := RX1) (T := TX1) (N := 6) (v := .ref b.1.1) C G (List.mem_append_right _ (List.mem_append_right _ (List.mem_append_left _ hmB))) rfl in_2 4 (by decide) fl_X8_89 rfl rfl dX8_batchOf_43 ?_
        refine lv_goto (tgt := 50) hx hb dX8_batchOf_46 (by decide) ?_
        obtain ⟨w, hw⟩ := sD_1 c_19
        have hbm : btM b w := by
          rcases hok2.2.2.2.2 with h9 | h9
          · rw [hex2] at h9; exact absurd h9 (by decide)
          · exact h9.2.2.2 w b (by rw [hfn, hle]; exact hw) hb2
        have hw1 : w.1 = b.2.1.1 := by rw [hbm.1]; rfl
        exact kr_q (r := some b.1.1) C G (Or.inl ⟨_, rfl⟩) ⟨dl.set (bPl dl x) y2, q2, aq2, fa2, n2, j1, j2, j3, set_map vD hgy hv2, set_all hall hok2, fg_set hso hy hnu hbs2, by rw [slX_s hy]; exact set_all (fun z hz _ => gL_ge _ _) (fun _ => gL_ge _ _), hfa2, Or.inl ⟨w, y2, b, dW_y hy hw (by rw [hw1]; exact c_39), hfd2, hb2, hbm, hok2.2.2.2.1 b hb2, rfl⟩, by rw [slX_s hy]⟩ (by show 0 + 0 + (5 * nbB y + gC SL 628) ≤ bfC dl x SL; rw [bfC_s hy]; omega) (by show 0 + 0 + (159 * nbB y + gS SL 628) ≤ bfS dl x SL; rw [bfS_s hy]; omega) dX8_batchOf_50
