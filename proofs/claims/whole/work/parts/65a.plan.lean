/-! MODULE Plan (X4), and FileList.wantAll. -/
theorem bWa_ad (bl : List blT) (x : Int32) : (bWa bl x).map bl_ad = bl.map bl_ad := by
  unfold bWa
  cases h : bFd bl x with
  | none => rfl
  | some y => exact set_ad (bFd_get h).1 rfl
theorem bWa_nu (bl : List blT) (x : Int32) : (bWa bl x).map bl_nu = bl.map bl_nu := by
  unfold bWa
  cases h : bFd bl x with
  | none => rfl
  | some y =>
    simp only
    rw [List.map_set]
    apply List.ext_getElem?
    intro i
    have hg := (bFd_get h).1
    by_cases hi : i = bPl bl x
    · subst hi
      have hk := (List.getElem?_eq_some_iff.mp hg).1
      rw [List.getElem?_set_self (by simpa using hk), List.getElem?_map, hg]; rfl
    · rw [List.getElem?_set_ne (by omega)]
/-- the OBJECTS of the first k numbers are wanted -/
def waF (N : Nat → Int32) (bl : List blT) : Nat → List blT
  | 0 => bl
  | k + 1 => bWa (waF N bl k) (N k)
theorem waF_ad (N : Nat → Int32) (bl : List blT) : ∀ k, (waF N bl k).map bl_ad = bl.map bl_ad
  | 0 => rfl
  | k + 1 => by rw [waF, bWa_ad, waF_ad N bl k]
theorem waF_nu (N : Nat → Int32) (bl : List blT) : ∀ k, (waF N bl k).map bl_nu = bl.map bl_nu
  | 0 => rfl
  | k + 1 => by rw [waF, bWa_nu, waF_nu N bl k]
abbrev plC (pa qr sh qe qp qn nr no np : Nat) : Nat × va_E := (pa, .inr (5, [.ref qr, .int (nI nr), .ref sh, .ref qe, .ref qp, .int (nI no), .ref qn, .int (nI np)]))
abbrev plW (Z : zT) (pa qr sh sq qe qp qn SL nr no np n : Nat) (f R E Pp N : Nat → Int32) : va_W := [plC pa qr sh qe qp qn nr no np, (qr, aI Z 100 R), (sh, .inr (7, [.ref sq, .int (nI n)])), (sq, aB Z SL f), (qe, aI Z 100 E), (qp, aI Z 100 Pp), (qn, aI Z 100 N)]
set_option maxRecDepth 100000 in
set_option maxHeartbeats 4000000 in
theorem lp_X3_wantAll {p : Program} {l : Launch} {e : Env} {s : State} {m : MethodId} {args : Array Value} {below : List Frame} {meth : Method} {c : Code} {Z : zT} {A : Nat → Prop} {h qn qp m0 d a qe : Nat} {mc : Int32} {N Pt : Nat → Int32} {ar : arT} {bl : List blT} {post : va_W → Prop} (C : cx p s m args meth c cX3_wantAll 3 none RX3 "wantAll") (hm : m0 ≤ 200) (hok : shOk Z qe ar bl) (hso : bSo bl) (hp : post (flW Z h qn qp m0 N Pt ++ shW Z d a mc qe ar (waF N bl m0))) : ∀ (n k : Nat), k + n = m0 → ∀ (H : Heap) (locs : List Loc) (ls : Array Slot), wd Z A s (flW Z h qn qp m0 N Pt ++ shW Z d a mc qe ar (waF N bl k)) H locs → lv_has ls 3 [(2, .int (nI k)), (0, .ref h), (1, .ref d)] → W p l e ({ frames := 6, cells := 0, slots := 0, locals := 180 }) s m args below meth c H locs 0 0 (MQ below (va_Qv post (mB Z A) A) args s 0 0 A) (F0 m 2 ls []) := by
  have hx := C.1
  have hb := C.2.1
  have hown := C.2.2.2.2.2.1
  have hts := C.2.2.2.2.2.2.1
  intro n
  induction n with
  | zero =>
    intro k hk H locs ls G hl
    refine lv_iload_n hx hb dX3_wantAll_2 rfl (lv_at hl 0 rfl) ?_
    refine lv_aload_n hx hb dX3_wantAll_3 rfl (lv_at hl 1 rfl) ?_
    refine k_get (ci := 4) (CC := RX3) (T := TX3) (N := 3) (v := .int (nI m0)) C G 0 rfl rfl in_4 2 (by decide) fl_X3_18 rfl rfl dX3_wantAll_4 ?_
    refine lv_icmp_ge (tgt := 25) hx hb dX3_wantAll_7 (by decide) (fun c_7 => ?_) (fun c_7 => ?_)
    · have ek : k = m0 := by omega
      rw [ek] at G
      exact kr_v C G hp (Nat.le_of_ble_eq_true rfl) (Nat.le_of_ble_eq_true rfl) dX3_wantAll_25
    · exact absurd (nI_le (by omega) (by omega)) c_7
  | succ n ih =>
    intro k hk H locs ls G hl
    refine lv_iload_n hx hb dX3_wantAll_2 rfl (lv_at hl 0 rfl) ?_
    refine lv_aload_n hx hb dX3_wantAll_3 rfl (lv_at hl 1 rfl) ?_
    refine k_get (ci := 4) (CC := RX3) (T := TX3) (N := 3) (v := .int (nI m0)) C G 0 rfl rfl in_4 2 (by decide) fl_X3_18 rfl rfl dX3_wantAll_4 ?_
    refine lv_icmp_ge (tgt := 25) hx hb dX3_wantAll_7 (by decide) (fun c_7 => ?_) (fun c_7 => ?_)
    · exact absurd c_7 (nI_ge (by omega) (by omega))
    · refine lv_aload_n hx hb dX3_wantAll_10 rfl (lv_at hl 2 rfl) ?_
      refine lv_aload_n hx hb dX3_wantAll_11 rfl (lv_at hl 1 rfl) ?_
      refine lv_iload_n hx hb dX3_wantAll_12 rfl (lv_at hl 0 rfl) ?_
      have hX : List.Perm (α := Nat × va_E) ([(h, .inr (4, [.ref qn, .ref qp, .int (nI m0)])), (qn, aI Z 200 N), (qp, aI Z 200 Pt)] ++ shW Z d a mc qe ar (waF N bl k)) (([(h, .inr (4, [.ref qn, .ref qp, .int (nI m0)])), (qn, aI Z 200 N), (qp, aI Z 200 Pt)]) ++ (shW Z d a mc qe ar (waF N bl k))) := (perm_sg [[(h, .inr (4, [.ref qn, .ref qp, .int (nI m0)]))], [(qn, aI Z 200 N)], [(qp, aI Z 200 Pt)], shW Z d a mc qe ar (waF N bl k)] [[(h, .inr (4, [.ref qn, .ref qp, .int (nI m0)]))], [(qn, aI Z 200 N)], [(qp, aI Z 200 Pt)]] [shW Z d a mc qe ar (waF N bl k)] [0, 1, 2, 3] rfl 4 (by decide) rfl rfl rfl rfl)
      refine kc_i (Wc := [(h, .inr (4, [.ref qn, .ref qp, .int (nI m0)])), (qn, aI Z 200 N), (qp, aI Z 200 Pt)]) (Wr := shW Z d a mc qe ar (waF N bl k)) G hX (krV 1 rfl (As := [.int (nI k)]) (rest := [.ref d]) (ci := 4) (CC := RX3) (T := TX3) (N := 3) C G hX (c_X3_numberAtI Z l h qn qp m0 k N Pt hm (by omega) _) (gdV ml_X3_26 im_X3_numberAt se_X3_numberAt ii_X3 co_X3_numberAt) (by decide +kernel) ⟨Nat.le_of_ble_eq_true rfl, Nat.le_of_ble_eq_true rfl⟩ rfl 0 rfl hl rfl (Nat.le_of_ble_eq_true rfl) ⟨Nat.le_of_ble_eq_true rfl, Nat.le_of_ble_eq_true rfl⟩ dX3_wantAll_13) (fun r_13 u H locs hu G => ?_)
      obtain ⟨r_13_e, rfl⟩ := hu
      subst r_13_e
      have G : wd Z A s ([(h, .inr (4, [.ref qn, .ref qp, .int (nI m0)])), (qn, aI Z 200 N), (qp, aI Z 200 Pt)] ++ shW Z d a mc qe ar (waF N bl k)) H locs := G.perm (show List.Perm (α := Nat × va_E) (([(h, .inr (4, [.ref qn, .ref qp, .int (nI m0)])), (qn, aI Z 200 N), (qp, aI Z 200 Pt)]) ++ (shW Z d a mc qe ar (waF N bl k))) ([(h, .inr (4, [.ref qn, .ref qp, .int (nI m0)])), (qn, aI Z 200 N), (qp, aI Z 200 Pt)] ++ shW Z d a mc qe ar (waF N bl k)) from (perm_sg [[(h, .inr (4, [.ref qn, .ref qp, .int (nI m0)]))], [(qn, aI Z 200 N)], [(qp, aI Z 200 Pt)], shW Z d a mc qe ar (waF N bl k)] [[(h, .inr (4, [.ref qn, .ref qp, .int (nI m0)]))], [(qn, aI Z 200 N)], [(qp, aI Z 200 Pt)]] [shW Z d a mc qe ar (waF N bl k)] [0, 1, 2, 3] rfl 4 (by decide) rfl rfl rfl rfl).symm)
      have hX : List.Perm (α := Nat × va_E) ([(h, .inr (4, [.ref qn, .ref qp, .int (nI m0)])), (qn, aI Z 200 N), (qp, aI Z 200 Pt)] ++ shW Z d a mc qe ar (waF N bl k)) ((shW Z d a mc qe ar (waF N bl k)) ++ ([(h, .inr (4, [.ref qn, .ref qp, .int (nI m0)])), (qn, aI Z 200 N), (qp, aI Z 200 Pt)])) := (perm_sg [[(h, .inr (4, [.ref qn, .ref qp, .int (nI m0)]))], [(qn, aI Z 200 N)], [(qp, aI Z 200 Pt)], shW Z d a mc qe ar (waF N bl k)] [shW Z d a mc qe ar (waF N bl k)] [[(h, .inr (4, [.ref qn, .ref qp, .int (nI m0)]))], [(qn, aI Z 200 N)], [(qp, aI Z 200 Pt)]] [3, 0, 1, 2] rfl 4 (by decide) rfl rfl rfl rfl)
      refine kc_v (Wc := shW Z d a mc qe ar (waF N bl k)) (Wr := [(h, .inr (4, [.ref qn, .ref qp, .int (nI m0)])), (qn, aI Z 200 N), (qp, aI Z 200 Pt)]) G hX (krV 1 rfl (As := [.int (N k)]) (rest := []) (ci := 6) (CC := RX5) (T := TX5) (N := 1) C G hX (c_X5_want Z l d a qe mc ar (waF N bl k) (hok.set (waF_ad N bl _)) (hso.same (waF_nu N bl _)) (N k) _) (gdV ml_X3_32 im_X5_want se_X5_want ii_X5 co_X5_want) (by decide +kernel) ⟨Nat.le_of_ble_eq_true rfl, Nat.le_of_ble_eq_true rfl⟩ rfl 0 rfl hl rfl (Nat.le_of_ble_eq_true rfl) ⟨Nat.le_of_ble_eq_true rfl, Nat.le_of_ble_eq_true rfl⟩ dX3_wantAll_16) (fun u H locs hu G => ?_)
      subst hu
      have G : wd Z A s ([(h, .inr (4, [.ref qn, .ref qp, .int (nI m0)])), (qn, aI Z 200 N), (qp, aI Z 200 Pt)] ++ shW Z d a mc qe ar (waF N bl (k + 1))) H locs := G.perm (show List.Perm (α := Nat × va_E) ((shW Z d a mc qe ar (waF N bl (k + 1))) ++ ([(h, .inr (4, [.ref qn, .ref qp, .int (nI m0)])), (qn, aI Z 200 N), (qp, aI Z 200 Pt)])) ([(h, .inr (4, [.ref qn, .ref qp, .int (nI m0)])), (qn, aI Z 200 N), (qp, aI Z 200 Pt)] ++ shW Z d a mc qe ar (waF N bl (k + 1))) from (perm_sg [[(h, .inr (4, [.ref qn, .ref qp, .int (nI m0)]))], [(qn, aI Z 200 N)], [(qp, aI Z 200 Pt)], shW Z d a mc qe ar (waF N bl (k + 1))] [shW Z d a mc qe ar (waF N bl (k + 1))] [[(h, .inr (4, [.ref qn, .ref qp, .int (nI m0)]))], [(qn, aI Z 200 N)], [(qp, aI Z 200 Pt)]] [3, 0, 1, 2] rfl 4 (by decide) rfl rfl rfl rfl).symm)
      refine lv_iinc (v := nI (k + 1)) (lv' := [(2, .int (nI (k + 1))), (0, .ref h), (1, .ref d)]) hx hb dX3_wantAll_19 hl (k := 0) rfl (nI_1 _) (by decide) rfl (fun ls hl => ?_)
      refine lv_goto (tgt := 2) hx hb dX3_wantAll_22 (by decide) ?_
      exact ih (k + 1) (by omega) _ _ _ G (lv_sub hl [0, 1, 2] rfl)
set_option maxRecDepth 100000 in
set_option maxHeartbeats 4000000 in
theorem c_X3_wantAll (Z : zT) (l : Launch) (h qn qp m0 d a qe : Nat) (mc : Int32) (N Pt : Nat → Int32) (ar : arT) (bl : List blT) (hm : m0 ≤ 200) (hok : shOk Z qe ar bl) (hso : bSo bl) : Kv Z l yX3_wantAll cX3_wantAll 3 none ({ frames := 6, cells := 0, slots := 0, locals := 180 }) [.ref h, .ref d] (flW Z h qn qp m0 N Pt ++ shW Z d a mc qe ar (waF N bl 0)) (fun u => u = (flW Z h qn qp m0 N Pt ++ shW Z d a mc qe ar (waF N bl m0))) := by
  intro sz
  refine Met.ofK (cc := cX3_wantAll) (maxL := 3) (ret := none) (by decide) (Nat.le_of_ble_eq_true rfl) ?_
  intro p e s m below meth c ls C G hl
  generalize va_A _ sz = A at G ⊢
  have hx := C.1
  have hb := C.2.1
  have hown := C.2.2.2.2.2.1
  have hts := C.2.2.2.2.2.2.1
  refine lv_iconst (v := 0) hx hb dX3_wantAll_0 (by decide) ?_
  refine k_topi (y := nI 0) (by rfl) ?_
  refine lv_istore_n (lv' := [(2, .int (nI 0)), (0, .ref h), (1, .ref d)]) hx hb dX3_wantAll_1 rfl hl (by decide) rfl (fun ls hl => ?_)
  exact lp_X3_wantAll (post := fun u => u = (flW Z h qn qp m0 N Pt ++ shW Z d a mc qe ar (waF N bl m0))) C hm hok hso rfl m0 0 (by omega) _ _ _ G (lv_sub hl [0, 1, 2] rfl)
set_option maxRecDepth 100000 in
set_option maxHeartbeats 4000000 in
theorem c_X4_init (Z : zT) (l : Launch) (pa : Nat) : Kv Z l yX4_init cX4_init 1 none ({ frames := 2, cells := 6, slots := 466, locals := 50 }) [.ref pa] [(pa, .inr (5, [.null, .int 0, .null, .null, .null, .int 0, .null, .int 0]))] (fun u => ∃ qr sh sq qe qp qn, u = plW Z pa qr sh sq qe qp qn 64 0 0 0 0 (fun _ => 0) (fun _ => 0) (fun _ => 0) (fun _ => 0) (fun _ => 0)) := by
  intro sz
  refine Met.ofK (cc := cX4_init) (maxL := 1) (ret := none) (by decide) (Nat.le_of_ble_eq_true rfl) ?_
  intro p e s m below meth c ls C G hl
  generalize va_A _ sz = A at G ⊢
  have hx := C.1
  have hb := C.2.1
  have hown := C.2.2.2.2.2.1
  have hts := C.2.2.2.2.2.2.1
  refine lv_aload_n hx hb dX4_init_0 rfl (lv_at hl 0 rfl) ?_
  refine k_objInit C hl.1 ml_X4_3 im_Object__init____V co_obj (Nat.le_of_ble_eq_true rfl) (Nat.le_of_ble_eq_true rfl) dX4_init_1 ?_
  refine lv_aload_n hx hb dX4_init_4 rfl (lv_at hl 0 rfl) ?_
  refine lv_bipush (v := 100) hx hb dX4_init_5 (by decide) ?_
  refine k_newa (i := 100) (N' := 100) (ty := .int) C G 1 rfl rfl rfl ac_int (by decide) (by decide) (by show 100 * 4 ≤ _; decide) (Nat.le_of_ble_eq_true rfl) (Nat.le_of_ble_eq_true rfl) dX4_init_7 (fun qr H (G : wd Z A s ([(pa, .inr (5, [.null, .int 0, .null, .null, .null, .int 0, .null, .int 0])), (qr, aI Z 100 (fun _ => 0))]) H _) => ?_)
  refine k_putF (ci := 5) (CC := RX4) (T := TX4) (N := 8) (ty := .array .int) (v := .ref qr) C G 0 rfl rfl in_5 tyX4 tyX4_ok nmX4 0 (by decide) fl_X4_9 rfl rfl rfl rfl rfl rfl (Nat.le_of_ble_eq_true rfl) dX4_init_9 (fun H locs (G : wd Z A s ([(pa, .inr (5, [.ref qr, .int 0, .null, .null, .null, .int 0, .null, .int 0])), (qr, aI Z 100 (fun _ => 0))]) H locs) => ?_)
  refine lv_aload_n hx hb dX4_init_12 rfl (lv_at hl 0 rfl) ?_
  refine k_new (ci := 7) (CC := RX6) (T := TX6) (N := 2) (fs := [.null, .int 0]) C G rfl in_7 tyX6 tyX6_ok cl_X4_15 ib_X6 ii_X6 (by decide) (Nat.le_of_ble_eq_true rfl) (Nat.le_of_ble_eq_true rfl) dX4_init_13 (fun sh H (G : wd Z A s ([(pa, .inr (5, [.ref qr, .int 0, .null, .null, .null, .int 0, .null, .int 0])), (qr, aI Z 100 (fun _ => 0)), (sh, .inr (7, [.null, .int 0]))]) H _) => ?_)
  refine lv_dup hx hb dX4_init_16 rfl ?_
  have hX : List.Perm (α := Nat × va_E) ([(pa, .inr (5, [.ref qr, .int 0, .null, .null, .null, .int 0, .null, .int 0])), (qr, aI Z 100 (fun _ => 0)), (sh, .inr (7, [.null, .int 0]))]) (([(sh, .inr (7, [.null, .int 0]))]) ++ ([(pa, .inr (5, [.ref qr, .int 0, .null, .null, .null, .int 0, .null, .int 0])), (qr, aI Z 100 (fun _ => 0))])) := (perm_sg [[(pa, .inr (5, [.ref qr, .int 0, .null, .null, .null, .int 0, .null, .int 0]))], [(qr, aI Z 100 (fun _ => 0))], [(sh, .inr (7, [.null, .int 0]))]] [[(sh, .inr (7, [.null, .int 0]))]] [[(pa, .inr (5, [.ref qr, .int 0, .null, .null, .null, .int 0, .null, .int 0]))], [(qr, aI Z 100 (fun _ => 0))]] [2, 0, 1] rfl 3 (by decide) rfl rfl rfl rfl)
  refine kc_v (Wc := [(sh, .inr (7, [.null, .int 0]))]) (Wr := [(pa, .inr (5, [.ref qr, .int 0, .null, .null, .null, .int 0, .null, .int 0])), (qr, aI Z 100 (fun _ => 0))]) G hX (krIN 0 rfl (As := []) (rest := [.ref sh, .ref pa]) (host := "LakeTable") C G hX (c_X6_init Z l sh _) (gdP co_X6_init) (by decide) im_X6_init ii_X6 rfl (by decide +kernel) ⟨Nat.le_of_ble_eq_true rfl, Nat.le_of_ble_eq_true rfl⟩ hl rfl (Nat.le_of_ble_eq_true rfl) ⟨Nat.le_of_ble_eq_true rfl, Nat.le_of_ble_eq_true rfl⟩ dX4_init_17) (fun u H locs hu G => ?_)
  obtain ⟨sq, rfl⟩ := hu
  have G : wd Z A s ([(sh, .inr (7, [.ref sq, .int 0])), (sq, aB Z 64 (fun _ => 0)), (pa, .inr (5, [.ref qr, .int 0, .null, .null, .null, .int 0, .null, .int 0])), (qr, aI Z 100 (fun _ => 0))]) H locs := G.perm (show List.Perm (α := Nat × va_E) (([(sh, .inr (7, [.ref sq, .int 0])), (sq, aB Z 64 (fun _ => 0))]) ++ ([(pa, .inr (5, [.ref qr, .int 0, .null, .null, .null, .int 0, .null, .int 0])), (qr, aI Z 100 (fun _ => 0))])) ([(sh, .inr (7, [.ref sq, .int 0])), (sq, aB Z 64 (fun _ => 0)), (pa, .inr (5, [.ref qr, .int 0, .null, .null, .null, .int 0, .null, .int 0])), (qr, aI Z 100 (fun _ => 0))]) from (perm_sg [[(sh, .inr (7, [.ref sq, .int 0]))], [(sq, aB Z 64 (fun _ => 0))], [(pa, .inr (5, [.ref qr, .int 0, .null, .null, .null, .int 0, .null, .int 0]))], [(qr, aI Z 100 (fun _ => 0))]] [[(sh, .inr (7, [.ref sq, .int 0]))], [(sq, aB Z 64 (fun _ => 0))]] [[(pa, .inr (5, [.ref qr, .int 0, .null, .null, .null, .int 0, .null, .int 0]))], [(qr, aI Z 100 (fun _ => 0))]] [0, 1, 2, 3] rfl 4 (by decide) rfl rfl rfl rfl).symm)
  refine k_putF (ci := 5) (CC := RX4) (T := TX4) (N := 8) (ty := .object "LakeTable$Sink") (v := .ref sh) C G 2 rfl rfl in_5 tyX4 tyX4_ok nmX4 2 (by decide) fl_X4_18 rfl rfl rfl rfl rfl rfl (Nat.le_of_ble_eq_true rfl) dX4_init_20 (fun H locs (G : wd Z A s ([(sh, .inr (7, [.ref sq, .int 0])), (sq, aB Z 64 (fun _ => 0)), (pa, .inr (5, [.ref qr, .int 0, .ref sh, .null, .null, .int 0, .null, .int 0])), (qr, aI Z 100 (fun _ => 0))]) H locs) => ?_)
  refine lv_aload_n hx hb dX4_init_23 rfl (lv_at hl 0 rfl) ?_
  refine lv_bipush (v := 100) hx hb dX4_init_24 (by decide) ?_
  refine k_newa (i := 100) (N' := 100) (ty := .int) C G 1 rfl rfl rfl ac_int (by decide) (by decide) (by show 100 * 4 ≤ _; decide) (Nat.le_of_ble_eq_true rfl) (Nat.le_of_ble_eq_true rfl) dX4_init_26 (fun qe H (G : wd Z A s ([(sh, .inr (7, [.ref sq, .int 0])), (sq, aB Z 64 (fun _ => 0)), (pa, .inr (5, [.ref qr, .int 0, .ref sh, .null, .null, .int 0, .null, .int 0])), (qr, aI Z 100 (fun _ => 0)), (qe, aI Z 100 (fun _ => 0))]) H _) => ?_)
  refine k_putF (ci := 5) (CC := RX4) (T := TX4) (N := 8) (ty := .array .int) (v := .ref qe) C G 2 rfl rfl in_5 tyX4 tyX4_ok nmX4 3 (by decide) fl_X4_22 rfl rfl rfl rfl rfl rfl (Nat.le_of_ble_eq_true rfl) dX4_init_28 (fun H locs (G : wd Z A s ([(sh, .inr (7, [.ref sq, .int 0])), (sq, aB Z 64 (fun _ => 0)), (pa, .inr (5, [.ref qr, .int 0, .ref sh, .ref qe, .null, .int 0, .null, .int 0])), (qr, aI Z 100 (fun _ => 0)), (qe, aI Z 100 (fun _ => 0))]) H locs) => ?_)
  refine lv_aload_n hx hb dX4_init_31 rfl (lv_at hl 0 rfl) ?_
  refine lv_bipush (v := 100) hx hb dX4_init_32 (by decide) ?_
  refine k_newa (i := 100) (N' := 100) (ty := .int) C G 1 rfl rfl rfl ac_int (by decide) (by decide) (by show 100 * 4 ≤ _; decide) (Nat.le_of_ble_eq_true rfl) (Nat.le_of_ble_eq_true rfl) dX4_init_34 (fun qp H (G : wd Z A s ([(sh, .inr (7, [.ref sq, .int 0])), (sq, aB Z 64 (fun _ => 0)), (pa, .inr (5, [.ref qr, .int 0, .ref sh, .ref qe, .null, .int 0, .null, .int 0])), (qr, aI Z 100 (fun _ => 0)), (qe, aI Z 100 (fun _ => 0)), (qp, aI Z 100 (fun _ => 0))]) H _) => ?_)
  refine k_putF (ci := 5) (CC := RX4) (T := TX4) (N := 8) (ty := .array .int) (v := .ref qp) C G 2 rfl rfl in_5 tyX4 tyX4_ok nmX4 4 (by decide) fl_X4_25 rfl rfl rfl rfl rfl rfl (Nat.le_of_ble_eq_true rfl) dX4_init_36 (fun H locs (G : wd Z A s ([(sh, .inr (7, [.ref sq, .int 0])), (sq, aB Z 64 (fun _ => 0)), (pa, .inr (5, [.ref qr, .int 0, .ref sh, .ref qe, .ref qp, .int 0, .null, .int 0])), (qr, aI Z 100 (fun _ => 0)), (qe, aI Z 100 (fun _ => 0)), (qp, aI Z 100 (fun _ => 0))]) H locs) => ?_)
  refine lv_aload_n hx hb dX4_init_39 rfl (lv_at hl 0 rfl) ?_
  refine lv_bipush (v := 100) hx hb dX4_init_40 (by decide) ?_
  refine k_newa (i := 100) (N' := 100) (ty := .int) C G 1 rfl rfl rfl ac_int (by decide) (by decide) (by show 100 * 4 ≤ _; decide) (Nat.le_of_ble_eq_true rfl) (Nat.le_of_ble_eq_true rfl) dX4_init_42 (fun qn H (G : wd Z A s ([(sh, .inr (7, [.ref sq, .int 0])), (sq, aB Z 64 (fun _ => 0)), (pa, .inr (5, [.ref qr, .int 0, .ref sh, .ref qe, .ref qp, .int 0, .null, .int 0])), (qr, aI Z 100 (fun _ => 0)), (qe, aI Z 100 (fun _ => 0)), (qp, aI Z 100 (fun _ => 0)), (qn, aI Z 100 (fun _ => 0))]) H _) => ?_)
  refine k_putF (ci := 5) (CC := RX4) (T := TX4) (N := 8) (ty := .array .int) (v := .ref qn) C G 2 rfl rfl in_5 tyX4 tyX4_ok nmX4 6 (by decide) fl_X4_28 rfl rfl rfl rfl rfl rfl (Nat.le_of_ble_eq_true rfl) dX4_init_44 (fun H locs (G : wd Z A s ([(sh, .inr (7, [.ref sq, .int 0])), (sq, aB Z 64 (fun _ => 0)), (pa, .inr (5, [.ref qr, .int 0, .ref sh, .ref qe, .ref qp, .int 0, .ref qn, .int 0])), (qr, aI Z 100 (fun _ => 0)), (qe, aI Z 100 (fun _ => 0)), (qp, aI Z 100 (fun _ => 0)), (qn, aI Z 100 (fun _ => 0))]) H locs) => ?_)
  have G : wd Z A s ([(pa, .inr (5, [.ref qr, .int 0, .ref sh, .ref qe, .ref qp, .int 0, .ref qn, .int 0])), (qr, aI Z 100 (fun _ => 0)), (sh, .inr (7, [.ref sq, .int 0])), (sq, aB Z 64 (fun _ => 0)), (qe, aI Z 100 (fun _ => 0)), (qp, aI Z 100 (fun _ => 0)), (qn, aI Z 100 (fun _ => 0))]) H _ := G.perm (perm_ix [2, 3, 0, 1, 4, 5, 6] rfl 7 (by decide) rfl)
  exact kr_v C G ⟨qr, sh, sq, qe, qp, qn, rfl⟩ (Nat.le_of_ble_eq_true rfl) (Nat.le_of_ble_eq_true rfl) dX4_init_47
set_option maxRecDepth 100000 in
set_option maxHeartbeats 4000000 in
theorem c_X4_clear (Z : zT) (l : Launch) (pa qr sh sq qe qp qn SL nr no np n : Nat) (f R E Pp N : Nat → Int32) : Kv Z l yX4_clear cX4_clear 1 none ({ frames := 1, cells := 0, slots := 0, locals := 30 }) [.ref pa] (plW Z pa qr sh sq qe qp qn SL nr no np n f R E Pp N) (fun u => u = plW Z pa qr sh sq qe qp qn SL 0 0 0 0 f R E Pp N) := by
  intro sz
  refine Met.ofK (cc := cX4_clear) (maxL := 1) (ret := none) (by decide) (Nat.le_of_ble_eq_true rfl) ?_
  intro p e s m below meth c ls C G hl
  generalize va_A _ sz = A at G ⊢
  have hx := C.1
  have hb := C.2.1
  have hown := C.2.2.2.2.2.1
  have hts := C.2.2.2.2.2.2.1
  refine lv_aload_n hx hb dX4_clear_0 rfl (lv_at hl 0 rfl) ?_
  refine lv_iconst (v := 0) hx hb dX4_clear_1 (by decide) ?_
  refine k_put (ci := 5) (CC := RX4) (T := TX4) (N := 8) (ty := .int) (v := .int 0) C G 0 rfl rfl in_5 tyX4 tyX4_ok nmX4 1 (by decide) fl_X4_31 rfl rfl rfl rfl rfl (Nat.le_of_ble_eq_true rfl) dX4_clear_2 (fun H locs (G : wd Z A s ([(pa, .inr (5, [.ref qr, .int 0, .ref sh, .ref qe, .ref qp, .int (nI no), .ref qn, .int (nI np)])), (qr, aI Z 100 R), (sh, .inr (7, [.ref sq, .int (nI n)])), (sq, aB Z SL f), (qe, aI Z 100 E), (qp, aI Z 100 Pp), (qn, aI Z 100 N)]) H locs) => ?_)
  refine lv_aload_n hx hb dX4_clear_5 rfl (lv_at hl 0 rfl) ?_
  refine k_get (ci := 5) (CC := RX4) (T := TX4) (N := 8) (v := .ref sh) C G 0 rfl rfl in_5 2 (by decide) fl_X4_18 rfl rfl dX4_clear_6 ?_
  have hX : List.Perm (α := Nat × va_E) ([(pa, .inr (5, [.ref qr, .int 0, .ref sh, .ref qe, .ref qp, .int (nI no), .ref qn, .int (nI np)])), (qr, aI Z 100 R), (sh, .inr (7, [.ref sq, .int (nI n)])), (sq, aB Z SL f), (qe, aI Z 100 E), (qp, aI Z 100 Pp), (qn, aI Z 100 N)]) (([(sh, .inr (7, [.ref sq, .int (nI n)])), (sq, aB Z SL f)]) ++ ([(pa, .inr (5, [.ref qr, .int 0, .ref sh, .ref qe, .ref qp, .int (nI no), .ref qn, .int (nI np)])), (qr, aI Z 100 R), (qe, aI Z 100 E), (qp, aI Z 100 Pp), (qn, aI Z 100 N)])) := (perm_sg [[(pa, .inr (5, [.ref qr, .int 0, .ref sh, .ref qe, .ref qp, .int (nI no), .ref qn, .int (nI np)]))], [(qr, aI Z 100 R)], [(sh, .inr (7, [.ref sq, .int (nI n)]))], [(sq, aB Z SL f)], [(qe, aI Z 100 E)], [(qp, aI Z 100 Pp)], [(qn, aI Z 100 N)]] [[(sh, .inr (7, [.ref sq, .int (nI n)]))], [(sq, aB Z SL f)]] [[(pa, .inr (5, [.ref qr, .int 0, .ref sh, .ref qe, .ref qp, .int (nI no), .ref qn, .int (nI np)]))], [(qr, aI Z 100 R)], [(qe, aI Z 100 E)], [(qp, aI Z 100 Pp)], [(qn, aI Z 100 N)]] [2, 3, 0, 1, 4, 5, 6] rfl 7 (by decide) rfl rfl rfl rfl)
  refine kc_v (Wc := [(sh, .inr (7, [.ref sq, .int (nI n)])), (sq, aB Z SL f)]) (Wr := [(pa, .inr (5, [.ref qr, .int 0, .ref sh, .ref qe, .ref qp, .int (nI no), .ref qn, .int (nI np)])), (qr, aI Z 100 R), (qe, aI Z 100 E), (qp, aI Z 100 Pp), (qn, aI Z 100 N)]) G hX (krV 0 rfl (As := []) (rest := []) (ci := 7) (CC := RX6) (T := TX6) (N := 2) C G hX (c_X6_clear Z l sh sq SL f (nI n) _) (gdV ml_X4_35 im_X6_clear se_X6_clear ii_X6 co_X6_clear) (by decide +kernel) ⟨Nat.le_of_ble_eq_true rfl, Nat.le_of_ble_eq_true rfl⟩ rfl 0 rfl hl rfl (Nat.le_of_ble_eq_true rfl) ⟨Nat.le_of_ble_eq_true rfl, Nat.le_of_ble_eq_true rfl⟩ dX4_clear_9) (fun u H locs hu G => ?_)
  subst hu
  have G : wd Z A s ([(sh, .inr (7, [.ref sq, .int 0])), (sq, aB Z SL f), (pa, .inr (5, [.ref qr, .int 0, .ref sh, .ref qe, .ref qp, .int (nI no), .ref qn, .int (nI np)])), (qr, aI Z 100 R), (qe, aI Z 100 E), (qp, aI Z 100 Pp), (qn, aI Z 100 N)]) H locs := G.perm (show List.Perm (α := Nat × va_E) (([(sh, .inr (7, [.ref sq, .int 0])), (sq, aB Z SL f)]) ++ ([(pa, .inr (5, [.ref qr, .int 0, .ref sh, .ref qe, .ref qp, .int (nI no), .ref qn, .int (nI np)])), (qr, aI Z 100 R), (qe, aI Z 100 E), (qp, aI Z 100 Pp), (qn, aI Z 100 N)])) ([(sh, .inr (7, [.ref sq, .int 0])), (sq, aB Z SL f), (pa, .inr (5, [.ref qr, .int 0, .ref sh, .ref qe, .ref qp, .int (nI no), .ref qn, .int (nI np)])), (qr, aI Z 100 R), (qe, aI Z 100 E), (qp, aI Z 100 Pp), (qn, aI Z 100 N)]) from (perm_sg [[(sh, .inr (7, [.ref sq, .int 0]))], [(sq, aB Z SL f)], [(pa, .inr (5, [.ref qr, .int 0, .ref sh, .ref qe, .ref qp, .int (nI no), .ref qn, .int (nI np)]))], [(qr, aI Z 100 R)], [(qe, aI Z 100 E)], [(qp, aI Z 100 Pp)], [(qn, aI Z 100 N)]] [[(sh, .inr (7, [.ref sq, .int 0]))], [(sq, aB Z SL f)]] [[(pa, .inr (5, [.ref qr, .int 0, .ref sh, .ref qe, .ref qp, .int (nI no), .ref qn, .int (nI np)]))], [(qr, aI Z 100 R)], [(qe, aI Z 100 E)], [(qp, aI Z 100 Pp)], [(qn, aI Z 100 N)]] [0, 1, 2, 3, 4, 5, 6] rfl 7 (by decide) rfl rfl rfl rfl).symm)
  refine lv_aload_n hx hb dX4_clear_12 rfl (lv_at hl 0 rfl) ?_
  refine lv_iconst (v := 0) hx hb dX4_clear_13 (by decide) ?_
  refine k_put (ci := 5) (CC := RX4) (T := TX4) (N := 8) (ty := .int) (v := .int 0) C G 2 rfl rfl in_5 tyX4 tyX4_ok nmX4 5 (by decide) fl_X4_38 rfl rfl rfl rfl rfl (Nat.le_of_ble_eq_true rfl) dX4_clear_14 (fun H locs (G : wd Z A s ([(sh, .inr (7, [.ref sq, .int 0])), (sq, aB Z SL f), (pa, .inr (5, [.ref qr, .int 0, .ref sh, .ref qe, .ref qp, .int 0, .ref qn, .int (nI np)])), (qr, aI Z 100 R), (qe, aI Z 100 E), (qp, aI Z 100 Pp), (qn, aI Z 100 N)]) H locs) => ?_)
  refine lv_aload_n hx hb dX4_clear_17 rfl (lv_at hl 0 rfl) ?_
  refine lv_iconst (v := 0) hx hb dX4_clear_18 (by decide) ?_
  refine k_put (ci := 5) (CC := RX4) (T := TX4) (N := 8) (ty := .int) (v := .int 0) C G 2 rfl rfl in_5 tyX4 tyX4_ok nmX4 7 (by decide) fl_X4_41 rfl rfl rfl rfl rfl (Nat.le_of_ble_eq_true rfl) dX4_clear_19 (fun H locs (G : wd Z A s ([(sh, .inr (7, [.ref sq, .int 0])), (sq, aB Z SL f), (pa, .inr (5, [.ref qr, .int 0, .ref sh, .ref qe, .ref qp, .int 0, .ref qn, .int 0])), (qr, aI Z 100 R), (qe, aI Z 100 E), (qp, aI Z 100 Pp), (qn, aI Z 100 N)]) H locs) => ?_)
  have G : wd Z A s ([(pa, .inr (5, [.ref qr, .int 0, .ref sh, .ref qe, .ref qp, .int 0, .ref qn, .int 0])), (qr, aI Z 100 R), (sh, .inr (7, [.ref sq, .int 0])), (sq, aB Z SL f), (qe, aI Z 100 E), (qp, aI Z 100 Pp), (qn, aI Z 100 N)]) H locs := G.perm (perm_ix [2, 3, 0, 1, 4, 5, 6] rfl 7 (by decide) rfl)
  exact kr_v C G rfl (Nat.le_of_ble_eq_true rfl) (Nat.le_of_ble_eq_true rfl) dX4_clear_22
set_option maxRecDepth 100000 in
set_option maxHeartbeats 4000000 in
theorem c_X4_isEmpty (Z : zT) (l : Launch) (pa qr sh sq qe qp qn SL nr no np n : Nat) (f R E Pp N : Nat → Int32) (hnr : nr ≤ 100) (hno : no ≤ 100) : Ki Z l yX4_isEmpty cX4_isEmpty 1 (some .boolean) ({ frames := 0, cells := 0, slots := 0, locals := 0 }) [.ref pa] (plW Z pa qr sh sq qe qp qn SL nr no np n f R E Pp N) (fun r u => r = (if nr = 0 ∧ no = 0 then 1 else 0) ∧ u = plW Z pa qr sh sq qe qp qn SL nr no np n f R E Pp N) := by
  intro sz
  refine Met.ofK (cc := cX4_isEmpty) (maxL := 1) (ret := (some .boolean)) (by decide) (Nat.le_of_ble_eq_true rfl) ?_
  intro p e s m below meth c ls C G hl
  generalize va_A _ sz = A at G ⊢
  have hx := C.1
  have hb := C.2.1
  have hown := C.2.2.2.2.2.1
  have hts := C.2.2.2.2.2.2.1
  refine lv_aload_n hx hb dX4_isEmpty_0 rfl (lv_at hl 0 rfl) ?_
  refine k_get (ci := 5) (CC := RX4) (T := TX4) (N := 8) (v := .int (nI nr)) C G 0 rfl rfl in_5 1 (by decide) fl_X4_31 rfl rfl dX4_isEmpty_1 ?_
  refine lv_if_ne (tgt := 18) hx hb dX4_isEmpty_4 (by decide) (fun c_4 => ?_) (fun c_4 => ?_)
  · refine lv_iconst (v := 0) hx hb dX4_isEmpty_18 (by decide) ?_
    exact kr_z C G (by decide) ⟨by rw [if_neg (fun z => c_4 (by rw [z.1]; rfl))], rfl⟩ (Nat.le_refl _) (Nat.le_refl _) dX4_isEmpty_19
  · refine lv_aload_n hx hb dX4_isEmpty_7 rfl (lv_at hl 0 rfl) ?_
    refine k_get (ci := 5) (CC := RX4) (T := TX4) (N := 8) (v := .int (nI no)) C G 0 rfl rfl in_5 5 (by decide) fl_X4_38 rfl rfl dX4_isEmpty_8 ?_
    refine lv_if_ne (tgt := 18) hx hb dX4_isEmpty_11 (by decide) (fun c_11 => ?_) (fun c_11 => ?_)
    · refine lv_iconst (v := 0) hx hb dX4_isEmpty_18 (by decide) ?_
      exact kr_z C G (by decide) ⟨by rw [if_neg (fun z => c_11 (by rw [z.2]; rfl))], rfl⟩ (Nat.le_refl _) (Nat.le_refl _) dX4_isEmpty_19
    · refine lv_iconst (v := 1) hx hb dX4_isEmpty_14 (by decide) ?_
      refine lv_goto (tgt := 19) hx hb dX4_isEmpty_15 (by decide) ?_
      exact kr_z C G (by decide) ⟨by rw [if_pos ⟨(n_pos (by omega)).mp c_4, (n_pos (by omega)).mp c_11⟩], rfl⟩ (Nat.le_refl _) (Nat.le_refl _) dX4_isEmpty_19
set_option maxRecDepth 100000 in
set_option maxHeartbeats 4000000 in
theorem c_X4_pending (Z : zT) (l : Launch) (pa qr sh sq qe qp qn SL nr no np n : Nat) (f R E Pp N : Nat → Int32) (hnp : np ≤ no) : Ki Z l yX4_pending cX4_pending 1 (some .int) ({ frames := 0, cells := 0, slots := 0, locals := 0 }) [.ref pa] (plW Z pa qr sh sq qe qp qn SL nr no np n f R E Pp N) (fun r u => r = nI (no - np) ∧ u = plW Z pa qr sh sq qe qp qn SL nr no np n f R E Pp N) := by
  intro sz
  refine Met.ofK (cc := cX4_pending) (maxL := 1) (ret := (some .int)) (by decide) (Nat.le_of_ble_eq_true rfl) ?_
  intro p e s m below meth c ls C G hl
  generalize va_A _ sz = A at G ⊢
  have hx := C.1
  have hb := C.2.1
  have hown := C.2.2.2.2.2.1
  have hts := C.2.2.2.2.2.2.1
  refine lv_aload_n hx hb dX4_pending_0 rfl (lv_at hl 0 rfl) ?_
  refine k_get (ci := 5) (CC := RX4) (T := TX4) (N := 8) (v := .int (nI no)) C G 0 rfl rfl in_5 5 (by decide) fl_X4_38 rfl rfl dX4_pending_1 ?_
  refine lv_aload_n hx hb dX4_pending_4 rfl (lv_at hl 0 rfl) ?_
  refine k_get (ci := 5) (CC := RX4) (T := TX4) (N := 8) (v := .int (nI np)) C G 0 rfl rfl in_5 7 (by decide) fl_X4_41 rfl rfl dX4_pending_5 ?_
  refine lv_isub hx hb dX4_pending_8 ?_
  exact kr_i C G ⟨pk_sub hnp, rfl⟩ (Nat.le_of_ble_eq_true rfl) (Nat.le_of_ble_eq_true rfl) dX4_pending_9
set_option maxRecDepth 100000 in
set_option maxHeartbeats 4000000 in
theorem c_X4_addRemoved (Z : zT) (l : Launch) (pa qr sh sq qe qp qn SL nr no np n : Nat) (f R E Pp N : Nat → Int32) (hnr : nr < 100) (x : Int32) : Kv Z l yX4_addRemoved cX4_addRemoved 2 none ({ frames := 0, cells := 0, slots := 0, locals := 0 }) [.ref pa, .int x] (plW Z pa qr sh sq qe qp qn SL nr no np n f R E Pp N) (fun u => u = plW Z pa qr sh sq qe qp qn SL (nr + 1) no np n f (upd R nr x) E Pp N) := by
  intro sz
  refine Met.ofK (cc := cX4_addRemoved) (maxL := 2) (ret := none) (by decide) (Nat.le_of_ble_eq_true rfl) ?_
  intro p e s m below meth c ls C G hl
  generalize va_A _ sz = A at G ⊢
  have hx := C.1
  have hb := C.2.1
  have hown := C.2.2.2.2.2.1
  have hts := C.2.2.2.2.2.2.1
  refine lv_aload_n hx hb dX4_addRemoved_0 rfl (lv_at hl 0 rfl) ?_
  refine k_get (ci := 5) (CC := RX4) (T := TX4) (N := 8) (v := .int (nI nr)) C G 0 rfl rfl in_5 1 (by decide) fl_X4_31 rfl rfl dX4_addRemoved_1 ?_
  refine lv_aload_n hx hb dX4_addRemoved_4 rfl (lv_at hl 0 rfl) ?_
  refine k_get (ci := 5) (CC := RX4) (T := TX4) (N := 8) (v := .ref qr) C G 0 rfl rfl in_5 0 (by decide) fl_X4_9 rfl rfl dX4_addRemoved_5 ?_
  refine k_alen (ty := .int) C G 1 1 rfl rfl dX4_addRemoved_8 ?_
  refine lv_icmp_ge (tgt := 32) hx hb dX4_addRemoved_9 (by decide) (fun c_9 => ?_) (fun c_9 => ?_)
  · exact absurd c_9 (nI_ge (b := 100) (by omega) (by omega))
  · refine lv_aload_n hx hb dX4_addRemoved_12 rfl (lv_at hl 0 rfl) ?_
    refine k_get (ci := 5) (CC := RX4) (T := TX4) (N := 8) (v := .ref qr) C G 0 rfl rfl in_5 0 (by decide) fl_X4_9 rfl rfl dX4_addRemoved_13 ?_
    refine lv_aload_n hx hb dX4_addRemoved_16 rfl (lv_at hl 0 rfl) ?_
    refine k_get (ci := 5) (CC := RX4) (T := TX4) (N := 8) (v := .int (nI nr)) C G 0 rfl rfl in_5 1 (by decide) fl_X4_31 rfl rfl dX4_addRemoved_17 ?_
    refine lv_iload_n hx hb dX4_addRemoved_20 rfl (lv_at hl 1 rfl) ?_
    have h_21 : vp_in (nI nr) 100 := by exact vp_in_nI (by omega) (by omega)
    refine k_iast C G 1 rfl h_21 dX4_addRemoved_21 (fun H locs (G : wd Z A s ([(pa, .inr (5, [.ref qr, .int (nI nr), .ref sh, .ref qe, .ref qp, .int (nI no), .ref qn, .int (nI np)])), (qr, aI Z 100 (upd R (nI nr).toNatClampNeg x)), (sh, .inr (7, [.ref sq, .int (nI n)])), (sq, aB Z SL f), (qe, aI Z 100 E), (qp, aI Z 100 Pp), (qn, aI Z 100 N)]) H locs) => ?_)
    refine lv_aload_n hx hb dX4_addRemoved_22 rfl (lv_at hl 0 rfl) ?_
    refine lv_dup hx hb dX4_addRemoved_23 rfl ?_
    refine k_get (ci := 5) (CC := RX4) (T := TX4) (N := 8) (v := .int (nI nr)) C G 0 rfl rfl in_5 1 (by decide) fl_X4_31 rfl rfl dX4_addRemoved_24 ?_
    refine lv_iconst (v := 1) hx hb dX4_addRemoved_27 (by decide) ?_
    refine lv_iadd hx hb dX4_addRemoved_28 ?_
    refine k_topi (y := nI (nr + 1)) (by exact nI_1 _) ?_
    refine k_put (ci := 5) (CC := RX4) (T := TX4) (N := 8) (ty := .int) (v := .int (nI (nr + 1))) C G 0 rfl rfl in_5 tyX4 tyX4_ok nmX4 1 (by decide) fl_X4_31 rfl rfl rfl rfl rfl (Nat.le_of_ble_eq_true rfl) dX4_addRemoved_29 (fun H locs (G : wd Z A s ([(pa, .inr (5, [.ref qr, .int (nI (nr + 1)), .ref sh, .ref qe, .ref qp, .int (nI no), .ref qn, .int (nI np)])), (qr, aI Z 100 (upd R (nI nr).toNatClampNeg x)), (sh, .inr (7, [.ref sq, .int (nI n)])), (sq, aB Z SL f), (qe, aI Z 100 E), (qp, aI Z 100 Pp), (qn, aI Z 100 N)]) H locs) => ?_)
    exact kr_v C G (by rw [nI_clamp (by omega)]) (Nat.le_of_ble_eq_true rfl) (Nat.le_of_ble_eq_true rfl) dX4_addRemoved_32
set_option maxRecDepth 100000 in
set_option maxHeartbeats 4000000 in
theorem c_X4_notePut (Z : zT) (l : Launch) (pa qr sh sq qe qp qn SL nr no np n : Nat) (f R E Pp N : Nat → Int32) (hnp : np < 100) (x : Int32) : Kv Z l yX4_notePut cX4_notePut 2 none ({ frames := 0, cells := 0, slots := 0, locals := 0 }) [.ref pa, .int x] (plW Z pa qr sh sq qe qp qn SL nr no np n f R E Pp N) (fun u => u = plW Z pa qr sh sq qe qp qn SL nr no (np + 1) n f R E Pp (upd N np x)) := by
  intro sz
  refine Met.ofK (cc := cX4_notePut) (maxL := 2) (ret := none) (by decide) (Nat.le_of_ble_eq_true rfl) ?_
  intro p e s m below meth c ls C G hl
  generalize va_A _ sz = A at G ⊢
  have hx := C.1
  have hb := C.2.1
  have hown := C.2.2.2.2.2.1
  have hts := C.2.2.2.2.2.2.1
  refine lv_aload_n hx hb dX4_notePut_0 rfl (lv_at hl 0 rfl) ?_
  refine k_get (ci := 5) (CC := RX4) (T := TX4) (N := 8) (v := .int (nI np)) C G 0 rfl rfl in_5 7 (by decide) fl_X4_41 rfl rfl dX4_notePut_1 ?_
  refine lv_aload_n hx hb dX4_notePut_4 rfl (lv_at hl 0 rfl) ?_
  refine k_get (ci := 5) (CC := RX4) (T := TX4) (N := 8) (v := .ref qn) C G 0 rfl rfl in_5 6 (by decide) fl_X4_28 rfl rfl dX4_notePut_5 ?_
  refine k_alen (ty := .int) C G 6 1 rfl rfl dX4_notePut_8 ?_
  refine lv_icmp_ge (tgt := 32) hx hb dX4_notePut_9 (by decide) (fun c_9 => ?_) (fun c_9 => ?_)
  · exact absurd c_9 (nI_ge (b := 100) (by omega) (by omega))
  · refine lv_aload_n hx hb dX4_notePut_12 rfl (lv_at hl 0 rfl) ?_
    refine k_get (ci := 5) (CC := RX4) (T := TX4) (N := 8) (v := .ref qn) C G 0 rfl rfl in_5 6 (by decide) fl_X4_28 rfl rfl dX4_notePut_13 ?_
    refine lv_aload_n hx hb dX4_notePut_16 rfl (lv_at hl 0 rfl) ?_
    refine k_get (ci := 5) (CC := RX4) (T := TX4) (N := 8) (v := .int (nI np)) C G 0 rfl rfl in_5 7 (by decide) fl_X4_41 rfl rfl dX4_notePut_17 ?_
    refine lv_iload_n hx hb dX4_notePut_20 rfl (lv_at hl 1 rfl) ?_
    have h_21 : vp_in (nI np) 100 := by exact vp_in_nI (by omega) (by omega)
    refine k_iast C G 6 rfl h_21 dX4_notePut_21 (fun H locs (G : wd Z A s ([(pa, .inr (5, [.ref qr, .int (nI nr), .ref sh, .ref qe, .ref qp, .int (nI no), .ref qn, .int (nI np)])), (qr, aI Z 100 R), (sh, .inr (7, [.ref sq, .int (nI n)])), (sq, aB Z SL f), (qe, aI Z 100 E), (qp, aI Z 100 Pp), (qn, aI Z 100 (upd N (nI np).toNatClampNeg x))]) H locs) => ?_)
    refine lv_aload_n hx hb dX4_notePut_22 rfl (lv_at hl 0 rfl) ?_
    refine lv_dup hx hb dX4_notePut_23 rfl ?_
    refine k_get (ci := 5) (CC := RX4) (T := TX4) (N := 8) (v := .int (nI np)) C G 0 rfl rfl in_5 7 (by decide) fl_X4_41 rfl rfl dX4_notePut_24 ?_
    refine lv_iconst (v := 1) hx hb dX4_notePut_27 (by decide) ?_
    refine lv_iadd hx hb dX4_notePut_28 ?_
    refine k_topi (y := nI (np + 1)) (by exact nI_1 _) ?_
    refine k_put (ci := 5) (CC := RX4) (T := TX4) (N := 8) (ty := .int) (v := .int (nI (np + 1))) C G 0 rfl rfl in_5 tyX4 tyX4_ok nmX4 7 (by decide) fl_X4_41 rfl rfl rfl rfl rfl (Nat.le_of_ble_eq_true rfl) dX4_notePut_29 (fun H locs (G : wd Z A s ([(pa, .inr (5, [.ref qr, .int (nI nr), .ref sh, .ref qe, .ref qp, .int (nI no), .ref qn, .int (nI (np + 1))])), (qr, aI Z 100 R), (sh, .inr (7, [.ref sq, .int (nI n)])), (sq, aB Z SL f), (qe, aI Z 100 E), (qp, aI Z 100 Pp), (qn, aI Z 100 (upd N (nI np).toNatClampNeg x))]) H locs) => ?_)
    exact kr_v C G (by rw [nI_clamp (by omega)]) (Nat.le_of_ble_eq_true rfl) (Nat.le_of_ble_eq_true rfl) dX4_notePut_32
set_option maxRecDepth 100000 in
set_option maxHeartbeats 4000000 in
theorem c_X4_endOf (Z : zT) (l : Launch) (pa qr sh sq qe qp qn SL nr no np n : Nat) (f R E Pp N : Nat → Int32) (k : Nat) (hk : k < no) (hno : no ≤ 100) : Ki Z l yX4_endOf cX4_endOf 2 (some .int) ({ frames := 0, cells := 0, slots := 0, locals := 0 }) [.ref pa, .int (nI k)] (plW Z pa qr sh sq qe qp qn SL nr no np n f R E Pp N) (fun r u => r = E k ∧ u = plW Z pa qr sh sq qe qp qn SL nr no np n f R E Pp N) := by
  intro sz
  refine Met.ofK (cc := cX4_endOf) (maxL := 2) (ret := (some .int)) (by decide) (Nat.le_of_ble_eq_true rfl) ?_
  intro p e s m below meth c ls C G hl
  generalize va_A _ sz = A at G ⊢
  have hx := C.1
  have hb := C.2.1
  have hown := C.2.2.2.2.2.1
  have hts := C.2.2.2.2.2.2.1
  refine lv_iload_n hx hb dX4_endOf_0 rfl (lv_at hl 1 rfl) ?_
  refine lv_if_lt (tgt := 21) hx hb dX4_endOf_1 (by decide) (fun c_1 => ?_) (fun c_1 => ?_)
  · exact absurd c_1 (nI_pos (by omega))
  · refine lv_iload_n hx hb dX4_endOf_4 rfl (lv_at hl 1 rfl) ?_
    refine lv_aload_n hx hb dX4_endOf_5 rfl (lv_at hl 0 rfl) ?_
    refine k_get (ci := 5) (CC := RX4) (T := TX4) (N := 8) (v := .int (nI no)) C G 0 rfl rfl in_5 5 (by decide) fl_X4_38 rfl rfl dX4_endOf_6 ?_
    refine lv_icmp_ge (tgt := 21) hx hb dX4_endOf_9 (by decide) (fun c_9 => ?_) (fun c_9 => ?_)
    · exact absurd c_9 (nI_ge (by omega) (by omega))
    · refine lv_iload_n hx hb dX4_endOf_12 rfl (lv_at hl 1 rfl) ?_
      refine lv_aload_n hx hb dX4_endOf_13 rfl (lv_at hl 0 rfl) ?_
      refine k_get (ci := 5) (CC := RX4) (T := TX4) (N := 8) (v := .ref qe) C G 0 rfl rfl in_5 3 (by decide) fl_X4_22 rfl rfl dX4_endOf_14 ?_
      refine k_alen (ty := .int) C G 4 1 rfl rfl dX4_endOf_17 ?_
      refine lv_icmp_lt (tgt := 25) hx hb dX4_endOf_18 (by decide) (fun c_18 => ?_) (fun c_18 => ?_)
      · refine lv_aload_n hx hb dX4_endOf_25 rfl (lv_at hl 0 rfl) ?_
        refine k_get (ci := 5) (CC := RX4) (T := TX4) (N := 8) (v := .ref qe) C G 0 rfl rfl in_5 3 (by decide) fl_X4_22 rfl rfl dX4_endOf_26 ?_
        refine lv_iload_n hx hb dX4_endOf_29 rfl (lv_at hl 1 rfl) ?_
        have h_30 : vp_in (nI k) 100 := by exact vp_in_nI (by omega) (by omega)
        refine k_iald C G 4 rfl h_30 dX4_endOf_30 ?_
        exact kr_i C G ⟨by rw [nI_clamp (by omega)], rfl⟩ (Nat.le_of_ble_eq_true rfl) (Nat.le_of_ble_eq_true rfl) dX4_endOf_31
      · exact absurd (nI_lt (b := 100) (by omega) (by omega)) c_18
theorem le0_k {k : Nat} (hk : k < 2 ^ 31) (h : ¬ nI k > 0) : k = 0 := by
  have h1 := (nI_le0 hk).mp (Int32.not_lt.mp h)
  omega
set_option maxRecDepth 100000 in
set_option maxHeartbeats 4000000 in
theorem c_X4_startOf (Z : zT) (l : Launch) (pa qr sh sq qe qp qn SL nr no np n : Nat) (f R E Pp N : Nat → Int32) (k : Nat) (hk : k < no) (hno : no ≤ 100) : Ki Z l yX4_startOf cX4_startOf 2 (some .int) ({ frames := 1, cells := 0, slots := 0, locals := 30 }) [.ref pa, .int (nI k)] (plW Z pa qr sh sq qe qp qn SL nr no np n f R E Pp N) (fun r u => r = (if k = 0 then 0 else E (k - 1)) ∧ u = plW Z pa qr sh sq qe qp qn SL nr no np n f R E Pp N) := by
  intro sz
  refine Met.ofK (cc := cX4_startOf) (maxL := 2) (ret := (some .int)) (by decide) (Nat.le_of_ble_eq_true rfl) ?_
  intro p e s m below meth c ls C G hl
  generalize va_A _ sz = A at G ⊢
  have hx := C.1
  have hb := C.2.1
  have hown := C.2.2.2.2.2.1
  have hts := C.2.2.2.2.2.2.1
  refine lv_iload_n hx hb dX4_startOf_0 rfl (lv_at hl 1 rfl) ?_
  refine lv_if_gt (tgt := 8) hx hb dX4_startOf_1 (by decide) (fun c_1 => ?_) (fun c_1 => ?_)
  · refine lv_aload_n hx hb dX4_startOf_8 rfl (lv_at hl 0 rfl) ?_
    refine lv_iload_n hx hb dX4_startOf_9 rfl (lv_at hl 1 rfl) ?_
    refine lv_iconst (v := 1) hx hb dX4_startOf_10 (by decide) ?_
    refine lv_isub hx hb dX4_startOf_11 ?_
    refine k_topi (y := nI (k - 1)) (by exact pk_sub (b := 1) (Nat.pos_of_ne_zero (fun z => absurd c_1 (by rw [z]; decide)))) ?_
    have hX : List.Perm (α := Nat × va_E) ([(pa, .inr (5, [.ref qr, .int (nI nr), .ref sh, .ref qe, .ref qp, .int (nI no), .ref qn, .int (nI np)])), (qr, aI Z 100 R), (sh, .inr (7, [.ref sq, .int (nI n)])), (sq, aB Z SL f), (qe, aI Z 100 E), (qp, aI Z 100 Pp), (qn, aI Z 100 N)]) (([(pa, .inr (5, [.ref qr, .int (nI nr), .ref sh, .ref qe, .ref qp, .int (nI no), .ref qn, .int (nI np)])), (qr, aI Z 100 R), (sh, .inr (7, [.ref sq, .int (nI n)])), (sq, aB Z SL f), (qe, aI Z 100 E), (qp, aI Z 100 Pp), (qn, aI Z 100 N)]) ++ ([])) := (perm_sg [[(pa, .inr (5, [.ref qr, .int (nI nr), .ref sh, .ref qe, .ref qp, .int (nI no), .ref qn, .int (nI np)]))], [(qr, aI Z 100 R)], [(sh, .inr (7, [.ref sq, .int (nI n)]))], [(sq, aB Z SL f)], [(qe, aI Z 100 E)], [(qp, aI Z 100 Pp)], [(qn, aI Z 100 N)]] [[(pa, .inr (5, [.ref qr, .int (nI nr), .ref sh, .ref qe, .ref qp, .int (nI no), .ref qn, .int (nI np)]))], [(qr, aI Z 100 R)], [(sh, .inr (7, [.ref sq, .int (nI n)]))], [(sq, aB Z SL f)], [(qe, aI Z 100 E)], [(qp, aI Z 100 Pp)], [(qn, aI Z 100 N)]] [] [0, 1, 2, 3, 4, 5, 6] rfl 7 (by decide) rfl rfl rfl rfl)
    refine kc_i (Wc := [(pa, .inr (5, [.ref qr, .int (nI nr), .ref sh, .ref qe, .ref qp, .int (nI no), .ref qn, .int (nI np)])), (qr, aI Z 100 R), (sh, .inr (7, [.ref sq, .int (nI n)])), (sq, aB Z SL f), (qe, aI Z 100 E), (qp, aI Z 100 Pp), (qn, aI Z 100 N)]) (Wr := []) G hX (krV 1 rfl (As := [.int (nI (k - 1))]) (rest := []) (ci := 5) (CC := RX4) (T := TX4) (N := 8) C G hX (c_X4_endOf Z l pa qr sh sq qe qp qn SL nr no np n f R E Pp N (k - 1) (by omega) hno _) (gdV ml_X4_56 im_X4_endOf se_X4_endOf ii_X4 co_X4_endOf) (by decide +kernel) ⟨Nat.le_of_ble_eq_true rfl, Nat.le_of_ble_eq_true rfl⟩ rfl 0 rfl hl rfl (Nat.le_of_ble_eq_true rfl) ⟨Nat.le_of_ble_eq_true rfl, Nat.le_of_ble_eq_true rfl⟩ dX4_startOf_12) (fun r_12 u H locs hu G => ?_)
    obtain ⟨r_12_e, rfl⟩ := hu
    subst r_12_e
    have G : wd Z A s ([(pa, .inr (5, [.ref qr, .int (nI nr), .ref sh, .ref qe, .ref qp, .int (nI no), .ref qn, .int (nI np)])), (qr, aI Z 100 R), (sh, .inr (7, [.ref sq, .int (nI n)])), (sq, aB Z SL f), (qe, aI Z 100 E), (qp, aI Z 100 Pp), (qn, aI Z 100 N)]) H locs := G.perm (show List.Perm (α := Nat × va_E) (([(pa, .inr (5, [.ref qr, .int (nI nr), .ref sh, .ref qe, .ref qp, .int (nI no), .ref qn, .int (nI np)])), (qr, aI Z 100 R), (sh, .inr (7, [.ref sq, .int (nI n)])), (sq, aB Z SL f), (qe, aI Z 100 E), (qp, aI Z 100 Pp), (qn, aI Z 100 N)]) ++ ([])) ([(pa, .inr (5, [.ref qr, .int (nI nr), .ref sh, .ref qe, .ref qp, .int (nI no), .ref qn, .int (nI np)])), (qr, aI Z 100 R), (sh, .inr (7, [.ref sq, .int (nI n)])), (sq, aB Z SL f), (qe, aI Z 100 E), (qp, aI Z 100 Pp), (qn, aI Z 100 N)]) from (perm_sg [[(pa, .inr (5, [.ref qr, .int (nI nr), .ref sh, .ref qe, .ref qp, .int (nI no), .ref qn, .int (nI np)]))], [(qr, aI Z 100 R)], [(sh, .inr (7, [.ref sq, .int (nI n)]))], [(sq, aB Z SL f)], [(qe, aI Z 100 E)], [(qp, aI Z 100 Pp)], [(qn, aI Z 100 N)]] [[(pa, .inr (5, [.ref qr, .int (nI nr), .ref sh, .ref qe, .ref qp, .int (nI no), .ref qn, .int (nI np)]))], [(qr, aI Z 100 R)], [(sh, .inr (7, [.ref sq, .int (nI n)]))], [(sq, aB Z SL f)], [(qe, aI Z 100 E)], [(qp, aI Z 100 Pp)], [(qn, aI Z 100 N)]] [] [0, 1, 2, 3, 4, 5, 6] rfl 7 (by decide) rfl rfl rfl rfl).symm)
    exact kr_i C G ⟨by rw [if_neg (fun z => absurd c_1 (by rw [z]; decide))], rfl⟩ (Nat.le_of_ble_eq_true rfl) (Nat.le_of_ble_eq_true rfl) dX4_startOf_15
  · refine lv_iconst (v := 0) hx hb dX4_startOf_4 (by decide) ?_
    refine lv_goto (tgt := 15) hx hb dX4_startOf_5 (by decide) ?_
    exact kr_i C G ⟨by rw [if_pos (le0_k (by omega) c_1)], rfl⟩ (Nat.le_of_ble_eq_true rfl) (Nat.le_of_ble_eq_true rfl) dX4_startOf_15
set_option maxRecDepth 100000 in
set_option maxHeartbeats 4000000 in
theorem lp_X4_wantPut {p : Program} {l : Launch} {e : Env} {s : State} {m : MethodId} {args : Array Value} {below : List Frame} {meth : Method} {c : Code} {Z : zT} {A : Nat → Prop} {pa qr sh sq qe qp qn SL nr no np n d a ql : Nat} {mc : Int32} {f R1 E Pp N : Nat → Int32} {ar : arT} {bl : List blT} {post : va_W → Prop} (C : cx p s m args meth c cX4_wantPut 3 none RX4 "wantPut") (hnp : np ≤ 100) (hok : shOk Z ql ar bl) (hso : bSo bl) (hp : post (plW Z pa qr sh sq qe qp qn SL nr no np n f R1 E Pp N ++ shW Z d a mc ql ar (waF N bl np))) : ∀ (n1 k : Nat), k + n1 = np → ∀ (H : Heap) (locs : List Loc) (ls : Array Slot), wd Z A s (plW Z pa qr sh sq qe qp qn SL nr no np n f R1 E Pp N ++ shW Z d a mc ql ar (waF N bl k)) H locs → lv_has ls 3 [(2, .int (nI k)), (0, .ref pa), (1, .ref d)] → W p l e ({ frames := 6, cells := 0, slots := 0, locals := 180 }) s m args below meth c H locs 0 0 (MQ below (va_Qv post (mB Z A) A) args s 0 0 A) (F0 m 2 ls []) := by
  have hx := C.1
  have hb := C.2.1
  have hown := C.2.2.2.2.2.1
  have hts := C.2.2.2.2.2.2.1
  intro n1
  induction n1 with
  | zero =>
    intro k hk H locs ls G hl
    refine lv_iload_n hx hb dX4_wantPut_2 rfl (lv_at hl 0 rfl) ?_
    refine lv_aload_n hx hb dX4_wantPut_3 rfl (lv_at hl 1 rfl) ?_
    refine k_get (ci := 5) (CC := RX4) (T := TX4) (N := 8) (v := .int (nI np)) C G 0 rfl rfl in_5 7 (by decide) fl_X4_41 rfl rfl dX4_wantPut_4 ?_
    refine lv_icmp_ge (tgt := 35) hx hb dX4_wantPut_7 (by decide) (fun c_7 => ?_) (fun c_7 => ?_)
    · have ek : k = np := by omega
      rw [ek] at G
      exact kr_v C G hp (Nat.le_of_ble_eq_true rfl) (Nat.le_of_ble_eq_true rfl) dX4_wantPut_35
    · exact absurd (nI_le (by omega) (by omega)) c_7
  | succ n1 ih =>
    intro k hk H locs ls G hl
    refine lv_iload_n hx hb dX4_wantPut_2 rfl (lv_at hl 0 rfl) ?_
    refine lv_aload_n hx hb dX4_wantPut_3 rfl (lv_at hl 1 rfl) ?_
    refine k_get (ci := 5) (CC := RX4) (T := TX4) (N := 8) (v := .int (nI np)) C G 0 rfl rfl in_5 7 (by decide) fl_X4_41 rfl rfl dX4_wantPut_4 ?_
    refine lv_icmp_ge (tgt := 35) hx hb dX4_wantPut_7 (by decide) (fun c_7 => ?_) (fun c_7 => ?_)
    · exact absurd c_7 (nI_ge (by omega) (by omega))
    · refine lv_iload_n hx hb dX4_wantPut_10 rfl (lv_at hl 0 rfl) ?_
      refine lv_aload_n hx hb dX4_wantPut_11 rfl (lv_at hl 1 rfl) ?_
      refine k_get (ci := 5) (CC := RX4) (T := TX4) (N := 8) (v := .ref qn) C G 0 rfl rfl in_5 6 (by decide) fl_X4_28 rfl rfl dX4_wantPut_12 ?_
      refine k_alen (ty := .int) C G 6 1 rfl rfl dX4_wantPut_15 ?_
      refine lv_icmp_ge (tgt := 35) hx hb dX4_wantPut_16 (by decide) (fun c_16 => ?_) (fun c_16 => ?_)
      · exact absurd c_16 (nI_ge (b := 100) (by omega) (by omega))
      · refine lv_aload_n hx hb dX4_wantPut_19 rfl (lv_at hl 2 rfl) ?_
        refine lv_aload_n hx hb dX4_wantPut_20 rfl (lv_at hl 1 rfl) ?_
        refine k_get (ci := 5) (CC := RX4) (T := TX4) (N := 8) (v := .ref qn) C G 0 rfl rfl in_5 6 (by decide) fl_X4_28 rfl rfl dX4_wantPut_21 ?_
        refine lv_iload_n hx hb dX4_wantPut_24 rfl (lv_at hl 0 rfl) ?_
        have h_25 : vp_in (nI k) 100 := by exact vp_in_nI (by omega) (by omega)
        refine k_iald C G 6 rfl h_25 dX4_wantPut_25 ?_
        refine k_topi (y := N k) (by rw [nI_clamp (by omega)]) ?_
        have hX : List.Perm (α := Nat × va_E) ([(pa, .inr (5, [.ref qr, .int (nI nr), .ref sh, .ref qe, .ref qp, .int (nI no), .ref qn, .int (nI np)])), (qr, aI Z 100 R1), (sh, .inr (7, [.ref sq, .int (nI n)])), (sq, aB Z SL f), (qe, aI Z 100 E), (qp, aI Z 100 Pp), (qn, aI Z 100 N)] ++ shW Z d a mc ql ar (waF N bl k)) ((shW Z d a mc ql ar (waF N bl k)) ++ ([(pa, .inr (5, [.ref qr, .int (nI nr), .ref sh, .ref qe, .ref qp, .int (nI no), .ref qn, .int (nI np)])), (qr, aI Z 100 R1), (sh, .inr (7, [.ref sq, .int (nI n)])), (sq, aB Z SL f), (qe, aI Z 100 E), (qp, aI Z 100 Pp), (qn, aI Z 100 N)])) := (perm_sg [[(pa, .inr (5, [.ref qr, .int (nI nr), .ref sh, .ref qe, .ref qp, .int (nI no), .ref qn, .int (nI np)]))], [(qr, aI Z 100 R1)], [(sh, .inr (7, [.ref sq, .int (nI n)]))], [(sq, aB Z SL f)], [(qe, aI Z 100 E)], [(qp, aI Z 100 Pp)], [(qn, aI Z 100 N)], shW Z d a mc ql ar (waF N bl k)] [shW Z d a mc ql ar (waF N bl k)] [[(pa, .inr (5, [.ref qr, .int (nI nr), .ref sh, .ref qe, .ref qp, .int (nI no), .ref qn, .int (nI np)]))], [(qr, aI Z 100 R1)], [(sh, .inr (7, [.ref sq, .int (nI n)]))], [(sq, aB Z SL f)], [(qe, aI Z 100 E)], [(qp, aI Z 100 Pp)], [(qn, aI Z 100 N)]] [7, 0, 1, 2, 3, 4, 5, 6] rfl 8 (by decide) rfl rfl rfl rfl)
        refine kc_v (Wc := shW Z d a mc ql ar (waF N bl k)) (Wr := [(pa, .inr (5, [.ref qr, .int (nI nr), .ref sh, .ref qe, .ref qp, .int (nI no), .ref qn, .int (nI np)])), (qr, aI Z 100 R1), (sh, .inr (7, [.ref sq, .int (nI n)])), (sq, aB Z SL f), (qe, aI Z 100 E), (qp, aI Z 100 Pp), (qn, aI Z 100 N)]) G hX (krV 1 rfl (As := [.int (N k)]) (rest := []) (ci := 6) (CC := RX5) (T := TX5) (N := 1) C G hX (c_X5_want Z l d a ql mc ar (waF N bl k) (hok.set (waF_ad N bl _)) (hso.same (waF_nu N bl _)) (N k) _) (gdV ml_X4_60 im_X5_want se_X5_want ii_X5 co_X5_want) (by decide +kernel) ⟨Nat.le_of_ble_eq_true rfl, Nat.le_of_ble_eq_true rfl⟩ rfl 0 rfl hl rfl (Nat.le_of_ble_eq_true rfl) ⟨Nat.le_of_ble_eq_true rfl, Nat.le_of_ble_eq_true rfl⟩ dX4_wantPut_26) (fun u H locs hu G => ?_)
        subst hu
        have G : wd Z A s ([(pa, .inr (5, [.ref qr, .int (nI nr), .ref sh, .ref qe, .ref qp, .int (nI no), .ref qn, .int (nI np)])), (qr, aI Z 100 R1), (sh, .inr (7, [.ref sq, .int (nI n)])), (sq, aB Z SL f), (qe, aI Z 100 E), (qp, aI Z 100 Pp), (qn, aI Z 100 N)] ++ shW Z d a mc ql ar (waF N bl (k + 1))) H locs := G.perm (show List.Perm (α := Nat × va_E) ((shW Z d a mc ql ar (waF N bl (k + 1))) ++ ([(pa, .inr (5, [.ref qr, .int (nI nr), .ref sh, .ref qe, .ref qp, .int (nI no), .ref qn, .int (nI np)])), (qr, aI Z 100 R1), (sh, .inr (7, [.ref sq, .int (nI n)])), (sq, aB Z SL f), (qe, aI Z 100 E), (qp, aI Z 100 Pp), (qn, aI Z 100 N)])) ([(pa, .inr (5, [.ref qr, .int (nI nr), .ref sh, .ref qe, .ref qp, .int (nI no), .ref qn, .int (nI np)])), (qr, aI Z 100 R1), (sh, .inr (7, [.ref sq, .int (nI n)])), (sq, aB Z SL f), (qe, aI Z 100 E), (qp, aI Z 100 Pp), (qn, aI Z 100 N)] ++ shW Z d a mc ql ar (waF N bl (k + 1))) from (perm_sg [[(pa, .inr (5, [.ref qr, .int (nI nr), .ref sh, .ref qe, .ref qp, .int (nI no), .ref qn, .int (nI np)]))], [(qr, aI Z 100 R1)], [(sh, .inr (7, [.ref sq, .int (nI n)]))], [(sq, aB Z SL f)], [(qe, aI Z 100 E)], [(qp, aI Z 100 Pp)], [(qn, aI Z 100 N)], shW Z d a mc ql ar (waF N bl (k + 1))] [shW Z d a mc ql ar (waF N bl (k + 1))] [[(pa, .inr (5, [.ref qr, .int (nI nr), .ref sh, .ref qe, .ref qp, .int (nI no), .ref qn, .int (nI np)]))], [(qr, aI Z 100 R1)], [(sh, .inr (7, [.ref sq, .int (nI n)]))], [(sq, aB Z SL f)], [(qe, aI Z 100 E)], [(qp, aI Z 100 Pp)], [(qn, aI Z 100 N)]] [7, 0, 1, 2, 3, 4, 5, 6] rfl 8 (by decide) rfl rfl rfl rfl).symm)
        refine lv_iinc (v := nI (k + 1)) (lv' := [(2, .int (nI (k + 1))), (0, .ref pa), (1, .ref d)]) hx hb dX4_wantPut_29 hl (k := 0) rfl (nI_1 _) (by decide) rfl (fun ls hl => ?_)
        refine lv_goto (tgt := 2) hx hb dX4_wantPut_32 (by decide) ?_
        exact ih (k + 1) (by omega) _ _ _ G (lv_sub hl [0, 1, 2] rfl)
set_option maxRecDepth 100000 in
set_option maxHeartbeats 4000000 in
theorem c_X4_wantPut (Z : zT) (l : Launch) (pa qr sh sq qe qp qn SL nr no np n : Nat) (f R E Pp N : Nat → Int32) (d a ql : Nat) (mc : Int32) (ar : arT) (bl : List blT) (hnp : np ≤ 100) (hok : shOk Z ql ar bl) (hso : bSo bl) : Kv Z l yX4_wantPut cX4_wantPut 3 none ({ frames := 6, cells := 0, slots := 0, locals := 180 }) [.ref pa, .ref d] (plW Z pa qr sh sq qe qp qn SL nr no np n f R E Pp N ++ shW Z d a mc ql ar (waF N bl 0)) (fun u => u = (plW Z pa qr sh sq qe qp qn SL nr no np n f R E Pp N ++ shW Z d a mc ql ar (waF N bl np))) := by
  intro sz
  refine Met.ofK (cc := cX4_wantPut) (maxL := 3) (ret := none) (by decide) (Nat.le_of_ble_eq_true rfl) ?_
  intro p e s m below meth c ls C G hl
  generalize va_A _ sz = A at G ⊢
  have hx := C.1
  have hb := C.2.1
  have hown := C.2.2.2.2.2.1
  have hts := C.2.2.2.2.2.2.1
  refine lv_iconst (v := 0) hx hb dX4_wantPut_0 (by decide) ?_
  refine k_topi (y := nI 0) (by rfl) ?_
  refine lv_istore_n (lv' := [(2, .int (nI 0)), (0, .ref pa), (1, .ref d)]) hx hb dX4_wantPut_1 rfl hl (by decide) rfl (fun ls hl => ?_)
  exact lp_X4_wantPut (post := fun u => u = (plW Z pa qr sh sq qe qp qn SL nr no np n f R E Pp N ++ shW Z d a mc ql ar (waF N bl np))) C hnp hok hso rfl np 0 (by omega) _ _ _ G (lv_sub hl [0, 1, 2] rfl)
