/-! THE LAW, from its entry. -/
theorem eq_ev {args : Array Value} {s : State} {tm : Term} {z : Int32} (h : (Cond.eq tm (.int z)).before args s = true) : tm.eval args s none [] s = some (.int z) := by
  cases hv : tm.eval args s none [] s with
  | none => simp [Cond.before, Cond.holds, Cond.value, hv] at h
  | some w =>
    have hz : (Term.int z).eval args s none [] s = some (.int z) := rfl
    simp only [Cond.before, Cond.holds, Cond.value, hv, hz] at h
    cases w <;> simp_all
theorem arr_byte {args : Array Value} {s : State} (h : (Cond.arrayClass .byte).before args s = true) : ∃ cA : ClassId, ArrOfT s cA .byte ∧ va_RA s cA .byte := by
  obtain ⟨cA, kA, comp, h1, h2, h3⟩ := Cond.arrayClass_spec h
  exact ⟨cA, fun n z => ⟨fun k h => (by cases h), kA, h2, comp, h3⟩, h1⟩
theorem arr_int {args : Array Value} {s : State} (h : (Cond.arrayClass .int).before args s = true) : ∃ cA : ClassId, ArrOfT s cA .int ∧ va_RA s cA .int := by
  obtain ⟨cA, kA, comp, h1, h2, h3⟩ := Cond.arrayClass_spec h
  exact ⟨cA, fun n z => ⟨fun k h => (by cases h), kA, h2, comp, h3⟩, h1⟩
theorem arr_boolean {args : Array Value} {s : State} (h : (Cond.arrayClass .boolean).before args s = true) : ∃ cA : ClassId, ArrOfT s cA .boolean ∧ va_RA s cA .boolean := by
  obtain ⟨cA, kA, comp, h1, h2, h3⟩ := Cond.arrayClass_spec h
  exact ⟨cA, fun n z => ⟨fun k h => (by cases h), kA, h2, comp, h3⟩, h1⟩
theorem arr_obj {args : Array Value} {s : State} {C : String} (h : (Cond.arrayOver (.object C)).before args s = true) : ∃ cA : ClassId, ArrOfT s cA (.object C) ∧ va_RA s cA (.object C) := by
  obtain ⟨comp, cA, kA, f1, f2, f3, f4, f5⟩ := Cond.arrayOver_spec h
  exact ⟨cA, fun n z => ⟨fun k h => (by cases h), kA, f3, comp, f4⟩, ⟨kA, comp, f3, f4, f1, f5⟩⟩
theorem ns_tab : ∀ w ∈ nsW, w.onTables = true := by
  intro w hw
  simp only [nsW, List.mem_cons, List.mem_nil_iff, or_false] at hw
  rcases hw with rfl | rfl | rfl | rfl | rfl | rfl | rfl | rfl | rfl | rfl | rfl | rfl | rfl | rfl | rfl | rfl | rfl | rfl | rfl | rfl | rfl <;> rfl
theorem ns_tbl : ∀ w ∈ nsW, w ∈ lw_tbl := by
  intro w hw
  simp only [nsW, List.mem_cons, List.mem_nil_iff, or_false] at hw
  rcases hw with rfl | rfl | rfl | rfl | rfl | rfl | rfl | rfl | rfl | rfl | rfl | rfl | rfl | rfl | rfl | rfl | rfl | rfl | rfl | rfl | rfl <;> decide +kernel
set_option maxRecDepth 100000 in
set_option maxHeartbeats 4000000 in
theorem whole_start {p : Program} {e : Env} {s : State} {m : MethodId} {below : List Frame} {meth : Method} {c : Code} (l : Launch) {b L : Nat} {xs : Nat → Int32} (hL : L ≤ 3072) (C0 : lw_At p s m meth c b L xs) : W p l e room_1 s m #[Value.ref b] below meth c s.heap [] 0 0 (lw_Z below #[Value.ref b] s) (entryFrame m ([Value.ref b] : List Value).toArray 4) := by
  obtain ⟨hx, hb, hr, hml, hown, hts0, hX, hbl, hlocks, hgv⟩ := id C0
  have hts : ∀ w ∈ allW, w.before #[Value.ref b] s = true := fun w hw => hts0 w (List.mem_filter.mp hw).1
  have hfl := flat_of_before _ hgv
  have hbA : ¬ (fun q : Nat => s.heap.size ≤ q) b := Nat.not_le.mpr hbl
  have hA0 : ∀ a : Nat, a < s.heap.size → ¬ (fun q : Nat => s.heap.size ≤ q) a := fun a h => Nat.not_le.mpr h
  obtain ⟨c0, j0, k0⟩ := u_known (C := RJx4a65c) (T := TJx4a65c) (N := 3) (n := 3) hts in_0 (hts _ ib_Jx4a65c)
  obtain ⟨c1, j1, k1⟩ := u_known (C := RX0) (T := TX0) (N := 6) (n := 6) hts in_1 (hts _ ib_X0)
  obtain ⟨c2, j2, k2⟩ := u_known (C := RX1) (T := TX1) (N := 6) (n := 6) hts in_2 (hts _ ib_X1)
  obtain ⟨c3, j3, k3⟩ := u_known (C := RX2) (T := TX2) (N := 3) (n := 3) hts in_3 (hts _ ib_X2)
  obtain ⟨c4, j4, k4⟩ := u_known (C := RX3) (T := TX3) (N := 3) (n := 3) hts in_4 (hts _ ib_X3)
  obtain ⟨c5, j5, k5⟩ := u_known (C := RX4) (T := TX4) (N := 8) (n := 8) hts in_5 (hts _ ib_X4)
  obtain ⟨c6, j6, k6⟩ := u_known (C := RX5) (T := TX5) (N := 1) (n := 1) hts in_6 (hts _ ib_X5)
  obtain ⟨c7, j7, k7⟩ := u_known (C := RX6) (T := TX6) (N := 2) (n := 2) hts in_7 (hts _ ib_X6)
  obtain ⟨c8, j8, k8⟩ := u_known (C := RX7) (T := TX7) (N := 4) (n := 4) hts in_8 (hts _ ib_X7)
  obtain ⟨c9, j9, k9⟩ := u_known (C := RX8) (T := TX8) (N := 6) (n := 6) hts in_9 (hts _ ib_X8)
  obtain ⟨c10, j10, k10⟩ := u_known (C := RX9) (T := TX9) (N := 15) (n := 15) hts in_10 (hts _ ib_X9)
  obtain ⟨c11, j11, k11⟩ := u_known (C := RX10) (T := TX10) (N := 14) (n := 14) hts in_11 (hts _ ib_X10)
  obtain ⟨c12, j12, k12⟩ := u_known (C := RX11) (T := TX11) (N := 61) (n := 61) hts in_12 (hts _ ib_X11)
  obtain ⟨dC, dI, hKc⟩ : ∃ (dC : Nat → ClassId) (dI : Nat → Nat → Nat), ∀ (k : Nat) (q : vw_C), vwCl[k]? = some q → u_Kn s q.1 q.2.1 q.2.2 (dC k) (dI k) := by
    refine ⟨fun k => if k = 0 then c0 else if k = 1 then c1 else if k = 2 then c2 else if k = 3 then c3 else if k = 4 then c4 else if k = 5 then c5 else if k = 6 then c6 else if k = 7 then c7 else if k = 8 then c8 else if k = 9 then c9 else if k = 10 then c10 else if k = 11 then c11 else c12, fun k => if k = 0 then j0 else if k = 1 then j1 else if k = 2 then j2 else if k = 3 then j3 else if k = 4 then j4 else if k = 5 then j5 else if k = 6 then j6 else if k = 7 then j7 else if k = 8 then j8 else if k = 9 then j9 else if k = 10 then j10 else if k = 11 then j11 else j12, ?_⟩
    intro k q hq
    match k, hq with
    | 0, hq => cases hq; exact k0
    | 1, hq => cases hq; exact k1
    | 2, hq => cases hq; exact k2
    | 3, hq => cases hq; exact k3
    | 4, hq => cases hq; exact k4
    | 5, hq => cases hq; exact k5
    | 6, hq => cases hq; exact k6
    | 7, hq => cases hq; exact k7
    | 8, hq => cases hq; exact k8
    | 9, hq => cases hq; exact k9
    | 10, hq => cases hq; exact k10
    | 11, hq => cases hq; exact k11
    | 12, hq => cases hq; exact k12
    | k + 13, hq => simp [vwCl] at hq
  obtain ⟨a0, x0⟩ := arr_byte (hts _ ac_byte)
  obtain ⟨a1, x1⟩ := arr_int (hts _ ac_int)
  obtain ⟨a2, x2⟩ := arr_boolean (hts _ ac_boolean)
  have hao3 : (Cond.arrayOver (.object "LakeTable$Writer")).before #[Value.ref b] s = true := hts0 _ (by decide +kernel)
  have hao4 : (Cond.arrayOver (.object "java/lang/Object")).before #[Value.ref b] s = true := hts0 _ (by decide +kernel)
  obtain ⟨a3, x3⟩ := arr_obj hao3
  obtain ⟨a4, x4⟩ := arr_obj hao4
  obtain ⟨cy, hcy⟩ : ∃ cy : Nat → ClassId, cy 0 = a0 ∧ cy 1 = a1 ∧ cy 2 = a2 ∧ cy 3 = a3 ∧ cy 4 = a4 := ⟨fun k => if k = 0 then a0 else if k = 1 then a1 else if k = 2 then a2 else if k = 3 then a3 else a4, rfl, rfl, rfl, rfl, rfl⟩
  have hK : va_K (dC, dI) vwCl (tyA cy) s := by
    refine ⟨hKc, fun k q hq => ?_⟩
    match k, hq with
    | 0, hq => cases hq; rw [hcy.1]; exact x0
    | 1, hq => cases hq; rw [hcy.2.1]; exact x1
    | 2, hq => cases hq; rw [hcy.2.2.1]; exact x2
    | 3, hq => cases hq; rw [hcy.2.2.2.1]; exact x3
    | 4, hq => cases hq; rw [hcy.2.2.2.2]; exact x4
    | k + 5, hq => simp [tyA] at hq
  obtain ⟨t1, ht1, hT1⟩ := va_Tof (args := #[Value.ref b]) (s := s) (tm := .static "LakeTable" "HALF_BYTE_CHECKS" "[I") (ty := .int) (N := 16) (f := fun j => .int (hbT.getD j 0)) (A := fun q : Nat => s.heap.size ≤ q) (by omega) (hfl _ (by decide +kernel)) (eq_ev (z := 16) (hfl _ (by decide +kernel))) (fun j hj => by
    rcases (show j = 0 ∨ j = 1 ∨ j = 2 ∨ j = 3 ∨ j = 4 ∨ j = 5 ∨ j = 6 ∨ j = 7 ∨ j = 8 ∨ j = 9 ∨ j = 10 ∨ j = 11 ∨ j = 12 ∨ j = 13 ∨ j = 14 ∨ j = 15 by omega) with z | z | z | z | z | z | z | z | z | z | z | z | z | z | z | z <;> subst z <;> exact eq_ev (hfl _ (by decide +kernel))) hA0
  obtain ⟨t2, ht2, hT2⟩ := va_Tof (args := #[Value.ref b]) (s := s) (tm := .static "java/util/ArrayList" "DEFAULTCAPACITY_EMPTY_ELEMENTDATA" "[Ljava/lang/Object;") (ty := .object "java/lang/Object") (N := 0) (f := fun _ => .null) (A := fun q : Nat => s.heap.size ≤ q) (by omega) (hfl _ (by decide +kernel)) (eq_ev (z := 0) (hfl _ (by decide +kernel))) (fun j hj => absurd hj (Nat.not_lt_zero j)) hA0
  have hZ1 := va_Zref (A := fun q : Nat => s.heap.size ≤ q) (hts0 (.laysStatic "LakeTable" "HALF_BYTE_CHECKS" "[I") (by decide +kernel)) (hts0 (.initialized "LakeTable") (by decide +kernel)) ht1 hA0
  have hZ2 := va_Zref (A := fun q : Nat => s.heap.size ≤ q) (hts0 (.laysStatic "java/util/ArrayList" "DEFAULTCAPACITY_EMPTY_ELEMENTDATA" "[Ljava/lang/Object;") (by decide +kernel)) (hts0 (.initialized "java/util/ArrayList") (by decide +kernel)) ht2 hA0
  obtain ⟨mi, hMi⟩ := va_Mi.of (args := #[Value.ref b]) (s := s) (C := "[Ljava/lang/Object;") (hfl _ (by decide +kernel))
  have hns : ∀ w ∈ nsW, va_Nw w s := fun w hw => va_Nw.of (ns_tab w hw) (hts0 w (ns_tbl w hw))
  obtain ⟨Z, hZ⟩ : ∃ Z : zT, Z = ((dC, dI), cy, (t1, t2, mi)) := ⟨_, rfl⟩
  have G : wd Z (fun q : Nat => s.heap.size ≤ q) s [] s.heap [] := by
    rw [hZ]
    exact ⟨fun k q h => by simp at h, hK, ⟨fun i j p q h => by simp at h, fun k q h => by simp at h⟩, va_S.rf, fun q h => h, hZ1, hT1, hZ2, hT2, hMi, hns, va_AO.of hao4, va_AO.of hao3⟩
  have C : cx p s m #[Value.ref b] meth c cL_law 4 (some .boolean) RL meth.name := ⟨hx, hb, hr, hlocks, hml, hown, hts, rfl⟩
  have hl := lv_entry ([.ref b]) (n := 4) (Nat.le_of_ble_eq_true rfl)
  rw [lg_entry_eq]
  generalize (lg_sl ([.ref b]) ++ List.replicate (4 - (lg_sl ([.ref b])).length) Slot.unset).toArray = ls at hl ⊢
  have hl : lv_has ls 4 [(0, .ref b)] := hl
  refine k_new (ci := 11) (CC := RX10) (T := TX10) (N := 14) (fs := [.null, .null, .int 0, .int 0, .int 0, .int 0, .int 0, .int 0, .int 0, .null, .null, .null, .null, .null]) C G rfl in_11 tyX10 tyX10_ok cl_L_7 ib_X10 ii_X10 (by decide) (Nat.le_of_ble_eq_true rfl) (Nat.le_of_ble_eq_true rfl) dL_law_0 (fun t H (G : wd Z (fun q : Nat => s.heap.size ≤ q) s [(t, .inr (11, [.null, .null, .int 0, .int 0, .int 0, .int 0, .int 0, .int 0, .int 0, .null, .null, .null, .null, .null]))] H _) => ?_)
  refine lv_dup hx hb dL_law_3 rfl ?_
  have hX1 : List.Perm (α := Nat × va_E) [(t, .inr (11, [.null, .null, .int 0, .int 0, .int 0, .int 0, .int 0, .int 0, .int 0, .null, .null, .null, .null, .null]))] ([(t, .inr (11, [.null, .null, .int 0, .int 0, .int 0, .int 0, .int 0, .int 0, .int 0, .null, .null, .null, .null, .null]))] ++ []) := by rw [List.append_nil]
  refine kc_v (Wc := [(t, .inr (11, [.null, .null, .int 0, .int 0, .int 0, .int 0, .int 0, .int 0, .int 0, .null, .null, .null, .null, .null]))]) (Wr := []) G hX1 (krI 0 rfl (As := []) (rest := [.ref t]) C G hX1 (c_X10_init Z l t _) (gdP co_X10_init) ml_L_9 im_X10_init ii_X10 rfl (by decide +kernel) ⟨(Nat.le_of_ble_eq_true rfl), (Nat.le_of_ble_eq_true rfl)⟩ hl rfl (Nat.le_of_ble_eq_true rfl) ⟨(Nat.le_of_ble_eq_true rfl), (Nat.le_of_ble_eq_true rfl)⟩ dL_law_4) (fun u H locs hu G => ?_)
  rw [List.append_nil] at G
  refine lv_astore_n (lv' := [(1, .ref t), (0, .ref b)]) hx hb dL_law_7 rfl hl (by decide) rfl (fun ls hl => ?_)
  refine k_new (ci := 12) (CC := RX11) (T := TX11) (N := 61) (fs := (.null :: .null :: .null :: .null :: .int 0 :: .int 0 :: .int 0 :: .int 0 :: .int 0 :: .int 0 :: .int 0 :: .int 0 :: .int 0 :: .int 0 :: .null :: .int 0 :: .int 0 :: .int 0 :: .int 0 :: .int 0 :: .int 0 :: .null :: .null :: .null :: .null :: .null :: .int 0 :: .null :: .null :: .null :: .int 0 :: .null :: .null :: .null :: .null :: .null :: .null :: .null :: .null :: .null :: .null :: .null :: .null :: .null :: .null :: .null :: .null :: .null :: .null :: .null :: .null :: .null :: .null :: .null :: .null :: .null :: .null :: .null :: .null :: .null :: .null :: [])) C G rfl in_12 tyX11 tyX11_ok cl_L_10 ib_X11 ii_X11 (by decide) (Nat.le_of_ble_eq_true rfl) (Nat.le_of_ble_eq_true rfl) dL_law_8 (fun h H (G : wd Z (fun q : Nat => s.heap.size ≤ q) s (u ++ [(h, .inr (12, (.null :: .null :: .null :: .null :: .int 0 :: .int 0 :: .int 0 :: .int 0 :: .int 0 :: .int 0 :: .int 0 :: .int 0 :: .int 0 :: .int 0 :: .null :: .int 0 :: .int 0 :: .int 0 :: .int 0 :: .int 0 :: .int 0 :: .null :: .null :: .null :: .null :: .null :: .int 0 :: .null :: .null :: .null :: .int 0 :: .null :: .null :: .null :: .null :: .null :: .null :: .null :: .null :: .null :: .null :: .null :: .null :: .null :: .null :: .null :: .null :: .null :: .null :: .null :: .null :: .null :: .null :: .null :: .null :: .null :: .null :: .null :: .null :: .null :: .null :: [])))]) H _) => ?_)
  refine lv_dup hx hb dL_law_11 rfl ?_
  refine kc_v (Wc := [(h, .inr (12, (.null :: .null :: .null :: .null :: .int 0 :: .int 0 :: .int 0 :: .int 0 :: .int 0 :: .int 0 :: .int 0 :: .int 0 :: .int 0 :: .int 0 :: .null :: .int 0 :: .int 0 :: .int 0 :: .int 0 :: .int 0 :: .int 0 :: .null :: .null :: .null :: .null :: .null :: .int 0 :: .null :: .null :: .null :: .int 0 :: .null :: .null :: .null :: .null :: .null :: .null :: .null :: .null :: .null :: .null :: .null :: .null :: .null :: .null :: .null :: .null :: .null :: .null :: .null :: .null :: .null :: .null :: .null :: .null :: .null :: .null :: .null :: .null :: .null :: .null :: [])))]) (Wr := u) G List.perm_append_comm (krI 0 rfl (As := []) (rest := [.ref h]) C G List.perm_append_comm (c_X11_init Z l h _) (gdP co_X11_init) ml_L_12 im_X11_init ii_X11 rfl (by decide +kernel) ⟨(Nat.le_of_ble_eq_true rfl), (Nat.le_of_ble_eq_true rfl)⟩ hl rfl (Nat.le_of_ble_eq_true rfl) ⟨(Nat.le_of_ble_eq_true rfl), (Nat.le_of_ble_eq_true rfl)⟩ dL_law_12) (fun u2 H locs hu2 G => ?_)
  obtain ⟨ad, rfl⟩ := hu2
  refine lv_astore_n (lv' := [(2, .ref h), (1, .ref t), (0, .ref b)]) hx hb dL_law_15 rfl hl (by decide) rfl (fun ls hl => ?_)
  refine lv_iconst (v := 0) hx hb dL_law_16 (by decide) ?_
  refine k_topi (y := nI (6 * 0)) rfl ?_
  refine lv_istore_n (lv' := [(3, .int (nI (6 * 0))), (2, .ref h), (1, .ref t), (0, .ref b)]) hx hb dL_law_17 rfl hl (by decide) rfl (fun ls hl => ?_)
  obtain ⟨pc, ps, hV, h1, h2⟩ := cl_init hu
  exact law_loop C hX hbl hbA hL (fun q h => h) (fun H ls => lw_ret hx hb hr hlocks dL_law_832) 512 0 iv00 av00 [] pc ps _ _ u H _ ls (by omega) (G.perm List.perm_append_comm) hV (by show 0 + 1 + 100 + 1 + 43 + pc + 9 * 512 + 9 ≤ 600000; omega) (by show 0 + 14 + 6000 + 61 + 225349 + ps + 3945 * 512 + 3945 ≤ 7302250; omega) hl
